abbrev b_Mod_forget : ByteArray := prog_10_method_3_code
def y_Mod_forget : MethodName := ⟨R_Mod, "forget", "()V"⟩
def ws_Mod_forget : List Cond := Cond.code y_Mod_forget b_Mod_forget 2 none :: GW
theorem hd_Mod_forget : y_Mod_forget.cls ≠ "java/lang/invoke/MethodHandle" ∧ y_Mod_forget.cls ≠ "java/lang/invoke/VarHandle" ∧ (parseMethodDescriptor y_Mod_forget.desc).map (fun d => d.parameters.length) = some 0 := by decide +kernel
theorem d_Mod_forget_0 : decode b_Mod_forget 0 = .ok (.iconst 0, 1) := by decide +kernel
theorem d_Mod_forget_1 : decode b_Mod_forget 1 = .ok (.istore_n 1, 1) := by decide +kernel
theorem d_Mod_forget_2 : decode b_Mod_forget 2 = .ok (.iload_n 1, 1) := by decide +kernel
theorem d_Mod_forget_3 : decode b_Mod_forget 3 = .ok (.bipush 80, 2) := by decide +kernel
theorem d_Mod_forget_5 : decode b_Mod_forget 5 = .ok (.if_icmp .ge 16, 3) := by decide +kernel
theorem d_Mod_forget_8 : decode b_Mod_forget 8 = .ok (.aload_n 0, 1) := by decide +kernel
theorem d_Mod_forget_9 : decode b_Mod_forget 9 = .ok (.getfield 65, 3) := by decide +kernel
theorem d_Mod_forget_12 : decode b_Mod_forget 12 = .ok (.iload_n 1, 1) := by decide +kernel
theorem d_Mod_forget_13 : decode b_Mod_forget 13 = .ok (.iconst (-1), 1) := by decide +kernel
theorem d_Mod_forget_14 : decode b_Mod_forget 14 = .ok (.iastore, 1) := by decide +kernel
theorem d_Mod_forget_15 : decode b_Mod_forget 15 = .ok (.iinc 1 1, 3) := by decide +kernel
theorem d_Mod_forget_18 : decode b_Mod_forget 18 = .ok (.goto (-16), 3) := by decide +kernel
theorem d_Mod_forget_21 : decode b_Mod_forget 21 = .ok (.iconst 0, 1) := by decide +kernel
theorem d_Mod_forget_22 : decode b_Mod_forget 22 = .ok (.istore_n 1, 1) := by decide +kernel
theorem d_Mod_forget_23 : decode b_Mod_forget 23 = .ok (.iload_n 1, 1) := by decide +kernel
theorem d_Mod_forget_24 : decode b_Mod_forget 24 = .ok (.sipush 200, 3) := by decide +kernel
theorem d_Mod_forget_27 : decode b_Mod_forget 27 = .ok (.if_icmp .ge 16, 3) := by decide +kernel
theorem d_Mod_forget_30 : decode b_Mod_forget 30 = .ok (.aload_n 0, 1) := by decide +kernel
theorem d_Mod_forget_31 : decode b_Mod_forget 31 = .ok (.getfield 68, 3) := by decide +kernel
theorem d_Mod_forget_34 : decode b_Mod_forget 34 = .ok (.iload_n 1, 1) := by decide +kernel
theorem d_Mod_forget_35 : decode b_Mod_forget 35 = .ok (.iconst (-1), 1) := by decide +kernel
theorem d_Mod_forget_36 : decode b_Mod_forget 36 = .ok (.iastore, 1) := by decide +kernel
theorem d_Mod_forget_37 : decode b_Mod_forget 37 = .ok (.iinc 1 1, 3) := by decide +kernel
theorem d_Mod_forget_40 : decode b_Mod_forget 40 = .ok (.goto (-17), 3) := by decide +kernel
theorem d_Mod_forget_43 : decode b_Mod_forget 43 = .ok (.aload_n 0, 1) := by decide +kernel
theorem d_Mod_forget_44 : decode b_Mod_forget 44 = .ok (.iconst (-1), 1) := by decide +kernel
theorem d_Mod_forget_45 : decode b_Mod_forget 45 = .ok (.putfield 59, 3) := by decide +kernel
theorem d_Mod_forget_48 : decode b_Mod_forget 48 = .ok (.aload_n 0, 1) := by decide +kernel
theorem d_Mod_forget_49 : decode b_Mod_forget 49 = .ok (.iconst (-1), 1) := by decide +kernel
theorem d_Mod_forget_50 : decode b_Mod_forget 50 = .ok (.putfield 62, 3) := by decide +kernel
theorem d_Mod_forget_53 : decode b_Mod_forget 53 = .ok (.return_, 1) := by decide +kernel
abbrev b_Mod_init : ByteArray := prog_10_method_1_code
def y_Mod_init : MethodName := ⟨R_Mod, "<init>", "()V"⟩
def ws_Mod_init : List Cond := Cond.code y_Mod_init b_Mod_init 1 none :: GW
theorem hd_Mod_init : y_Mod_init.cls ≠ "java/lang/invoke/MethodHandle" ∧ y_Mod_init.cls ≠ "java/lang/invoke/VarHandle" ∧ (parseMethodDescriptor y_Mod_init.desc).map (fun d => d.parameters.length) = some 0 := by decide +kernel
theorem d_Mod_init_0 : decode b_Mod_init 0 = .ok (.aload_n 0, 1) := by decide +kernel
theorem d_Mod_init_1 : decode b_Mod_init 1 = .ok (.invokespecial 1, 3) := by decide +kernel
theorem d_Mod_init_4 : decode b_Mod_init 4 = .ok (.aload_n 0, 1) := by decide +kernel
theorem d_Mod_init_5 : decode b_Mod_init 5 = .ok (.iconst 1, 1) := by decide +kernel
theorem d_Mod_init_6 : decode b_Mod_init 6 = .ok (.putfield 7, 3) := by decide +kernel
theorem d_Mod_init_9 : decode b_Mod_init 9 = .ok (.aload_n 0, 1) := by decide +kernel
theorem d_Mod_init_10 : decode b_Mod_init 10 = .ok (.bipush 100, 2) := by decide +kernel
theorem d_Mod_init_12 : decode b_Mod_init 12 = .ok (.newarray .int, 2) := by decide +kernel
theorem d_Mod_init_14 : decode b_Mod_init 14 = .ok (.putfield 13, 3) := by decide +kernel
theorem d_Mod_init_17 : decode b_Mod_init 17 = .ok (.aload_n 0, 1) := by decide +kernel
theorem d_Mod_init_18 : decode b_Mod_init 18 = .ok (.bipush 100, 2) := by decide +kernel
theorem d_Mod_init_20 : decode b_Mod_init 20 = .ok (.newarray .int, 2) := by decide +kernel
theorem d_Mod_init_22 : decode b_Mod_init 22 = .ok (.putfield 17, 3) := by decide +kernel
theorem d_Mod_init_25 : decode b_Mod_init 25 = .ok (.aload_n 0, 1) := by decide +kernel
theorem d_Mod_init_26 : decode b_Mod_init 26 = .ok (.bipush 100, 2) := by decide +kernel
theorem d_Mod_init_28 : decode b_Mod_init 28 = .ok (.newarray .int, 2) := by decide +kernel
theorem d_Mod_init_30 : decode b_Mod_init 30 = .ok (.putfield 20, 3) := by decide +kernel
theorem d_Mod_init_33 : decode b_Mod_init 33 = .ok (.aload_n 0, 1) := by decide +kernel
theorem d_Mod_init_34 : decode b_Mod_init 34 = .ok (.sipush 400, 3) := by decide +kernel
theorem d_Mod_init_37 : decode b_Mod_init 37 = .ok (.newarray .int, 2) := by decide +kernel
theorem d_Mod_init_39 : decode b_Mod_init 39 = .ok (.putfield 23, 3) := by decide +kernel
theorem d_Mod_init_42 : decode b_Mod_init 42 = .ok (.aload_n 0, 1) := by decide +kernel
theorem d_Mod_init_43 : decode b_Mod_init 43 = .ok (.bipush 60, 2) := by decide +kernel
theorem d_Mod_init_45 : decode b_Mod_init 45 = .ok (.newarray .int, 2) := by decide +kernel
theorem d_Mod_init_47 : decode b_Mod_init 47 = .ok (.putfield 26, 3) := by decide +kernel
theorem d_Mod_init_50 : decode b_Mod_init 50 = .ok (.aload_n 0, 1) := by decide +kernel
theorem d_Mod_init_51 : decode b_Mod_init 51 = .ok (.sipush 360, 3) := by decide +kernel
theorem d_Mod_init_54 : decode b_Mod_init 54 = .ok (.newarray .int, 2) := by decide +kernel
theorem d_Mod_init_56 : decode b_Mod_init 56 = .ok (.putfield 29, 3) := by decide +kernel
theorem d_Mod_init_59 : decode b_Mod_init 59 = .ok (.aload_n 0, 1) := by decide +kernel
theorem d_Mod_init_60 : decode b_Mod_init 60 = .ok (.bipush 6, 2) := by decide +kernel
theorem d_Mod_init_62 : decode b_Mod_init 62 = .ok (.newarray .int, 2) := by decide +kernel
theorem d_Mod_init_64 : decode b_Mod_init 64 = .ok (.putfield 32, 3) := by decide +kernel
theorem d_Mod_init_67 : decode b_Mod_init 67 = .ok (.aload_n 0, 1) := by decide +kernel
theorem d_Mod_init_68 : decode b_Mod_init 68 = .ok (.sipush 200, 3) := by decide +kernel
theorem d_Mod_init_71 : decode b_Mod_init 71 = .ok (.newarray .int, 2) := by decide +kernel
theorem d_Mod_init_73 : decode b_Mod_init 73 = .ok (.putfield 35, 3) := by decide +kernel
theorem d_Mod_init_76 : decode b_Mod_init 76 = .ok (.aload_n 0, 1) := by decide +kernel
theorem d_Mod_init_77 : decode b_Mod_init 77 = .ok (.sipush 200, 3) := by decide +kernel
theorem d_Mod_init_80 : decode b_Mod_init 80 = .ok (.newarray .int, 2) := by decide +kernel
theorem d_Mod_init_82 : decode b_Mod_init 82 = .ok (.putfield 38, 3) := by decide +kernel
theorem d_Mod_init_85 : decode b_Mod_init 85 = .ok (.aload_n 0, 1) := by decide +kernel
theorem d_Mod_init_86 : decode b_Mod_init 86 = .ok (.sipush 200, 3) := by decide +kernel
theorem d_Mod_init_89 : decode b_Mod_init 89 = .ok (.newarray .int, 2) := by decide +kernel
theorem d_Mod_init_91 : decode b_Mod_init 91 = .ok (.putfield 41, 3) := by decide +kernel
theorem d_Mod_init_94 : decode b_Mod_init 94 = .ok (.aload_n 0, 1) := by decide +kernel
theorem d_Mod_init_95 : decode b_Mod_init 95 = .ok (.sipush 200, 3) := by decide +kernel
theorem d_Mod_init_98 : decode b_Mod_init 98 = .ok (.newarray .int, 2) := by decide +kernel
theorem d_Mod_init_100 : decode b_Mod_init 100 = .ok (.putfield 44, 3) := by decide +kernel
theorem d_Mod_init_103 : decode b_Mod_init 103 = .ok (.aload_n 0, 1) := by decide +kernel
theorem d_Mod_init_104 : decode b_Mod_init 104 = .ok (.sipush 1200, 3) := by decide +kernel
theorem d_Mod_init_107 : decode b_Mod_init 107 = .ok (.newarray .int, 2) := by decide +kernel
theorem d_Mod_init_109 : decode b_Mod_init 109 = .ok (.putfield 47, 3) := by decide +kernel
theorem d_Mod_init_112 : decode b_Mod_init 112 = .ok (.aload_n 0, 1) := by decide +kernel
theorem d_Mod_init_113 : decode b_Mod_init 113 = .ok (.bipush 80, 2) := by decide +kernel
theorem d_Mod_init_115 : decode b_Mod_init 115 = .ok (.newarray .int, 2) := by decide +kernel
theorem d_Mod_init_117 : decode b_Mod_init 117 = .ok (.putfield 50, 3) := by decide +kernel
theorem d_Mod_init_120 : decode b_Mod_init 120 = .ok (.aload_n 0, 1) := by decide +kernel
theorem d_Mod_init_121 : decode b_Mod_init 121 = .ok (.bipush 80, 2) := by decide +kernel
theorem d_Mod_init_123 : decode b_Mod_init 123 = .ok (.newarray .int, 2) := by decide +kernel
theorem d_Mod_init_125 : decode b_Mod_init 125 = .ok (.putfield 53, 3) := by decide +kernel
theorem d_Mod_init_128 : decode b_Mod_init 128 = .ok (.aload_n 0, 1) := by decide +kernel
theorem d_Mod_init_129 : decode b_Mod_init 129 = .ok (.sipush 200, 3) := by decide +kernel
theorem d_Mod_init_132 : decode b_Mod_init 132 = .ok (.newarray .int, 2) := by decide +kernel
theorem d_Mod_init_134 : decode b_Mod_init 134 = .ok (.putfield 56, 3) := by decide +kernel
theorem d_Mod_init_137 : decode b_Mod_init 137 = .ok (.aload_n 0, 1) := by decide +kernel
theorem d_Mod_init_138 : decode b_Mod_init 138 = .ok (.iconst (-1), 1) := by decide +kernel
theorem d_Mod_init_139 : decode b_Mod_init 139 = .ok (.putfield 59, 3) := by decide +kernel
theorem d_Mod_init_142 : decode b_Mod_init 142 = .ok (.aload_n 0, 1) := by decide +kernel
theorem d_Mod_init_143 : decode b_Mod_init 143 = .ok (.iconst (-1), 1) := by decide +kernel
theorem d_Mod_init_144 : decode b_Mod_init 144 = .ok (.putfield 62, 3) := by decide +kernel
theorem d_Mod_init_147 : decode b_Mod_init 147 = .ok (.aload_n 0, 1) := by decide +kernel
theorem d_Mod_init_148 : decode b_Mod_init 148 = .ok (.bipush 80, 2) := by decide +kernel
theorem d_Mod_init_150 : decode b_Mod_init 150 = .ok (.newarray .int, 2) := by decide +kernel
theorem d_Mod_init_152 : decode b_Mod_init 152 = .ok (.putfield 65, 3) := by decide +kernel
theorem d_Mod_init_155 : decode b_Mod_init 155 = .ok (.aload_n 0, 1) := by decide +kernel
theorem d_Mod_init_156 : decode b_Mod_init 156 = .ok (.sipush 200, 3) := by decide +kernel
theorem d_Mod_init_159 : decode b_Mod_init 159 = .ok (.newarray .int, 2) := by decide +kernel
theorem d_Mod_init_161 : decode b_Mod_init 161 = .ok (.putfield 68, 3) := by decide +kernel
theorem d_Mod_init_164 : decode b_Mod_init 164 = .ok (.aload_n 0, 1) := by decide +kernel
theorem d_Mod_init_165 : decode b_Mod_init 165 = .ok (.invokevirtual 71, 3) := by decide +kernel
theorem d_Mod_init_168 : decode b_Mod_init 168 = .ok (.return_, 1) := by decide +kernel
abbrev b_Mod_isType : ByteArray := prog_10_method_4_code
def y_Mod_isType : MethodName := ⟨R_Mod, "isType", "(I)Z"⟩
def ws_Mod_isType : List Cond := Cond.code y_Mod_isType b_Mod_isType 2 (some .boolean) :: GW
theorem hd_Mod_isType : y_Mod_isType.cls ≠ "java/lang/invoke/MethodHandle" ∧ y_Mod_isType.cls ≠ "java/lang/invoke/VarHandle" ∧ (parseMethodDescriptor y_Mod_isType.desc).map (fun d => d.parameters.length) = some 1 := by decide +kernel
theorem d_Mod_isType_0 : decode b_Mod_isType 0 = .ok (.iload_n 1, 1) := by decide +kernel
theorem d_Mod_isType_1 : decode b_Mod_isType 1 = .ok (.ifCond .lt 15, 3) := by decide +kernel
theorem d_Mod_isType_4 : decode b_Mod_isType 4 = .ok (.iload_n 1, 1) := by decide +kernel
theorem d_Mod_isType_5 : decode b_Mod_isType 5 = .ok (.aload_n 0, 1) := by decide +kernel
theorem d_Mod_isType_6 : decode b_Mod_isType 6 = .ok (.getfield 7, 3) := by decide +kernel
theorem d_Mod_isType_9 : decode b_Mod_isType 9 = .ok (.if_icmp .ge 7, 3) := by decide +kernel
theorem d_Mod_isType_12 : decode b_Mod_isType 12 = .ok (.iconst 1, 1) := by decide +kernel
theorem d_Mod_isType_13 : decode b_Mod_isType 13 = .ok (.goto 4, 3) := by decide +kernel
theorem d_Mod_isType_16 : decode b_Mod_isType 16 = .ok (.iconst 0, 1) := by decide +kernel
theorem d_Mod_isType_17 : decode b_Mod_isType 17 = .ok (.ireturn, 1) := by decide +kernel
abbrev b_Mod_isVariable : ByteArray := prog_10_method_5_code
def y_Mod_isVariable : MethodName := ⟨R_Mod, "isVariable", "(I)Z"⟩
def ws_Mod_isVariable : List Cond := Cond.code y_Mod_isVariable b_Mod_isVariable 1 (some .boolean) :: GW
theorem hd_Mod_isVariable : y_Mod_isVariable.cls ≠ "java/lang/invoke/MethodHandle" ∧ y_Mod_isVariable.cls ≠ "java/lang/invoke/VarHandle" ∧ (parseMethodDescriptor y_Mod_isVariable.desc).map (fun d => d.parameters.length) = some 1 := by decide +kernel
theorem d_Mod_isVariable_0 : decode b_Mod_isVariable 0 = .ok (.iload_n 0, 1) := by decide +kernel
theorem d_Mod_isVariable_1 : decode b_Mod_isVariable 1 = .ok (.ifCond .lt 13, 3) := by decide +kernel
theorem d_Mod_isVariable_4 : decode b_Mod_isVariable 4 = .ok (.iload_n 0, 1) := by decide +kernel
theorem d_Mod_isVariable_5 : decode b_Mod_isVariable 5 = .ok (.bipush 80, 2) := by decide +kernel
theorem d_Mod_isVariable_7 : decode b_Mod_isVariable 7 = .ok (.if_icmp .ge 7, 3) := by decide +kernel
theorem d_Mod_isVariable_10 : decode b_Mod_isVariable 10 = .ok (.iconst 1, 1) := by decide +kernel
theorem d_Mod_isVariable_11 : decode b_Mod_isVariable 11 = .ok (.goto 4, 3) := by decide +kernel
theorem d_Mod_isVariable_14 : decode b_Mod_isVariable 14 = .ok (.iconst 0, 1) := by decide +kernel
theorem d_Mod_isVariable_15 : decode b_Mod_isVariable 15 = .ok (.ireturn, 1) := by decide +kernel
abbrev b_Mod_type : ByteArray := prog_10_method_6_code
def y_Mod_type : MethodName := ⟨R_Mod, "type", "()I"⟩
def ws_Mod_type : List Cond := Cond.code y_Mod_type b_Mod_type 1 (some .int) :: GW
theorem hd_Mod_type : y_Mod_type.cls ≠ "java/lang/invoke/MethodHandle" ∧ y_Mod_type.cls ≠ "java/lang/invoke/VarHandle" ∧ (parseMethodDescriptor y_Mod_type.desc).map (fun d => d.parameters.length) = some 0 := by decide +kernel
theorem d_Mod_type_0 : decode b_Mod_type 0 = .ok (.aload_n 0, 1) := by decide +kernel
theorem d_Mod_type_1 : decode b_Mod_type 1 = .ok (.iconst 0, 1) := by decide +kernel
theorem d_Mod_type_2 : decode b_Mod_type 2 = .ok (.putfield 74, 3) := by decide +kernel
theorem d_Mod_type_5 : decode b_Mod_type 5 = .ok (.aload_n 0, 1) := by decide +kernel
theorem d_Mod_type_6 : decode b_Mod_type 6 = .ok (.getfield 7, 3) := by decide +kernel
theorem d_Mod_type_9 : decode b_Mod_type 9 = .ok (.bipush 24, 2) := by decide +kernel
theorem d_Mod_type_11 : decode b_Mod_type 11 = .ok (.if_icmp .ne 5, 3) := by decide +kernel
theorem d_Mod_type_14 : decode b_Mod_type 14 = .ok (.iconst (-1), 1) := by decide +kernel
theorem d_Mod_type_15 : decode b_Mod_type 15 = .ok (.ireturn, 1) := by decide +kernel
theorem d_Mod_type_16 : decode b_Mod_type 16 = .ok (.aload_n 0, 1) := by decide +kernel
theorem d_Mod_type_17 : decode b_Mod_type 17 = .ok (.dup, 1) := by decide +kernel
theorem d_Mod_type_18 : decode b_Mod_type 18 = .ok (.getfield 7, 3) := by decide +kernel
theorem d_Mod_type_21 : decode b_Mod_type 21 = .ok (.iconst 1, 1) := by decide +kernel
theorem d_Mod_type_22 : decode b_Mod_type 22 = .ok (.iadd, 1) := by decide +kernel
theorem d_Mod_type_23 : decode b_Mod_type 23 = .ok (.putfield 7, 3) := by decide +kernel
theorem d_Mod_type_26 : decode b_Mod_type 26 = .ok (.aload_n 0, 1) := by decide +kernel
theorem d_Mod_type_27 : decode b_Mod_type 27 = .ok (.getfield 7, 3) := by decide +kernel
theorem d_Mod_type_30 : decode b_Mod_type 30 = .ok (.iconst 1, 1) := by decide +kernel
theorem d_Mod_type_31 : decode b_Mod_type 31 = .ok (.isub, 1) := by decide +kernel
theorem d_Mod_type_32 : decode b_Mod_type 32 = .ok (.ireturn, 1) := by decide +kernel
abbrev b_Mod_put : ByteArray := prog_10_method_7_code
def y_Mod_put : MethodName := ⟨R_Mod, "put", "(I)Z"⟩
def ws_Mod_put : List Cond := Cond.code y_Mod_put b_Mod_put 2 (some .boolean) :: GW
theorem hd_Mod_put : y_Mod_put.cls ≠ "java/lang/invoke/MethodHandle" ∧ y_Mod_put.cls ≠ "java/lang/invoke/VarHandle" ∧ (parseMethodDescriptor y_Mod_put.desc).map (fun d => d.parameters.length) = some 1 := by decide +kernel
theorem d_Mod_put_0 : decode b_Mod_put 0 = .ok (.aload_n 0, 1) := by decide +kernel
theorem d_Mod_put_1 : decode b_Mod_put 1 = .ok (.iconst 0, 1) := by decide +kernel
theorem d_Mod_put_2 : decode b_Mod_put 2 = .ok (.putfield 74, 3) := by decide +kernel
theorem d_Mod_put_5 : decode b_Mod_put 5 = .ok (.aload_n 0, 1) := by decide +kernel
theorem d_Mod_put_6 : decode b_Mod_put 6 = .ok (.getfield 77, 3) := by decide +kernel
theorem d_Mod_put_9 : decode b_Mod_put 9 = .ok (.bipush 6, 2) := by decide +kernel
theorem d_Mod_put_11 : decode b_Mod_put 11 = .ok (.if_icmp .ne 5, 3) := by decide +kernel
theorem d_Mod_put_14 : decode b_Mod_put 14 = .ok (.iconst 0, 1) := by decide +kernel
theorem d_Mod_put_15 : decode b_Mod_put 15 = .ok (.ireturn, 1) := by decide +kernel
theorem d_Mod_put_16 : decode b_Mod_put 16 = .ok (.aload_n 0, 1) := by decide +kernel
theorem d_Mod_put_17 : decode b_Mod_put 17 = .ok (.getfield 32, 3) := by decide +kernel
theorem d_Mod_put_20 : decode b_Mod_put 20 = .ok (.aload_n 0, 1) := by decide +kernel
theorem d_Mod_put_21 : decode b_Mod_put 21 = .ok (.getfield 77, 3) := by decide +kernel
theorem d_Mod_put_24 : decode b_Mod_put 24 = .ok (.iload_n 1, 1) := by decide +kernel
theorem d_Mod_put_25 : decode b_Mod_put 25 = .ok (.iastore, 1) := by decide +kernel
theorem d_Mod_put_26 : decode b_Mod_put 26 = .ok (.aload_n 0, 1) := by decide +kernel
theorem d_Mod_put_27 : decode b_Mod_put 27 = .ok (.dup, 1) := by decide +kernel
theorem d_Mod_put_28 : decode b_Mod_put 28 = .ok (.getfield 77, 3) := by decide +kernel
theorem d_Mod_put_31 : decode b_Mod_put 31 = .ok (.iconst 1, 1) := by decide +kernel
theorem d_Mod_put_32 : decode b_Mod_put 32 = .ok (.iadd, 1) := by decide +kernel
theorem d_Mod_put_33 : decode b_Mod_put 33 = .ok (.putfield 77, 3) := by decide +kernel
theorem d_Mod_put_36 : decode b_Mod_put 36 = .ok (.iconst 1, 1) := by decide +kernel
theorem d_Mod_put_37 : decode b_Mod_put 37 = .ok (.ireturn, 1) := by decide +kernel
abbrev b_Mod_taken : ByteArray := prog_10_method_8_code
def y_Mod_taken : MethodName := ⟨R_Mod, "taken", "()I"⟩
def ws_Mod_taken : List Cond := Cond.code y_Mod_taken b_Mod_taken 2 (some .int) :: GW
theorem hd_Mod_taken : y_Mod_taken.cls ≠ "java/lang/invoke/MethodHandle" ∧ y_Mod_taken.cls ≠ "java/lang/invoke/VarHandle" ∧ (parseMethodDescriptor y_Mod_taken.desc).map (fun d => d.parameters.length) = some 0 := by decide +kernel
theorem d_Mod_taken_0 : decode b_Mod_taken 0 = .ok (.aload_n 0, 1) := by decide +kernel
theorem d_Mod_taken_1 : decode b_Mod_taken 1 = .ok (.getfield 77, 3) := by decide +kernel
theorem d_Mod_taken_4 : decode b_Mod_taken 4 = .ok (.istore_n 1, 1) := by decide +kernel
theorem d_Mod_taken_5 : decode b_Mod_taken 5 = .ok (.aload_n 0, 1) := by decide +kernel
theorem d_Mod_taken_6 : decode b_Mod_taken 6 = .ok (.iconst 0, 1) := by decide +kernel
theorem d_Mod_taken_7 : decode b_Mod_taken 7 = .ok (.putfield 77, 3) := by decide +kernel
theorem d_Mod_taken_10 : decode b_Mod_taken 10 = .ok (.iload_n 1, 1) := by decide +kernel
theorem d_Mod_taken_11 : decode b_Mod_taken 11 = .ok (.ireturn, 1) := by decide +kernel
abbrev b_Mod_areTypes : ByteArray := prog_10_method_9_code
def y_Mod_areTypes : MethodName := ⟨R_Mod, "areTypes", "(I)Z"⟩
def ws_Mod_areTypes : List Cond := Cond.code y_Mod_areTypes b_Mod_areTypes 3 (some .boolean) :: GW
theorem hd_Mod_areTypes : y_Mod_areTypes.cls ≠ "java/lang/invoke/MethodHandle" ∧ y_Mod_areTypes.cls ≠ "java/lang/invoke/VarHandle" ∧ (parseMethodDescriptor y_Mod_areTypes.desc).map (fun d => d.parameters.length) = some 1 := by decide +kernel
theorem d_Mod_areTypes_0 : decode b_Mod_areTypes 0 = .ok (.iconst 0, 1) := by decide +kernel
theorem d_Mod_areTypes_1 : decode b_Mod_areTypes 1 = .ok (.istore_n 2, 1) := by decide +kernel
theorem d_Mod_areTypes_2 : decode b_Mod_areTypes 2 = .ok (.iload_n 2, 1) := by decide +kernel
theorem d_Mod_areTypes_3 : decode b_Mod_areTypes 3 = .ok (.iload_n 1, 1) := by decide +kernel
theorem d_Mod_areTypes_4 : decode b_Mod_areTypes 4 = .ok (.if_icmp .ge 24, 3) := by decide +kernel
theorem d_Mod_areTypes_7 : decode b_Mod_areTypes 7 = .ok (.aload_n 0, 1) := by decide +kernel
theorem d_Mod_areTypes_8 : decode b_Mod_areTypes 8 = .ok (.aload_n 0, 1) := by decide +kernel
theorem d_Mod_areTypes_9 : decode b_Mod_areTypes 9 = .ok (.getfield 32, 3) := by decide +kernel
theorem d_Mod_areTypes_12 : decode b_Mod_areTypes 12 = .ok (.iload_n 2, 1) := by decide +kernel
theorem d_Mod_areTypes_13 : decode b_Mod_areTypes 13 = .ok (.iaload, 1) := by decide +kernel
theorem d_Mod_areTypes_14 : decode b_Mod_areTypes 14 = .ok (.invokevirtual 80, 3) := by decide +kernel
theorem d_Mod_areTypes_17 : decode b_Mod_areTypes 17 = .ok (.ifCond .ne 5, 3) := by decide +kernel
theorem d_Mod_areTypes_20 : decode b_Mod_areTypes 20 = .ok (.iconst 0, 1) := by decide +kernel
theorem d_Mod_areTypes_21 : decode b_Mod_areTypes 21 = .ok (.ireturn, 1) := by decide +kernel
theorem d_Mod_areTypes_22 : decode b_Mod_areTypes 22 = .ok (.iinc 2 1, 3) := by decide +kernel
theorem d_Mod_areTypes_25 : decode b_Mod_areTypes 25 = .ok (.goto (-23), 3) := by decide +kernel
theorem d_Mod_areTypes_28 : decode b_Mod_areTypes 28 = .ok (.iconst 1, 1) := by decide +kernel
theorem d_Mod_areTypes_29 : decode b_Mod_areTypes 29 = .ok (.ireturn, 1) := by decide +kernel
abbrev b_Mod_areVariables : ByteArray := prog_10_method_10_code
def y_Mod_areVariables : MethodName := ⟨R_Mod, "areVariables", "(I)Z"⟩
def ws_Mod_areVariables : List Cond := Cond.code y_Mod_areVariables b_Mod_areVariables 3 (some .boolean) :: GW
theorem hd_Mod_areVariables : y_Mod_areVariables.cls ≠ "java/lang/invoke/MethodHandle" ∧ y_Mod_areVariables.cls ≠ "java/lang/invoke/VarHandle" ∧ (parseMethodDescriptor y_Mod_areVariables.desc).map (fun d => d.parameters.length) = some 1 := by decide +kernel
theorem d_Mod_areVariables_0 : decode b_Mod_areVariables 0 = .ok (.iconst 0, 1) := by decide +kernel
theorem d_Mod_areVariables_1 : decode b_Mod_areVariables 1 = .ok (.istore_n 2, 1) := by decide +kernel
theorem d_Mod_areVariables_2 : decode b_Mod_areVariables 2 = .ok (.iload_n 2, 1) := by decide +kernel
theorem d_Mod_areVariables_3 : decode b_Mod_areVariables 3 = .ok (.iload_n 1, 1) := by decide +kernel
theorem d_Mod_areVariables_4 : decode b_Mod_areVariables 4 = .ok (.if_icmp .ge 23, 3) := by decide +kernel
theorem d_Mod_areVariables_7 : decode b_Mod_areVariables 7 = .ok (.aload_n 0, 1) := by decide +kernel
theorem d_Mod_areVariables_8 : decode b_Mod_areVariables 8 = .ok (.getfield 32, 3) := by decide +kernel
theorem d_Mod_areVariables_11 : decode b_Mod_areVariables 11 = .ok (.iload_n 2, 1) := by decide +kernel
theorem d_Mod_areVariables_12 : decode b_Mod_areVariables 12 = .ok (.iaload, 1) := by decide +kernel
theorem d_Mod_areVariables_13 : decode b_Mod_areVariables 13 = .ok (.invokestatic 84, 3) := by decide +kernel
theorem d_Mod_areVariables_16 : decode b_Mod_areVariables 16 = .ok (.ifCond .ne 5, 3) := by decide +kernel
theorem d_Mod_areVariables_19 : decode b_Mod_areVariables 19 = .ok (.iconst 0, 1) := by decide +kernel
theorem d_Mod_areVariables_20 : decode b_Mod_areVariables 20 = .ok (.ireturn, 1) := by decide +kernel
theorem d_Mod_areVariables_21 : decode b_Mod_areVariables 21 = .ok (.iinc 2 1, 3) := by decide +kernel
theorem d_Mod_areVariables_24 : decode b_Mod_areVariables 24 = .ok (.goto (-22), 3) := by decide +kernel
theorem d_Mod_areVariables_27 : decode b_Mod_areVariables 27 = .ok (.iconst 1, 1) := by decide +kernel
theorem d_Mod_areVariables_28 : decode b_Mod_areVariables 28 = .ok (.ireturn, 1) := by decide +kernel
abbrev b_Mod_found : ByteArray := prog_10_method_12_code
def y_Mod_found : MethodName := ⟨R_Mod, "found", "(III)I"⟩
def ws_Mod_found : List Cond := Cond.code y_Mod_found b_Mod_found 5 (some .int) :: GW
theorem hd_Mod_found : y_Mod_found.cls ≠ "java/lang/invoke/MethodHandle" ∧ y_Mod_found.cls ≠ "java/lang/invoke/VarHandle" ∧ (parseMethodDescriptor y_Mod_found.desc).map (fun d => d.parameters.length) = some 3 := by decide +kernel
theorem d_Mod_found_0 : decode b_Mod_found 0 = .ok (.iconst 0, 1) := by decide +kernel
theorem d_Mod_found_1 : decode b_Mod_found 1 = .ok (.istore 4, 2) := by decide +kernel
theorem d_Mod_found_3 : decode b_Mod_found 3 = .ok (.iload 4, 2) := by decide +kernel
theorem d_Mod_found_5 : decode b_Mod_found 5 = .ok (.aload_n 0, 1) := by decide +kernel
theorem d_Mod_found_6 : decode b_Mod_found 6 = .ok (.getfield 91, 3) := by decide +kernel
theorem d_Mod_found_9 : decode b_Mod_found 9 = .ok (.if_icmp .ge 45, 3) := by decide +kernel
theorem d_Mod_found_12 : decode b_Mod_found 12 = .ok (.aload_n 0, 1) := by decide +kernel
theorem d_Mod_found_13 : decode b_Mod_found 13 = .ok (.getfield 13, 3) := by decide +kernel
theorem d_Mod_found_16 : decode b_Mod_found 16 = .ok (.iload 4, 2) := by decide +kernel
theorem d_Mod_found_18 : decode b_Mod_found 18 = .ok (.iaload, 1) := by decide +kernel
theorem d_Mod_found_19 : decode b_Mod_found 19 = .ok (.iload_n 1, 1) := by decide +kernel
theorem d_Mod_found_20 : decode b_Mod_found 20 = .ok (.if_icmp .ne 28, 3) := by decide +kernel
theorem d_Mod_found_23 : decode b_Mod_found 23 = .ok (.aload_n 0, 1) := by decide +kernel
theorem d_Mod_found_24 : decode b_Mod_found 24 = .ok (.getfield 17, 3) := by decide +kernel
theorem d_Mod_found_27 : decode b_Mod_found 27 = .ok (.iload 4, 2) := by decide +kernel
theorem d_Mod_found_29 : decode b_Mod_found 29 = .ok (.iaload, 1) := by decide +kernel
theorem d_Mod_found_30 : decode b_Mod_found 30 = .ok (.iload_n 2, 1) := by decide +kernel
theorem d_Mod_found_31 : decode b_Mod_found 31 = .ok (.if_icmp .ne 17, 3) := by decide +kernel
theorem d_Mod_found_34 : decode b_Mod_found 34 = .ok (.aload_n 0, 1) := by decide +kernel
theorem d_Mod_found_35 : decode b_Mod_found 35 = .ok (.getfield 20, 3) := by decide +kernel
theorem d_Mod_found_38 : decode b_Mod_found 38 = .ok (.iload 4, 2) := by decide +kernel
theorem d_Mod_found_40 : decode b_Mod_found 40 = .ok (.iaload, 1) := by decide +kernel
theorem d_Mod_found_41 : decode b_Mod_found 41 = .ok (.iload_n 3, 1) := by decide +kernel
theorem d_Mod_found_42 : decode b_Mod_found 42 = .ok (.if_icmp .ne 6, 3) := by decide +kernel
theorem d_Mod_found_45 : decode b_Mod_found 45 = .ok (.iload 4, 2) := by decide +kernel
theorem d_Mod_found_47 : decode b_Mod_found 47 = .ok (.ireturn, 1) := by decide +kernel
theorem d_Mod_found_48 : decode b_Mod_found 48 = .ok (.iinc 4 1, 3) := by decide +kernel
theorem d_Mod_found_51 : decode b_Mod_found 51 = .ok (.goto (-48), 3) := by decide +kernel
theorem d_Mod_found_54 : decode b_Mod_found 54 = .ok (.iconst (-1), 1) := by decide +kernel
theorem d_Mod_found_55 : decode b_Mod_found 55 = .ok (.ireturn, 1) := by decide +kernel
abbrev b_Mod_constructor : ByteArray := prog_10_method_11_code
def y_Mod_constructor : MethodName := ⟨R_Mod, "constructor", "(II)I"⟩
def ws_Mod_constructor : List Cond := Cond.code y_Mod_constructor b_Mod_constructor 6 (some .int) :: GW
theorem hd_Mod_constructor : y_Mod_constructor.cls ≠ "java/lang/invoke/MethodHandle" ∧ y_Mod_constructor.cls ≠ "java/lang/invoke/VarHandle" ∧ (parseMethodDescriptor y_Mod_constructor.desc).map (fun d => d.parameters.length) = some 2 := by decide +kernel
theorem d_Mod_constructor_0 : decode b_Mod_constructor 0 = .ok (.aload_n 0, 1) := by decide +kernel
theorem d_Mod_constructor_1 : decode b_Mod_constructor 1 = .ok (.iconst 0, 1) := by decide +kernel
theorem d_Mod_constructor_2 : decode b_Mod_constructor 2 = .ok (.putfield 74, 3) := by decide +kernel
theorem d_Mod_constructor_5 : decode b_Mod_constructor 5 = .ok (.aload_n 0, 1) := by decide +kernel
theorem d_Mod_constructor_6 : decode b_Mod_constructor 6 = .ok (.invokevirtual 87, 3) := by decide +kernel
theorem d_Mod_constructor_9 : decode b_Mod_constructor 9 = .ok (.istore_n 3, 1) := by decide +kernel
theorem d_Mod_constructor_10 : decode b_Mod_constructor 10 = .ok (.aload_n 0, 1) := by decide +kernel
theorem d_Mod_constructor_11 : decode b_Mod_constructor 11 = .ok (.getfield 91, 3) := by decide +kernel
theorem d_Mod_constructor_14 : decode b_Mod_constructor 14 = .ok (.bipush 100, 2) := by decide +kernel
theorem d_Mod_constructor_16 : decode b_Mod_constructor 16 = .ok (.if_icmp .eq 50, 3) := by decide +kernel
theorem d_Mod_constructor_19 : decode b_Mod_constructor 19 = .ok (.aload_n 0, 1) := by decide +kernel
theorem d_Mod_constructor_20 : decode b_Mod_constructor 20 = .ok (.iload_n 1, 1) := by decide +kernel
theorem d_Mod_constructor_21 : decode b_Mod_constructor 21 = .ok (.invokevirtual 80, 3) := by decide +kernel
theorem d_Mod_constructor_24 : decode b_Mod_constructor 24 = .ok (.ifCond .eq 42, 3) := by decide +kernel
theorem d_Mod_constructor_27 : decode b_Mod_constructor 27 = .ok (.iload_n 1, 1) := by decide +kernel
theorem d_Mod_constructor_28 : decode b_Mod_constructor 28 = .ok (.ifCond .eq 38, 3) := by decide +kernel
theorem d_Mod_constructor_31 : decode b_Mod_constructor 31 = .ok (.iload_n 2, 1) := by decide +kernel
theorem d_Mod_constructor_32 : decode b_Mod_constructor 32 = .ok (.ifCond .lt 34, 3) := by decide +kernel
theorem d_Mod_constructor_35 : decode b_Mod_constructor 35 = .ok (.iload_n 2, 1) := by decide +kernel
theorem d_Mod_constructor_36 : decode b_Mod_constructor 36 = .ok (.sipush 199, 3) := by decide +kernel
theorem d_Mod_constructor_39 : decode b_Mod_constructor 39 = .ok (.if_icmp .gt 27, 3) := by decide +kernel
theorem d_Mod_constructor_42 : decode b_Mod_constructor 42 = .ok (.iload_n 3, 1) := by decide +kernel
theorem d_Mod_constructor_43 : decode b_Mod_constructor 43 = .ok (.iconst 4, 1) := by decide +kernel
theorem d_Mod_constructor_44 : decode b_Mod_constructor 44 = .ok (.if_icmp .gt 22, 3) := by decide +kernel
theorem d_Mod_constructor_47 : decode b_Mod_constructor 47 = .ok (.aload_n 0, 1) := by decide +kernel
theorem d_Mod_constructor_48 : decode b_Mod_constructor 48 = .ok (.iload_n 3, 1) := by decide +kernel
theorem d_Mod_constructor_49 : decode b_Mod_constructor 49 = .ok (.invokevirtual 94, 3) := by decide +kernel
theorem d_Mod_constructor_52 : decode b_Mod_constructor 52 = .ok (.ifCond .eq 14, 3) := by decide +kernel
theorem d_Mod_constructor_55 : decode b_Mod_constructor 55 = .ok (.aload_n 0, 1) := by decide +kernel
theorem d_Mod_constructor_56 : decode b_Mod_constructor 56 = .ok (.iload_n 1, 1) := by decide +kernel
theorem d_Mod_constructor_57 : decode b_Mod_constructor 57 = .ok (.iload_n 2, 1) := by decide +kernel
theorem d_Mod_constructor_58 : decode b_Mod_constructor 58 = .ok (.iload_n 3, 1) := by decide +kernel
theorem d_Mod_constructor_59 : decode b_Mod_constructor 59 = .ok (.invokevirtual 97, 3) := by decide +kernel
theorem d_Mod_constructor_62 : decode b_Mod_constructor 62 = .ok (.iconst (-1), 1) := by decide +kernel
theorem d_Mod_constructor_63 : decode b_Mod_constructor 63 = .ok (.if_icmp .eq 5, 3) := by decide +kernel
theorem d_Mod_constructor_66 : decode b_Mod_constructor 66 = .ok (.iconst (-1), 1) := by decide +kernel
theorem d_Mod_constructor_67 : decode b_Mod_constructor 67 = .ok (.ireturn, 1) := by decide +kernel
theorem d_Mod_constructor_68 : decode b_Mod_constructor 68 = .ok (.aload_n 0, 1) := by decide +kernel
theorem d_Mod_constructor_69 : decode b_Mod_constructor 69 = .ok (.getfield 91, 3) := by decide +kernel
theorem d_Mod_constructor_72 : decode b_Mod_constructor 72 = .ok (.istore 4, 2) := by decide +kernel
theorem d_Mod_constructor_74 : decode b_Mod_constructor 74 = .ok (.aload_n 0, 1) := by decide +kernel
theorem d_Mod_constructor_75 : decode b_Mod_constructor 75 = .ok (.getfield 13, 3) := by decide +kernel
theorem d_Mod_constructor_78 : decode b_Mod_constructor 78 = .ok (.iload 4, 2) := by decide +kernel
theorem d_Mod_constructor_80 : decode b_Mod_constructor 80 = .ok (.iload_n 1, 1) := by decide +kernel
theorem d_Mod_constructor_81 : decode b_Mod_constructor 81 = .ok (.iastore, 1) := by decide +kernel
theorem d_Mod_constructor_82 : decode b_Mod_constructor 82 = .ok (.aload_n 0, 1) := by decide +kernel
theorem d_Mod_constructor_83 : decode b_Mod_constructor 83 = .ok (.getfield 17, 3) := by decide +kernel
theorem d_Mod_constructor_86 : decode b_Mod_constructor 86 = .ok (.iload 4, 2) := by decide +kernel
theorem d_Mod_constructor_88 : decode b_Mod_constructor 88 = .ok (.iload_n 2, 1) := by decide +kernel
theorem d_Mod_constructor_89 : decode b_Mod_constructor 89 = .ok (.iastore, 1) := by decide +kernel
theorem d_Mod_constructor_90 : decode b_Mod_constructor 90 = .ok (.aload_n 0, 1) := by decide +kernel
theorem d_Mod_constructor_91 : decode b_Mod_constructor 91 = .ok (.getfield 20, 3) := by decide +kernel
theorem d_Mod_constructor_94 : decode b_Mod_constructor 94 = .ok (.iload 4, 2) := by decide +kernel
theorem d_Mod_constructor_96 : decode b_Mod_constructor 96 = .ok (.iload_n 3, 1) := by decide +kernel
theorem d_Mod_constructor_97 : decode b_Mod_constructor 97 = .ok (.iastore, 1) := by decide +kernel
theorem d_Mod_constructor_98 : decode b_Mod_constructor 98 = .ok (.iconst 0, 1) := by decide +kernel
theorem d_Mod_constructor_99 : decode b_Mod_constructor 99 = .ok (.istore 5, 2) := by decide +kernel
theorem d_Mod_constructor_101 : decode b_Mod_constructor 101 = .ok (.iload 5, 2) := by decide +kernel
theorem d_Mod_constructor_103 : decode b_Mod_constructor 103 = .ok (.iload_n 3, 1) := by decide +kernel
theorem d_Mod_constructor_104 : decode b_Mod_constructor 104 = .ok (.if_icmp .ge 28, 3) := by decide +kernel
theorem d_Mod_constructor_107 : decode b_Mod_constructor 107 = .ok (.aload_n 0, 1) := by decide +kernel
theorem d_Mod_constructor_108 : decode b_Mod_constructor 108 = .ok (.getfield 23, 3) := by decide +kernel
theorem d_Mod_constructor_111 : decode b_Mod_constructor 111 = .ok (.iconst 4, 1) := by decide +kernel
theorem d_Mod_constructor_112 : decode b_Mod_constructor 112 = .ok (.iload 4, 2) := by decide +kernel
theorem d_Mod_constructor_114 : decode b_Mod_constructor 114 = .ok (.imul, 1) := by decide +kernel
theorem d_Mod_constructor_115 : decode b_Mod_constructor 115 = .ok (.iload 5, 2) := by decide +kernel
theorem d_Mod_constructor_117 : decode b_Mod_constructor 117 = .ok (.iadd, 1) := by decide +kernel
theorem d_Mod_constructor_118 : decode b_Mod_constructor 118 = .ok (.aload_n 0, 1) := by decide +kernel
theorem d_Mod_constructor_119 : decode b_Mod_constructor 119 = .ok (.getfield 32, 3) := by decide +kernel
theorem d_Mod_constructor_122 : decode b_Mod_constructor 122 = .ok (.iload 5, 2) := by decide +kernel
theorem d_Mod_constructor_124 : decode b_Mod_constructor 124 = .ok (.iaload, 1) := by decide +kernel
theorem d_Mod_constructor_125 : decode b_Mod_constructor 125 = .ok (.iastore, 1) := by decide +kernel
theorem d_Mod_constructor_126 : decode b_Mod_constructor 126 = .ok (.iinc 5 1, 3) := by decide +kernel
theorem d_Mod_constructor_129 : decode b_Mod_constructor 129 = .ok (.goto (-28), 3) := by decide +kernel
theorem d_Mod_constructor_132 : decode b_Mod_constructor 132 = .ok (.aload_n 0, 1) := by decide +kernel
theorem d_Mod_constructor_133 : decode b_Mod_constructor 133 = .ok (.dup, 1) := by decide +kernel
theorem d_Mod_constructor_134 : decode b_Mod_constructor 134 = .ok (.getfield 91, 3) := by decide +kernel
theorem d_Mod_constructor_137 : decode b_Mod_constructor 137 = .ok (.iconst 1, 1) := by decide +kernel
theorem d_Mod_constructor_138 : decode b_Mod_constructor 138 = .ok (.iadd, 1) := by decide +kernel
theorem d_Mod_constructor_139 : decode b_Mod_constructor 139 = .ok (.putfield 91, 3) := by decide +kernel
theorem d_Mod_constructor_142 : decode b_Mod_constructor 142 = .ok (.iload 4, 2) := by decide +kernel
theorem d_Mod_constructor_144 : decode b_Mod_constructor 144 = .ok (.ireturn, 1) := by decide +kernel
abbrev b_Mod_predicate : ByteArray := prog_10_method_13_code
def y_Mod_predicate : MethodName := ⟨R_Mod, "predicate", "()I"⟩
def ws_Mod_predicate : List Cond := Cond.code y_Mod_predicate b_Mod_predicate 4 (some .int) :: GW
theorem hd_Mod_predicate : y_Mod_predicate.cls ≠ "java/lang/invoke/MethodHandle" ∧ y_Mod_predicate.cls ≠ "java/lang/invoke/VarHandle" ∧ (parseMethodDescriptor y_Mod_predicate.desc).map (fun d => d.parameters.length) = some 0 := by decide +kernel
theorem d_Mod_predicate_0 : decode b_Mod_predicate 0 = .ok (.aload_n 0, 1) := by decide +kernel
theorem d_Mod_predicate_1 : decode b_Mod_predicate 1 = .ok (.iconst 0, 1) := by decide +kernel
theorem d_Mod_predicate_2 : decode b_Mod_predicate 2 = .ok (.putfield 74, 3) := by decide +kernel
theorem d_Mod_predicate_5 : decode b_Mod_predicate 5 = .ok (.aload_n 0, 1) := by decide +kernel
theorem d_Mod_predicate_6 : decode b_Mod_predicate 6 = .ok (.invokevirtual 87, 3) := by decide +kernel
theorem d_Mod_predicate_9 : decode b_Mod_predicate 9 = .ok (.istore_n 1, 1) := by decide +kernel
theorem d_Mod_predicate_10 : decode b_Mod_predicate 10 = .ok (.aload_n 0, 1) := by decide +kernel
theorem d_Mod_predicate_11 : decode b_Mod_predicate 11 = .ok (.getfield 101, 3) := by decide +kernel
theorem d_Mod_predicate_14 : decode b_Mod_predicate 14 = .ok (.bipush 60, 2) := by decide +kernel
theorem d_Mod_predicate_16 : decode b_Mod_predicate 16 = .ok (.if_icmp .eq 11, 3) := by decide +kernel
theorem d_Mod_predicate_19 : decode b_Mod_predicate 19 = .ok (.aload_n 0, 1) := by decide +kernel
theorem d_Mod_predicate_20 : decode b_Mod_predicate 20 = .ok (.iload_n 1, 1) := by decide +kernel
theorem d_Mod_predicate_21 : decode b_Mod_predicate 21 = .ok (.invokevirtual 94, 3) := by decide +kernel
theorem d_Mod_predicate_24 : decode b_Mod_predicate 24 = .ok (.ifCond .ne 5, 3) := by decide +kernel
theorem d_Mod_predicate_27 : decode b_Mod_predicate 27 = .ok (.iconst (-1), 1) := by decide +kernel
theorem d_Mod_predicate_28 : decode b_Mod_predicate 28 = .ok (.ireturn, 1) := by decide +kernel
theorem d_Mod_predicate_29 : decode b_Mod_predicate 29 = .ok (.aload_n 0, 1) := by decide +kernel
theorem d_Mod_predicate_30 : decode b_Mod_predicate 30 = .ok (.getfield 101, 3) := by decide +kernel
theorem d_Mod_predicate_33 : decode b_Mod_predicate 33 = .ok (.istore_n 2, 1) := by decide +kernel
theorem d_Mod_predicate_34 : decode b_Mod_predicate 34 = .ok (.aload_n 0, 1) := by decide +kernel
theorem d_Mod_predicate_35 : decode b_Mod_predicate 35 = .ok (.getfield 26, 3) := by decide +kernel
theorem d_Mod_predicate_38 : decode b_Mod_predicate 38 = .ok (.iload_n 2, 1) := by decide +kernel
theorem d_Mod_predicate_39 : decode b_Mod_predicate 39 = .ok (.iload_n 1, 1) := by decide +kernel
theorem d_Mod_predicate_40 : decode b_Mod_predicate 40 = .ok (.iastore, 1) := by decide +kernel
theorem d_Mod_predicate_41 : decode b_Mod_predicate 41 = .ok (.iconst 0, 1) := by decide +kernel
theorem d_Mod_predicate_42 : decode b_Mod_predicate 42 = .ok (.istore_n 3, 1) := by decide +kernel
theorem d_Mod_predicate_43 : decode b_Mod_predicate 43 = .ok (.iload_n 3, 1) := by decide +kernel
theorem d_Mod_predicate_44 : decode b_Mod_predicate 44 = .ok (.iload_n 1, 1) := by decide +kernel
theorem d_Mod_predicate_45 : decode b_Mod_predicate 45 = .ok (.if_icmp .ge 26, 3) := by decide +kernel
theorem d_Mod_predicate_48 : decode b_Mod_predicate 48 = .ok (.aload_n 0, 1) := by decide +kernel
theorem d_Mod_predicate_49 : decode b_Mod_predicate 49 = .ok (.getfield 29, 3) := by decide +kernel
theorem d_Mod_predicate_52 : decode b_Mod_predicate 52 = .ok (.bipush 6, 2) := by decide +kernel
theorem d_Mod_predicate_54 : decode b_Mod_predicate 54 = .ok (.iload_n 2, 1) := by decide +kernel
theorem d_Mod_predicate_55 : decode b_Mod_predicate 55 = .ok (.imul, 1) := by decide +kernel
theorem d_Mod_predicate_56 : decode b_Mod_predicate 56 = .ok (.iload_n 3, 1) := by decide +kernel
theorem d_Mod_predicate_57 : decode b_Mod_predicate 57 = .ok (.iadd, 1) := by decide +kernel
theorem d_Mod_predicate_58 : decode b_Mod_predicate 58 = .ok (.aload_n 0, 1) := by decide +kernel
theorem d_Mod_predicate_59 : decode b_Mod_predicate 59 = .ok (.getfield 32, 3) := by decide +kernel
theorem d_Mod_predicate_62 : decode b_Mod_predicate 62 = .ok (.iload_n 3, 1) := by decide +kernel
theorem d_Mod_predicate_63 : decode b_Mod_predicate 63 = .ok (.iaload, 1) := by decide +kernel
theorem d_Mod_predicate_64 : decode b_Mod_predicate 64 = .ok (.iastore, 1) := by decide +kernel
theorem d_Mod_predicate_65 : decode b_Mod_predicate 65 = .ok (.iinc 3 1, 3) := by decide +kernel
theorem d_Mod_predicate_68 : decode b_Mod_predicate 68 = .ok (.goto (-25), 3) := by decide +kernel
theorem d_Mod_predicate_71 : decode b_Mod_predicate 71 = .ok (.aload_n 0, 1) := by decide +kernel
theorem d_Mod_predicate_72 : decode b_Mod_predicate 72 = .ok (.dup, 1) := by decide +kernel
theorem d_Mod_predicate_73 : decode b_Mod_predicate 73 = .ok (.getfield 101, 3) := by decide +kernel
theorem d_Mod_predicate_76 : decode b_Mod_predicate 76 = .ok (.iconst 1, 1) := by decide +kernel
theorem d_Mod_predicate_77 : decode b_Mod_predicate 77 = .ok (.iadd, 1) := by decide +kernel
theorem d_Mod_predicate_78 : decode b_Mod_predicate 78 = .ok (.putfield 101, 3) := by decide +kernel
theorem d_Mod_predicate_81 : decode b_Mod_predicate 81 = .ok (.iload_n 2, 1) := by decide +kernel
theorem d_Mod_predicate_82 : decode b_Mod_predicate 82 = .ok (.ireturn, 1) := by decide +kernel
abbrev b_Mod_clause : ByteArray := prog_10_method_14_code
def y_Mod_clause : MethodName := ⟨R_Mod, "clause", "()V"⟩
def ws_Mod_clause : List Cond := Cond.code y_Mod_clause b_Mod_clause 1 none :: GW
theorem hd_Mod_clause : y_Mod_clause.cls ≠ "java/lang/invoke/MethodHandle" ∧ y_Mod_clause.cls ≠ "java/lang/invoke/VarHandle" ∧ (parseMethodDescriptor y_Mod_clause.desc).map (fun d => d.parameters.length) = some 0 := by decide +kernel
theorem d_Mod_clause_0 : decode b_Mod_clause 0 = .ok (.aload_n 0, 1) := by decide +kernel
theorem d_Mod_clause_1 : decode b_Mod_clause 1 = .ok (.iconst 0, 1) := by decide +kernel
theorem d_Mod_clause_2 : decode b_Mod_clause 2 = .ok (.putfield 74, 3) := by decide +kernel
theorem d_Mod_clause_5 : decode b_Mod_clause 5 = .ok (.aload_n 0, 1) := by decide +kernel
theorem d_Mod_clause_6 : decode b_Mod_clause 6 = .ok (.iconst 0, 1) := by decide +kernel
theorem d_Mod_clause_7 : decode b_Mod_clause 7 = .ok (.putfield 77, 3) := by decide +kernel
theorem d_Mod_clause_10 : decode b_Mod_clause 10 = .ok (.aload_n 0, 1) := by decide +kernel
theorem d_Mod_clause_11 : decode b_Mod_clause 11 = .ok (.iconst 0, 1) := by decide +kernel
theorem d_Mod_clause_12 : decode b_Mod_clause 12 = .ok (.putfield 104, 3) := by decide +kernel
theorem d_Mod_clause_15 : decode b_Mod_clause 15 = .ok (.aload_n 0, 1) := by decide +kernel
theorem d_Mod_clause_16 : decode b_Mod_clause 16 = .ok (.invokevirtual 71, 3) := by decide +kernel
theorem d_Mod_clause_19 : decode b_Mod_clause 19 = .ok (.return_, 1) := by decide +kernel
abbrev b_Mod_demand : ByteArray := prog_10_method_15_code
def y_Mod_demand : MethodName := ⟨R_Mod, "demand", "(IIII)I"⟩
def ws_Mod_demand : List Cond := Cond.code y_Mod_demand b_Mod_demand 7 (some .int) :: GW
theorem hd_Mod_demand : y_Mod_demand.cls ≠ "java/lang/invoke/MethodHandle" ∧ y_Mod_demand.cls ≠ "java/lang/invoke/VarHandle" ∧ (parseMethodDescriptor y_Mod_demand.desc).map (fun d => d.parameters.length) = some 4 := by decide +kernel
theorem d_Mod_demand_0 : decode b_Mod_demand 0 = .ok (.aload_n 0, 1) := by decide +kernel
theorem d_Mod_demand_1 : decode b_Mod_demand 1 = .ok (.getfield 104, 3) := by decide +kernel
theorem d_Mod_demand_4 : decode b_Mod_demand 4 = .ok (.istore 5, 2) := by decide +kernel
theorem d_Mod_demand_6 : decode b_Mod_demand 6 = .ok (.aload_n 0, 1) := by decide +kernel
theorem d_Mod_demand_7 : decode b_Mod_demand 7 = .ok (.getfield 35, 3) := by decide +kernel
theorem d_Mod_demand_10 : decode b_Mod_demand 10 = .ok (.iload 5, 2) := by decide +kernel
theorem d_Mod_demand_12 : decode b_Mod_demand 12 = .ok (.iload_n 1, 1) := by decide +kernel
theorem d_Mod_demand_13 : decode b_Mod_demand 13 = .ok (.iastore, 1) := by decide +kernel
theorem d_Mod_demand_14 : decode b_Mod_demand 14 = .ok (.aload_n 0, 1) := by decide +kernel
theorem d_Mod_demand_15 : decode b_Mod_demand 15 = .ok (.getfield 38, 3) := by decide +kernel
theorem d_Mod_demand_18 : decode b_Mod_demand 18 = .ok (.iload 5, 2) := by decide +kernel
theorem d_Mod_demand_20 : decode b_Mod_demand 20 = .ok (.iload_n 2, 1) := by decide +kernel
theorem d_Mod_demand_21 : decode b_Mod_demand 21 = .ok (.iastore, 1) := by decide +kernel
theorem d_Mod_demand_22 : decode b_Mod_demand 22 = .ok (.aload_n 0, 1) := by decide +kernel
theorem d_Mod_demand_23 : decode b_Mod_demand 23 = .ok (.getfield 41, 3) := by decide +kernel
theorem d_Mod_demand_26 : decode b_Mod_demand 26 = .ok (.iload 5, 2) := by decide +kernel
theorem d_Mod_demand_28 : decode b_Mod_demand 28 = .ok (.iload_n 3, 1) := by decide +kernel
theorem d_Mod_demand_29 : decode b_Mod_demand 29 = .ok (.iastore, 1) := by decide +kernel
theorem d_Mod_demand_30 : decode b_Mod_demand 30 = .ok (.aload_n 0, 1) := by decide +kernel
theorem d_Mod_demand_31 : decode b_Mod_demand 31 = .ok (.getfield 44, 3) := by decide +kernel
theorem d_Mod_demand_34 : decode b_Mod_demand 34 = .ok (.iload 5, 2) := by decide +kernel
theorem d_Mod_demand_36 : decode b_Mod_demand 36 = .ok (.iload 4, 2) := by decide +kernel
theorem d_Mod_demand_38 : decode b_Mod_demand 38 = .ok (.iastore, 1) := by decide +kernel
theorem d_Mod_demand_39 : decode b_Mod_demand 39 = .ok (.iconst 0, 1) := by decide +kernel
theorem d_Mod_demand_40 : decode b_Mod_demand 40 = .ok (.istore 6, 2) := by decide +kernel
theorem d_Mod_demand_42 : decode b_Mod_demand 42 = .ok (.iload 6, 2) := by decide +kernel
theorem d_Mod_demand_44 : decode b_Mod_demand 44 = .ok (.iload 4, 2) := by decide +kernel
theorem d_Mod_demand_46 : decode b_Mod_demand 46 = .ok (.if_icmp .ge 29, 3) := by decide +kernel
theorem d_Mod_demand_49 : decode b_Mod_demand 49 = .ok (.aload_n 0, 1) := by decide +kernel
theorem d_Mod_demand_50 : decode b_Mod_demand 50 = .ok (.getfield 47, 3) := by decide +kernel
theorem d_Mod_demand_53 : decode b_Mod_demand 53 = .ok (.bipush 6, 2) := by decide +kernel
theorem d_Mod_demand_55 : decode b_Mod_demand 55 = .ok (.iload 5, 2) := by decide +kernel
theorem d_Mod_demand_57 : decode b_Mod_demand 57 = .ok (.imul, 1) := by decide +kernel
theorem d_Mod_demand_58 : decode b_Mod_demand 58 = .ok (.iload 6, 2) := by decide +kernel
theorem d_Mod_demand_60 : decode b_Mod_demand 60 = .ok (.iadd, 1) := by decide +kernel
theorem d_Mod_demand_61 : decode b_Mod_demand 61 = .ok (.aload_n 0, 1) := by decide +kernel
theorem d_Mod_demand_62 : decode b_Mod_demand 62 = .ok (.getfield 32, 3) := by decide +kernel
theorem d_Mod_demand_65 : decode b_Mod_demand 65 = .ok (.iload 6, 2) := by decide +kernel
theorem d_Mod_demand_67 : decode b_Mod_demand 67 = .ok (.iaload, 1) := by decide +kernel
theorem d_Mod_demand_68 : decode b_Mod_demand 68 = .ok (.iastore, 1) := by decide +kernel
theorem d_Mod_demand_69 : decode b_Mod_demand 69 = .ok (.iinc 6 1, 3) := by decide +kernel
theorem d_Mod_demand_72 : decode b_Mod_demand 72 = .ok (.goto (-30), 3) := by decide +kernel
theorem d_Mod_demand_75 : decode b_Mod_demand 75 = .ok (.aload_n 0, 1) := by decide +kernel
theorem d_Mod_demand_76 : decode b_Mod_demand 76 = .ok (.dup, 1) := by decide +kernel
theorem d_Mod_demand_77 : decode b_Mod_demand 77 = .ok (.getfield 104, 3) := by decide +kernel
theorem d_Mod_demand_80 : decode b_Mod_demand 80 = .ok (.iconst 1, 1) := by decide +kernel
theorem d_Mod_demand_81 : decode b_Mod_demand 81 = .ok (.iadd, 1) := by decide +kernel
theorem d_Mod_demand_82 : decode b_Mod_demand 82 = .ok (.putfield 104, 3) := by decide +kernel
theorem d_Mod_demand_85 : decode b_Mod_demand 85 = .ok (.iload 5, 2) := by decide +kernel
theorem d_Mod_demand_87 : decode b_Mod_demand 87 = .ok (.ireturn, 1) := by decide +kernel
abbrev b_Mod_number : ByteArray := prog_10_method_16_code
def y_Mod_number : MethodName := ⟨R_Mod, "number", "(I)I"⟩
def ws_Mod_number : List Cond := Cond.code y_Mod_number b_Mod_number 2 (some .int) :: GW
theorem hd_Mod_number : y_Mod_number.cls ≠ "java/lang/invoke/MethodHandle" ∧ y_Mod_number.cls ≠ "java/lang/invoke/VarHandle" ∧ (parseMethodDescriptor y_Mod_number.desc).map (fun d => d.parameters.length) = some 1 := by decide +kernel
theorem d_Mod_number_0 : decode b_Mod_number 0 = .ok (.aload_n 0, 1) := by decide +kernel
theorem d_Mod_number_1 : decode b_Mod_number 1 = .ok (.iconst 0, 1) := by decide +kernel
theorem d_Mod_number_2 : decode b_Mod_number 2 = .ok (.putfield 74, 3) := by decide +kernel
theorem d_Mod_number_5 : decode b_Mod_number 5 = .ok (.aload_n 0, 1) := by decide +kernel
theorem d_Mod_number_6 : decode b_Mod_number 6 = .ok (.getfield 104, 3) := by decide +kernel
theorem d_Mod_number_9 : decode b_Mod_number 9 = .ok (.sipush 200, 3) := by decide +kernel
theorem d_Mod_number_12 : decode b_Mod_number 12 = .ok (.if_icmp .eq 10, 3) := by decide +kernel
theorem d_Mod_number_15 : decode b_Mod_number 15 = .ok (.iload_n 1, 1) := by decide +kernel
theorem d_Mod_number_16 : decode b_Mod_number 16 = .ok (.invokestatic 84, 3) := by decide +kernel
theorem d_Mod_number_19 : decode b_Mod_number 19 = .ok (.ifCond .ne 7, 3) := by decide +kernel
theorem d_Mod_number_22 : decode b_Mod_number 22 = .ok (.iconst (-1), 1) := by decide +kernel
theorem d_Mod_number_23 : decode b_Mod_number 23 = .ok (.goto 11, 3) := by decide +kernel
theorem d_Mod_number_26 : decode b_Mod_number 26 = .ok (.aload_n 0, 1) := by decide +kernel
theorem d_Mod_number_27 : decode b_Mod_number 27 = .ok (.iconst 0, 1) := by decide +kernel
theorem d_Mod_number_28 : decode b_Mod_number 28 = .ok (.iconst 0, 1) := by decide +kernel
theorem d_Mod_number_29 : decode b_Mod_number 29 = .ok (.iload_n 1, 1) := by decide +kernel
theorem d_Mod_number_30 : decode b_Mod_number 30 = .ok (.iconst 0, 1) := by decide +kernel
theorem d_Mod_number_31 : decode b_Mod_number 31 = .ok (.invokevirtual 107, 3) := by decide +kernel
theorem d_Mod_number_34 : decode b_Mod_number 34 = .ok (.ireturn, 1) := by decide +kernel
abbrev b_Mod_same : ByteArray := prog_10_method_17_code
def y_Mod_same : MethodName := ⟨R_Mod, "same", "(II)I"⟩
def ws_Mod_same : List Cond := Cond.code y_Mod_same b_Mod_same 4 (some .int) :: GW
theorem hd_Mod_same : y_Mod_same.cls ≠ "java/lang/invoke/MethodHandle" ∧ y_Mod_same.cls ≠ "java/lang/invoke/VarHandle" ∧ (parseMethodDescriptor y_Mod_same.desc).map (fun d => d.parameters.length) = some 2 := by decide +kernel
theorem d_Mod_same_0 : decode b_Mod_same 0 = .ok (.aload_n 0, 1) := by decide +kernel
theorem d_Mod_same_1 : decode b_Mod_same 1 = .ok (.iconst 0, 1) := by decide +kernel
theorem d_Mod_same_2 : decode b_Mod_same 2 = .ok (.putfield 74, 3) := by decide +kernel
theorem d_Mod_same_5 : decode b_Mod_same 5 = .ok (.aload_n 0, 1) := by decide +kernel
theorem d_Mod_same_6 : decode b_Mod_same 6 = .ok (.getfield 104, 3) := by decide +kernel
theorem d_Mod_same_9 : decode b_Mod_same 9 = .ok (.sipush 200, 3) := by decide +kernel
theorem d_Mod_same_12 : decode b_Mod_same 12 = .ok (.if_icmp .eq 17, 3) := by decide +kernel
theorem d_Mod_same_15 : decode b_Mod_same 15 = .ok (.iload_n 1, 1) := by decide +kernel
theorem d_Mod_same_16 : decode b_Mod_same 16 = .ok (.invokestatic 84, 3) := by decide +kernel
theorem d_Mod_same_19 : decode b_Mod_same 19 = .ok (.ifCond .eq 10, 3) := by decide +kernel
theorem d_Mod_same_22 : decode b_Mod_same 22 = .ok (.iload_n 2, 1) := by decide +kernel
theorem d_Mod_same_23 : decode b_Mod_same 23 = .ok (.invokestatic 84, 3) := by decide +kernel
theorem d_Mod_same_26 : decode b_Mod_same 26 = .ok (.ifCond .ne 5, 3) := by decide +kernel
theorem d_Mod_same_29 : decode b_Mod_same 29 = .ok (.iconst (-1), 1) := by decide +kernel
theorem d_Mod_same_30 : decode b_Mod_same 30 = .ok (.ireturn, 1) := by decide +kernel
theorem d_Mod_same_31 : decode b_Mod_same 31 = .ok (.aload_n 0, 1) := by decide +kernel
theorem d_Mod_same_32 : decode b_Mod_same 32 = .ok (.iconst 1, 1) := by decide +kernel
theorem d_Mod_same_33 : decode b_Mod_same 33 = .ok (.iconst 0, 1) := by decide +kernel
theorem d_Mod_same_34 : decode b_Mod_same 34 = .ok (.iload_n 1, 1) := by decide +kernel
theorem d_Mod_same_35 : decode b_Mod_same 35 = .ok (.iconst 0, 1) := by decide +kernel
theorem d_Mod_same_36 : decode b_Mod_same 36 = .ok (.invokevirtual 107, 3) := by decide +kernel
theorem d_Mod_same_39 : decode b_Mod_same 39 = .ok (.istore_n 3, 1) := by decide +kernel
theorem d_Mod_same_40 : decode b_Mod_same 40 = .ok (.aload_n 0, 1) := by decide +kernel
theorem d_Mod_same_41 : decode b_Mod_same 41 = .ok (.getfield 44, 3) := by decide +kernel
theorem d_Mod_same_44 : decode b_Mod_same 44 = .ok (.iload_n 3, 1) := by decide +kernel
theorem d_Mod_same_45 : decode b_Mod_same 45 = .ok (.iconst 1, 1) := by decide +kernel
theorem d_Mod_same_46 : decode b_Mod_same 46 = .ok (.iastore, 1) := by decide +kernel
theorem d_Mod_same_47 : decode b_Mod_same 47 = .ok (.aload_n 0, 1) := by decide +kernel
theorem d_Mod_same_48 : decode b_Mod_same 48 = .ok (.getfield 47, 3) := by decide +kernel
theorem d_Mod_same_51 : decode b_Mod_same 51 = .ok (.bipush 6, 2) := by decide +kernel
theorem d_Mod_same_53 : decode b_Mod_same 53 = .ok (.iload_n 3, 1) := by decide +kernel
theorem d_Mod_same_54 : decode b_Mod_same 54 = .ok (.imul, 1) := by decide +kernel
theorem d_Mod_same_55 : decode b_Mod_same 55 = .ok (.iload_n 2, 1) := by decide +kernel
theorem d_Mod_same_56 : decode b_Mod_same 56 = .ok (.iastore, 1) := by decide +kernel
theorem d_Mod_same_57 : decode b_Mod_same 57 = .ok (.iload_n 3, 1) := by decide +kernel
theorem d_Mod_same_58 : decode b_Mod_same 58 = .ok (.ireturn, 1) := by decide +kernel
abbrev b_Mod_call : ByteArray := prog_10_method_18_code
def y_Mod_call : MethodName := ⟨R_Mod, "call", "(I)I"⟩
def ws_Mod_call : List Cond := Cond.code y_Mod_call b_Mod_call 3 (some .int) :: GW
theorem hd_Mod_call : y_Mod_call.cls ≠ "java/lang/invoke/MethodHandle" ∧ y_Mod_call.cls ≠ "java/lang/invoke/VarHandle" ∧ (parseMethodDescriptor y_Mod_call.desc).map (fun d => d.parameters.length) = some 1 := by decide +kernel
theorem d_Mod_call_0 : decode b_Mod_call 0 = .ok (.aload_n 0, 1) := by decide +kernel
theorem d_Mod_call_1 : decode b_Mod_call 1 = .ok (.iconst 0, 1) := by decide +kernel
theorem d_Mod_call_2 : decode b_Mod_call 2 = .ok (.putfield 74, 3) := by decide +kernel
theorem d_Mod_call_5 : decode b_Mod_call 5 = .ok (.aload_n 0, 1) := by decide +kernel
theorem d_Mod_call_6 : decode b_Mod_call 6 = .ok (.invokevirtual 87, 3) := by decide +kernel
theorem d_Mod_call_9 : decode b_Mod_call 9 = .ok (.istore_n 2, 1) := by decide +kernel
theorem d_Mod_call_10 : decode b_Mod_call 10 = .ok (.aload_n 0, 1) := by decide +kernel
theorem d_Mod_call_11 : decode b_Mod_call 11 = .ok (.getfield 104, 3) := by decide +kernel
theorem d_Mod_call_14 : decode b_Mod_call 14 = .ok (.sipush 200, 3) := by decide +kernel
theorem d_Mod_call_17 : decode b_Mod_call 17 = .ok (.if_icmp .eq 33, 3) := by decide +kernel
theorem d_Mod_call_20 : decode b_Mod_call 20 = .ok (.iload_n 1, 1) := by decide +kernel
theorem d_Mod_call_21 : decode b_Mod_call 21 = .ok (.ifCond .lt 29, 3) := by decide +kernel
theorem d_Mod_call_24 : decode b_Mod_call 24 = .ok (.iload_n 1, 1) := by decide +kernel
theorem d_Mod_call_25 : decode b_Mod_call 25 = .ok (.aload_n 0, 1) := by decide +kernel
theorem d_Mod_call_26 : decode b_Mod_call 26 = .ok (.getfield 101, 3) := by decide +kernel
theorem d_Mod_call_29 : decode b_Mod_call 29 = .ok (.if_icmp .ge 21, 3) := by decide +kernel
theorem d_Mod_call_32 : decode b_Mod_call 32 = .ok (.iload_n 2, 1) := by decide +kernel
theorem d_Mod_call_33 : decode b_Mod_call 33 = .ok (.aload_n 0, 1) := by decide +kernel
theorem d_Mod_call_34 : decode b_Mod_call 34 = .ok (.getfield 26, 3) := by decide +kernel
theorem d_Mod_call_37 : decode b_Mod_call 37 = .ok (.iload_n 1, 1) := by decide +kernel
theorem d_Mod_call_38 : decode b_Mod_call 38 = .ok (.iaload, 1) := by decide +kernel
theorem d_Mod_call_39 : decode b_Mod_call 39 = .ok (.if_icmp .ne 11, 3) := by decide +kernel
theorem d_Mod_call_42 : decode b_Mod_call 42 = .ok (.aload_n 0, 1) := by decide +kernel
theorem d_Mod_call_43 : decode b_Mod_call 43 = .ok (.iload_n 2, 1) := by decide +kernel
theorem d_Mod_call_44 : decode b_Mod_call 44 = .ok (.invokevirtual 111, 3) := by decide +kernel
theorem d_Mod_call_47 : decode b_Mod_call 47 = .ok (.ifCond .ne 5, 3) := by decide +kernel
theorem d_Mod_call_50 : decode b_Mod_call 50 = .ok (.iconst (-1), 1) := by decide +kernel
theorem d_Mod_call_51 : decode b_Mod_call 51 = .ok (.ireturn, 1) := by decide +kernel
theorem d_Mod_call_52 : decode b_Mod_call 52 = .ok (.aload_n 0, 1) := by decide +kernel
theorem d_Mod_call_53 : decode b_Mod_call 53 = .ok (.iconst 2, 1) := by decide +kernel
theorem d_Mod_call_54 : decode b_Mod_call 54 = .ok (.iload_n 1, 1) := by decide +kernel
theorem d_Mod_call_55 : decode b_Mod_call 55 = .ok (.iconst (-1), 1) := by decide +kernel
theorem d_Mod_call_56 : decode b_Mod_call 56 = .ok (.iload_n 2, 1) := by decide +kernel
theorem d_Mod_call_57 : decode b_Mod_call 57 = .ok (.invokevirtual 107, 3) := by decide +kernel
theorem d_Mod_call_60 : decode b_Mod_call 60 = .ok (.ireturn, 1) := by decide +kernel
abbrev b_Mod_form : ByteArray := prog_10_method_19_code
def y_Mod_form : MethodName := ⟨R_Mod, "form", "(II)I"⟩
def ws_Mod_form : List Cond := Cond.code y_Mod_form b_Mod_form 4 (some .int) :: GW
theorem hd_Mod_form : y_Mod_form.cls ≠ "java/lang/invoke/MethodHandle" ∧ y_Mod_form.cls ≠ "java/lang/invoke/VarHandle" ∧ (parseMethodDescriptor y_Mod_form.desc).map (fun d => d.parameters.length) = some 2 := by decide +kernel
theorem d_Mod_form_0 : decode b_Mod_form 0 = .ok (.aload_n 0, 1) := by decide +kernel
theorem d_Mod_form_1 : decode b_Mod_form 1 = .ok (.iconst 0, 1) := by decide +kernel
theorem d_Mod_form_2 : decode b_Mod_form 2 = .ok (.putfield 74, 3) := by decide +kernel
theorem d_Mod_form_5 : decode b_Mod_form 5 = .ok (.aload_n 0, 1) := by decide +kernel
theorem d_Mod_form_6 : decode b_Mod_form 6 = .ok (.invokevirtual 87, 3) := by decide +kernel
theorem d_Mod_form_9 : decode b_Mod_form 9 = .ok (.istore_n 3, 1) := by decide +kernel
theorem d_Mod_form_10 : decode b_Mod_form 10 = .ok (.aload_n 0, 1) := by decide +kernel
theorem d_Mod_form_11 : decode b_Mod_form 11 = .ok (.getfield 104, 3) := by decide +kernel
theorem d_Mod_form_14 : decode b_Mod_form 14 = .ok (.sipush 200, 3) := by decide +kernel
theorem d_Mod_form_17 : decode b_Mod_form 17 = .ok (.if_icmp .eq 34, 3) := by decide +kernel
theorem d_Mod_form_20 : decode b_Mod_form 20 = .ok (.iload_n 1, 1) := by decide +kernel
theorem d_Mod_form_21 : decode b_Mod_form 21 = .ok (.invokestatic 84, 3) := by decide +kernel
theorem d_Mod_form_24 : decode b_Mod_form 24 = .ok (.ifCond .eq 27, 3) := by decide +kernel
theorem d_Mod_form_27 : decode b_Mod_form 27 = .ok (.iload_n 2, 1) := by decide +kernel
theorem d_Mod_form_28 : decode b_Mod_form 28 = .ok (.ifCond .lt 23, 3) := by decide +kernel
theorem d_Mod_form_31 : decode b_Mod_form 31 = .ok (.iload_n 2, 1) := by decide +kernel
theorem d_Mod_form_32 : decode b_Mod_form 32 = .ok (.sipush 199, 3) := by decide +kernel
theorem d_Mod_form_35 : decode b_Mod_form 35 = .ok (.if_icmp .gt 16, 3) := by decide +kernel
theorem d_Mod_form_38 : decode b_Mod_form 38 = .ok (.iload_n 3, 1) := by decide +kernel
theorem d_Mod_form_39 : decode b_Mod_form 39 = .ok (.iconst 4, 1) := by decide +kernel
theorem d_Mod_form_40 : decode b_Mod_form 40 = .ok (.if_icmp .gt 11, 3) := by decide +kernel
theorem d_Mod_form_43 : decode b_Mod_form 43 = .ok (.aload_n 0, 1) := by decide +kernel
theorem d_Mod_form_44 : decode b_Mod_form 44 = .ok (.iload_n 3, 1) := by decide +kernel
theorem d_Mod_form_45 : decode b_Mod_form 45 = .ok (.invokevirtual 111, 3) := by decide +kernel
theorem d_Mod_form_48 : decode b_Mod_form 48 = .ok (.ifCond .ne 5, 3) := by decide +kernel
theorem d_Mod_form_51 : decode b_Mod_form 51 = .ok (.iconst (-1), 1) := by decide +kernel
theorem d_Mod_form_52 : decode b_Mod_form 52 = .ok (.ireturn, 1) := by decide +kernel
theorem d_Mod_form_53 : decode b_Mod_form 53 = .ok (.aload_n 0, 1) := by decide +kernel
theorem d_Mod_form_54 : decode b_Mod_form 54 = .ok (.iconst 3, 1) := by decide +kernel
theorem d_Mod_form_55 : decode b_Mod_form 55 = .ok (.iload_n 2, 1) := by decide +kernel
theorem d_Mod_form_56 : decode b_Mod_form 56 = .ok (.iload_n 1, 1) := by decide +kernel
theorem d_Mod_form_57 : decode b_Mod_form 57 = .ok (.iload_n 3, 1) := by decide +kernel
theorem d_Mod_form_58 : decode b_Mod_form 58 = .ok (.invokevirtual 107, 3) := by decide +kernel
theorem d_Mod_form_61 : decode b_Mod_form 61 = .ok (.ireturn, 1) := by decide +kernel
abbrev b_Mod_gets : ByteArray := prog_10_method_20_code
def y_Mod_gets : MethodName := ⟨R_Mod, "gets", "(II)V"⟩
def ws_Mod_gets : List Cond := Cond.code y_Mod_gets b_Mod_gets 4 none :: GW
theorem hd_Mod_gets : y_Mod_gets.cls ≠ "java/lang/invoke/MethodHandle" ∧ y_Mod_gets.cls ≠ "java/lang/invoke/VarHandle" ∧ (parseMethodDescriptor y_Mod_gets.desc).map (fun d => d.parameters.length) = some 2 := by decide +kernel
theorem d_Mod_gets_0 : decode b_Mod_gets 0 = .ok (.aload_n 0, 1) := by decide +kernel
theorem d_Mod_gets_1 : decode b_Mod_gets 1 = .ok (.getfield 50, 3) := by decide +kernel
theorem d_Mod_gets_4 : decode b_Mod_gets 4 = .ok (.iload_n 1, 1) := by decide +kernel
theorem d_Mod_gets_5 : decode b_Mod_gets 5 = .ok (.iaload, 1) := by decide +kernel
theorem d_Mod_gets_6 : decode b_Mod_gets 6 = .ok (.istore_n 3, 1) := by decide +kernel
theorem d_Mod_gets_7 : decode b_Mod_gets 7 = .ok (.aload_n 0, 1) := by decide +kernel
theorem d_Mod_gets_8 : decode b_Mod_gets 8 = .ok (.getfield 53, 3) := by decide +kernel
theorem d_Mod_gets_11 : decode b_Mod_gets 11 = .ok (.iload_n 3, 1) := by decide +kernel
theorem d_Mod_gets_12 : decode b_Mod_gets 12 = .ok (.iaload, 1) := by decide +kernel
theorem d_Mod_gets_13 : decode b_Mod_gets 13 = .ok (.iconst (-1), 1) := by decide +kernel
theorem d_Mod_gets_14 : decode b_Mod_gets 14 = .ok (.if_icmp .ne 18, 3) := by decide +kernel
theorem d_Mod_gets_17 : decode b_Mod_gets 17 = .ok (.aload_n 0, 1) := by decide +kernel
theorem d_Mod_gets_18 : decode b_Mod_gets 18 = .ok (.getfield 53, 3) := by decide +kernel
theorem d_Mod_gets_21 : decode b_Mod_gets 21 = .ok (.iload_n 3, 1) := by decide +kernel
theorem d_Mod_gets_22 : decode b_Mod_gets 22 = .ok (.iload_n 2, 1) := by decide +kernel
theorem d_Mod_gets_23 : decode b_Mod_gets 23 = .ok (.iastore, 1) := by decide +kernel
theorem d_Mod_gets_24 : decode b_Mod_gets 24 = .ok (.aload_n 0, 1) := by decide +kernel
theorem d_Mod_gets_25 : decode b_Mod_gets 25 = .ok (.iconst 1, 1) := by decide +kernel
theorem d_Mod_gets_26 : decode b_Mod_gets 26 = .ok (.putfield 114, 3) := by decide +kernel
theorem d_Mod_gets_29 : decode b_Mod_gets 29 = .ok (.goto 18, 3) := by decide +kernel
theorem d_Mod_gets_32 : decode b_Mod_gets 32 = .ok (.aload_n 0, 1) := by decide +kernel
theorem d_Mod_gets_33 : decode b_Mod_gets 33 = .ok (.getfield 53, 3) := by decide +kernel
theorem d_Mod_gets_36 : decode b_Mod_gets 36 = .ok (.iload_n 3, 1) := by decide +kernel
theorem d_Mod_gets_37 : decode b_Mod_gets 37 = .ok (.iaload, 1) := by decide +kernel
theorem d_Mod_gets_38 : decode b_Mod_gets 38 = .ok (.iload_n 2, 1) := by decide +kernel
theorem d_Mod_gets_39 : decode b_Mod_gets 39 = .ok (.if_icmp .eq 8, 3) := by decide +kernel
theorem d_Mod_gets_42 : decode b_Mod_gets 42 = .ok (.aload_n 0, 1) := by decide +kernel
theorem d_Mod_gets_43 : decode b_Mod_gets 43 = .ok (.iconst 1, 1) := by decide +kernel
theorem d_Mod_gets_44 : decode b_Mod_gets 44 = .ok (.putfield 118, 3) := by decide +kernel
theorem d_Mod_gets_47 : decode b_Mod_gets 47 = .ok (.return_, 1) := by decide +kernel
abbrev b_Mod_join : ByteArray := prog_10_method_21_code
def y_Mod_join : MethodName := ⟨R_Mod, "join", "(II)V"⟩
def ws_Mod_join : List Cond := Cond.code y_Mod_join b_Mod_join 8 none :: GW
theorem hd_Mod_join : y_Mod_join.cls ≠ "java/lang/invoke/MethodHandle" ∧ y_Mod_join.cls ≠ "java/lang/invoke/VarHandle" ∧ (parseMethodDescriptor y_Mod_join.desc).map (fun d => d.parameters.length) = some 2 := by decide +kernel
theorem d_Mod_join_0 : decode b_Mod_join 0 = .ok (.aload_n 0, 1) := by decide +kernel
theorem d_Mod_join_1 : decode b_Mod_join 1 = .ok (.getfield 50, 3) := by decide +kernel
theorem d_Mod_join_4 : decode b_Mod_join 4 = .ok (.iload_n 1, 1) := by decide +kernel
theorem d_Mod_join_5 : decode b_Mod_join 5 = .ok (.iaload, 1) := by decide +kernel
theorem d_Mod_join_6 : decode b_Mod_join 6 = .ok (.istore_n 3, 1) := by decide +kernel
theorem d_Mod_join_7 : decode b_Mod_join 7 = .ok (.aload_n 0, 1) := by decide +kernel
theorem d_Mod_join_8 : decode b_Mod_join 8 = .ok (.getfield 50, 3) := by decide +kernel
theorem d_Mod_join_11 : decode b_Mod_join 11 = .ok (.iload_n 2, 1) := by decide +kernel
theorem d_Mod_join_12 : decode b_Mod_join 12 = .ok (.iaload, 1) := by decide +kernel
theorem d_Mod_join_13 : decode b_Mod_join 13 = .ok (.istore 4, 2) := by decide +kernel
theorem d_Mod_join_15 : decode b_Mod_join 15 = .ok (.iload_n 3, 1) := by decide +kernel
theorem d_Mod_join_16 : decode b_Mod_join 16 = .ok (.iload 4, 2) := by decide +kernel
theorem d_Mod_join_18 : decode b_Mod_join 18 = .ok (.if_icmp .ne 4, 3) := by decide +kernel
theorem d_Mod_join_21 : decode b_Mod_join 21 = .ok (.return_, 1) := by decide +kernel
theorem d_Mod_join_22 : decode b_Mod_join 22 = .ok (.aload_n 0, 1) := by decide +kernel
theorem d_Mod_join_23 : decode b_Mod_join 23 = .ok (.getfield 53, 3) := by decide +kernel
theorem d_Mod_join_26 : decode b_Mod_join 26 = .ok (.iload_n 3, 1) := by decide +kernel
theorem d_Mod_join_27 : decode b_Mod_join 27 = .ok (.iaload, 1) := by decide +kernel
theorem d_Mod_join_28 : decode b_Mod_join 28 = .ok (.iconst (-1), 1) := by decide +kernel
theorem d_Mod_join_29 : decode b_Mod_join 29 = .ok (.if_icmp .eq 36, 3) := by decide +kernel
theorem d_Mod_join_32 : decode b_Mod_join 32 = .ok (.aload_n 0, 1) := by decide +kernel
theorem d_Mod_join_33 : decode b_Mod_join 33 = .ok (.getfield 53, 3) := by decide +kernel
theorem d_Mod_join_36 : decode b_Mod_join 36 = .ok (.iload 4, 2) := by decide +kernel
theorem d_Mod_join_38 : decode b_Mod_join 38 = .ok (.iaload, 1) := by decide +kernel
theorem d_Mod_join_39 : decode b_Mod_join 39 = .ok (.iconst (-1), 1) := by decide +kernel
theorem d_Mod_join_40 : decode b_Mod_join 40 = .ok (.if_icmp .eq 25, 3) := by decide +kernel
theorem d_Mod_join_43 : decode b_Mod_join 43 = .ok (.aload_n 0, 1) := by decide +kernel
theorem d_Mod_join_44 : decode b_Mod_join 44 = .ok (.getfield 53, 3) := by decide +kernel
theorem d_Mod_join_47 : decode b_Mod_join 47 = .ok (.iload_n 3, 1) := by decide +kernel
theorem d_Mod_join_48 : decode b_Mod_join 48 = .ok (.iaload, 1) := by decide +kernel
theorem d_Mod_join_49 : decode b_Mod_join 49 = .ok (.aload_n 0, 1) := by decide +kernel
theorem d_Mod_join_50 : decode b_Mod_join 50 = .ok (.getfield 53, 3) := by decide +kernel
theorem d_Mod_join_53 : decode b_Mod_join 53 = .ok (.iload 4, 2) := by decide +kernel
theorem d_Mod_join_55 : decode b_Mod_join 55 = .ok (.iaload, 1) := by decide +kernel
theorem d_Mod_join_56 : decode b_Mod_join 56 = .ok (.if_icmp .eq 9, 3) := by decide +kernel
theorem d_Mod_join_59 : decode b_Mod_join 59 = .ok (.aload_n 0, 1) := by decide +kernel
theorem d_Mod_join_60 : decode b_Mod_join 60 = .ok (.iconst 1, 1) := by decide +kernel
theorem d_Mod_join_61 : decode b_Mod_join 61 = .ok (.putfield 118, 3) := by decide +kernel
theorem d_Mod_join_64 : decode b_Mod_join 64 = .ok (.return_, 1) := by decide +kernel
theorem d_Mod_join_65 : decode b_Mod_join 65 = .ok (.iload_n 3, 1) := by decide +kernel
theorem d_Mod_join_66 : decode b_Mod_join 66 = .ok (.iload 4, 2) := by decide +kernel
theorem d_Mod_join_68 : decode b_Mod_join 68 = .ok (.if_icmp .ge 7, 3) := by decide +kernel
theorem d_Mod_join_71 : decode b_Mod_join 71 = .ok (.iload_n 3, 1) := by decide +kernel
theorem d_Mod_join_72 : decode b_Mod_join 72 = .ok (.goto 5, 3) := by decide +kernel
theorem d_Mod_join_75 : decode b_Mod_join 75 = .ok (.iload 4, 2) := by decide +kernel
theorem d_Mod_join_77 : decode b_Mod_join 77 = .ok (.istore 5, 2) := by decide +kernel
theorem d_Mod_join_79 : decode b_Mod_join 79 = .ok (.iload_n 3, 1) := by decide +kernel
theorem d_Mod_join_80 : decode b_Mod_join 80 = .ok (.iload 4, 2) := by decide +kernel
theorem d_Mod_join_82 : decode b_Mod_join 82 = .ok (.if_icmp .ge 8, 3) := by decide +kernel
theorem d_Mod_join_85 : decode b_Mod_join 85 = .ok (.iload 4, 2) := by decide +kernel
theorem d_Mod_join_87 : decode b_Mod_join 87 = .ok (.goto 4, 3) := by decide +kernel
theorem d_Mod_join_90 : decode b_Mod_join 90 = .ok (.iload_n 3, 1) := by decide +kernel
theorem d_Mod_join_91 : decode b_Mod_join 91 = .ok (.istore 6, 2) := by decide +kernel
theorem d_Mod_join_93 : decode b_Mod_join 93 = .ok (.aload_n 0, 1) := by decide +kernel
theorem d_Mod_join_94 : decode b_Mod_join 94 = .ok (.getfield 53, 3) := by decide +kernel
theorem d_Mod_join_97 : decode b_Mod_join 97 = .ok (.iload 5, 2) := by decide +kernel
theorem d_Mod_join_99 : decode b_Mod_join 99 = .ok (.iaload, 1) := by decide +kernel
theorem d_Mod_join_100 : decode b_Mod_join 100 = .ok (.iconst (-1), 1) := by decide +kernel
theorem d_Mod_join_101 : decode b_Mod_join 101 = .ok (.if_icmp .ne 17, 3) := by decide +kernel
theorem d_Mod_join_104 : decode b_Mod_join 104 = .ok (.aload_n 0, 1) := by decide +kernel
theorem d_Mod_join_105 : decode b_Mod_join 105 = .ok (.getfield 53, 3) := by decide +kernel
theorem d_Mod_join_108 : decode b_Mod_join 108 = .ok (.iload 5, 2) := by decide +kernel
theorem d_Mod_join_110 : decode b_Mod_join 110 = .ok (.aload_n 0, 1) := by decide +kernel
theorem d_Mod_join_111 : decode b_Mod_join 111 = .ok (.getfield 53, 3) := by decide +kernel
theorem d_Mod_join_114 : decode b_Mod_join 114 = .ok (.iload 6, 2) := by decide +kernel
theorem d_Mod_join_116 : decode b_Mod_join 116 = .ok (.iaload, 1) := by decide +kernel
theorem d_Mod_join_117 : decode b_Mod_join 117 = .ok (.iastore, 1) := by decide +kernel
theorem d_Mod_join_118 : decode b_Mod_join 118 = .ok (.iconst 0, 1) := by decide +kernel
theorem d_Mod_join_119 : decode b_Mod_join 119 = .ok (.istore 7, 2) := by decide +kernel
theorem d_Mod_join_121 : decode b_Mod_join 121 = .ok (.iload 7, 2) := by decide +kernel
theorem d_Mod_join_123 : decode b_Mod_join 123 = .ok (.bipush 80, 2) := by decide +kernel
theorem d_Mod_join_125 : decode b_Mod_join 125 = .ok (.if_icmp .ge 30, 3) := by decide +kernel
theorem d_Mod_join_128 : decode b_Mod_join 128 = .ok (.aload_n 0, 1) := by decide +kernel
theorem d_Mod_join_129 : decode b_Mod_join 129 = .ok (.getfield 50, 3) := by decide +kernel
theorem d_Mod_join_132 : decode b_Mod_join 132 = .ok (.iload 7, 2) := by decide +kernel
theorem d_Mod_join_134 : decode b_Mod_join 134 = .ok (.iaload, 1) := by decide +kernel
theorem d_Mod_join_135 : decode b_Mod_join 135 = .ok (.iload 6, 2) := by decide +kernel
theorem d_Mod_join_137 : decode b_Mod_join 137 = .ok (.if_icmp .ne 12, 3) := by decide +kernel
theorem d_Mod_join_140 : decode b_Mod_join 140 = .ok (.aload_n 0, 1) := by decide +kernel
theorem d_Mod_join_141 : decode b_Mod_join 141 = .ok (.getfield 50, 3) := by decide +kernel
theorem d_Mod_join_144 : decode b_Mod_join 144 = .ok (.iload 7, 2) := by decide +kernel
theorem d_Mod_join_146 : decode b_Mod_join 146 = .ok (.iload 5, 2) := by decide +kernel
theorem d_Mod_join_148 : decode b_Mod_join 148 = .ok (.iastore, 1) := by decide +kernel
theorem d_Mod_join_149 : decode b_Mod_join 149 = .ok (.iinc 7 1, 3) := by decide +kernel
theorem d_Mod_join_152 : decode b_Mod_join 152 = .ok (.goto (-31), 3) := by decide +kernel
theorem d_Mod_join_155 : decode b_Mod_join 155 = .ok (.aload_n 0, 1) := by decide +kernel
theorem d_Mod_join_156 : decode b_Mod_join 156 = .ok (.iconst 1, 1) := by decide +kernel
theorem d_Mod_join_157 : decode b_Mod_join 157 = .ok (.putfield 114, 3) := by decide +kernel
theorem d_Mod_join_160 : decode b_Mod_join 160 = .ok (.return_, 1) := by decide +kernel
abbrev b_Mod_isOpen : ByteArray := prog_10_method_22_code
def y_Mod_isOpen : MethodName := ⟨R_Mod, "isOpen", "(II)Z"⟩
def ws_Mod_isOpen : List Cond := Cond.code y_Mod_isOpen b_Mod_isOpen 4 (some .boolean) :: GW
theorem hd_Mod_isOpen : y_Mod_isOpen.cls ≠ "java/lang/invoke/MethodHandle" ∧ y_Mod_isOpen.cls ≠ "java/lang/invoke/VarHandle" ∧ (parseMethodDescriptor y_Mod_isOpen.desc).map (fun d => d.parameters.length) = some 2 := by decide +kernel
theorem d_Mod_isOpen_0 : decode b_Mod_isOpen 0 = .ok (.aload_n 0, 1) := by decide +kernel
theorem d_Mod_isOpen_1 : decode b_Mod_isOpen 1 = .ok (.getfield 53, 3) := by decide +kernel
theorem d_Mod_isOpen_4 : decode b_Mod_isOpen 4 = .ok (.aload_n 0, 1) := by decide +kernel
theorem d_Mod_isOpen_5 : decode b_Mod_isOpen 5 = .ok (.getfield 50, 3) := by decide +kernel
theorem d_Mod_isOpen_8 : decode b_Mod_isOpen 8 = .ok (.iload_n 1, 1) := by decide +kernel
theorem d_Mod_isOpen_9 : decode b_Mod_isOpen 9 = .ok (.iaload, 1) := by decide +kernel
theorem d_Mod_isOpen_10 : decode b_Mod_isOpen 10 = .ok (.iaload, 1) := by decide +kernel
theorem d_Mod_isOpen_11 : decode b_Mod_isOpen 11 = .ok (.istore_n 3, 1) := by decide +kernel
theorem d_Mod_isOpen_12 : decode b_Mod_isOpen 12 = .ok (.iload_n 3, 1) := by decide +kernel
theorem d_Mod_isOpen_13 : decode b_Mod_isOpen 13 = .ok (.iconst (-1), 1) := by decide +kernel
theorem d_Mod_isOpen_14 : decode b_Mod_isOpen 14 = .ok (.if_icmp .eq 8, 3) := by decide +kernel
theorem d_Mod_isOpen_17 : decode b_Mod_isOpen 17 = .ok (.iload_n 3, 1) := by decide +kernel
theorem d_Mod_isOpen_18 : decode b_Mod_isOpen 18 = .ok (.iload_n 2, 1) := by decide +kernel
theorem d_Mod_isOpen_19 : decode b_Mod_isOpen 19 = .ok (.if_icmp .ne 7, 3) := by decide +kernel
theorem d_Mod_isOpen_22 : decode b_Mod_isOpen 22 = .ok (.iconst 1, 1) := by decide +kernel
theorem d_Mod_isOpen_23 : decode b_Mod_isOpen 23 = .ok (.goto 4, 3) := by decide +kernel
theorem d_Mod_isOpen_26 : decode b_Mod_isOpen 26 = .ok (.iconst 0, 1) := by decide +kernel
theorem d_Mod_isOpen_27 : decode b_Mod_isOpen 27 = .ok (.ireturn, 1) := by decide +kernel
abbrev b_Mod_fits : ByteArray := prog_10_method_23_code
def y_Mod_fits : MethodName := ⟨R_Mod, "fits", "(II)Z"⟩
def ws_Mod_fits : List Cond := Cond.code y_Mod_fits b_Mod_fits 4 (some .boolean) :: GW
theorem hd_Mod_fits : y_Mod_fits.cls ≠ "java/lang/invoke/MethodHandle" ∧ y_Mod_fits.cls ≠ "java/lang/invoke/VarHandle" ∧ (parseMethodDescriptor y_Mod_fits.desc).map (fun d => d.parameters.length) = some 2 := by decide +kernel
theorem d_Mod_fits_0 : decode b_Mod_fits 0 = .ok (.aload_n 0, 1) := by decide +kernel
theorem d_Mod_fits_1 : decode b_Mod_fits 1 = .ok (.getfield 17, 3) := by decide +kernel
theorem d_Mod_fits_4 : decode b_Mod_fits 4 = .ok (.iload_n 1, 1) := by decide +kernel
theorem d_Mod_fits_5 : decode b_Mod_fits 5 = .ok (.iaload, 1) := by decide +kernel
theorem d_Mod_fits_6 : decode b_Mod_fits 6 = .ok (.aload_n 0, 1) := by decide +kernel
theorem d_Mod_fits_7 : decode b_Mod_fits 7 = .ok (.getfield 38, 3) := by decide +kernel
theorem d_Mod_fits_10 : decode b_Mod_fits 10 = .ok (.iload_n 2, 1) := by decide +kernel
theorem d_Mod_fits_11 : decode b_Mod_fits 11 = .ok (.iaload, 1) := by decide +kernel
theorem d_Mod_fits_12 : decode b_Mod_fits 12 = .ok (.if_icmp .ne 37, 3) := by decide +kernel
theorem d_Mod_fits_15 : decode b_Mod_fits 15 = .ok (.aload_n 0, 1) := by decide +kernel
theorem d_Mod_fits_16 : decode b_Mod_fits 16 = .ok (.getfield 20, 3) := by decide +kernel
theorem d_Mod_fits_19 : decode b_Mod_fits 19 = .ok (.iload_n 1, 1) := by decide +kernel
theorem d_Mod_fits_20 : decode b_Mod_fits 20 = .ok (.iaload, 1) := by decide +kernel
theorem d_Mod_fits_21 : decode b_Mod_fits 21 = .ok (.aload_n 0, 1) := by decide +kernel
theorem d_Mod_fits_22 : decode b_Mod_fits 22 = .ok (.getfield 44, 3) := by decide +kernel
theorem d_Mod_fits_25 : decode b_Mod_fits 25 = .ok (.iload_n 2, 1) := by decide +kernel
theorem d_Mod_fits_26 : decode b_Mod_fits 26 = .ok (.iaload, 1) := by decide +kernel
theorem d_Mod_fits_27 : decode b_Mod_fits 27 = .ok (.if_icmp .ne 22, 3) := by decide +kernel
theorem d_Mod_fits_30 : decode b_Mod_fits 30 = .ok (.aload_n 0, 1) := by decide +kernel
theorem d_Mod_fits_31 : decode b_Mod_fits 31 = .ok (.aload_n 0, 1) := by decide +kernel
theorem d_Mod_fits_32 : decode b_Mod_fits 32 = .ok (.getfield 41, 3) := by decide +kernel
theorem d_Mod_fits_35 : decode b_Mod_fits 35 = .ok (.iload_n 2, 1) := by decide +kernel
theorem d_Mod_fits_36 : decode b_Mod_fits 36 = .ok (.iaload, 1) := by decide +kernel
theorem d_Mod_fits_37 : decode b_Mod_fits 37 = .ok (.aload_n 0, 1) := by decide +kernel
theorem d_Mod_fits_38 : decode b_Mod_fits 38 = .ok (.getfield 13, 3) := by decide +kernel
theorem d_Mod_fits_41 : decode b_Mod_fits 41 = .ok (.iload_n 1, 1) := by decide +kernel
theorem d_Mod_fits_42 : decode b_Mod_fits 42 = .ok (.iaload, 1) := by decide +kernel
theorem d_Mod_fits_43 : decode b_Mod_fits 43 = .ok (.invokevirtual 121, 3) := by decide +kernel
theorem d_Mod_fits_46 : decode b_Mod_fits 46 = .ok (.ifCond .ne 5, 3) := by decide +kernel
theorem d_Mod_fits_49 : decode b_Mod_fits 49 = .ok (.iconst 0, 1) := by decide +kernel
theorem d_Mod_fits_50 : decode b_Mod_fits 50 = .ok (.ireturn, 1) := by decide +kernel
theorem d_Mod_fits_51 : decode b_Mod_fits 51 = .ok (.iconst 0, 1) := by decide +kernel
theorem d_Mod_fits_52 : decode b_Mod_fits 52 = .ok (.istore_n 3, 1) := by decide +kernel
theorem d_Mod_fits_53 : decode b_Mod_fits 53 = .ok (.iload_n 3, 1) := by decide +kernel
theorem d_Mod_fits_54 : decode b_Mod_fits 54 = .ok (.aload_n 0, 1) := by decide +kernel
theorem d_Mod_fits_55 : decode b_Mod_fits 55 = .ok (.getfield 44, 3) := by decide +kernel
theorem d_Mod_fits_58 : decode b_Mod_fits 58 = .ok (.iload_n 2, 1) := by decide +kernel
theorem d_Mod_fits_59 : decode b_Mod_fits 59 = .ok (.iaload, 1) := by decide +kernel
theorem d_Mod_fits_60 : decode b_Mod_fits 60 = .ok (.if_icmp .ge 39, 3) := by decide +kernel
theorem d_Mod_fits_63 : decode b_Mod_fits 63 = .ok (.aload_n 0, 1) := by decide +kernel
theorem d_Mod_fits_64 : decode b_Mod_fits 64 = .ok (.aload_n 0, 1) := by decide +kernel
theorem d_Mod_fits_65 : decode b_Mod_fits 65 = .ok (.getfield 47, 3) := by decide +kernel
theorem d_Mod_fits_68 : decode b_Mod_fits 68 = .ok (.bipush 6, 2) := by decide +kernel
theorem d_Mod_fits_70 : decode b_Mod_fits 70 = .ok (.iload_n 2, 1) := by decide +kernel
theorem d_Mod_fits_71 : decode b_Mod_fits 71 = .ok (.imul, 1) := by decide +kernel
theorem d_Mod_fits_72 : decode b_Mod_fits 72 = .ok (.iload_n 3, 1) := by decide +kernel
theorem d_Mod_fits_73 : decode b_Mod_fits 73 = .ok (.iadd, 1) := by decide +kernel
theorem d_Mod_fits_74 : decode b_Mod_fits 74 = .ok (.iaload, 1) := by decide +kernel
theorem d_Mod_fits_75 : decode b_Mod_fits 75 = .ok (.aload_n 0, 1) := by decide +kernel
theorem d_Mod_fits_76 : decode b_Mod_fits 76 = .ok (.getfield 23, 3) := by decide +kernel
theorem d_Mod_fits_79 : decode b_Mod_fits 79 = .ok (.iconst 4, 1) := by decide +kernel
theorem d_Mod_fits_80 : decode b_Mod_fits 80 = .ok (.iload_n 1, 1) := by decide +kernel
theorem d_Mod_fits_81 : decode b_Mod_fits 81 = .ok (.imul, 1) := by decide +kernel
theorem d_Mod_fits_82 : decode b_Mod_fits 82 = .ok (.iload_n 3, 1) := by decide +kernel
theorem d_Mod_fits_83 : decode b_Mod_fits 83 = .ok (.iadd, 1) := by decide +kernel
theorem d_Mod_fits_84 : decode b_Mod_fits 84 = .ok (.iaload, 1) := by decide +kernel
theorem d_Mod_fits_85 : decode b_Mod_fits 85 = .ok (.invokevirtual 121, 3) := by decide +kernel
theorem d_Mod_fits_88 : decode b_Mod_fits 88 = .ok (.ifCond .ne 5, 3) := by decide +kernel
theorem d_Mod_fits_91 : decode b_Mod_fits 91 = .ok (.iconst 0, 1) := by decide +kernel
theorem d_Mod_fits_92 : decode b_Mod_fits 92 = .ok (.ireturn, 1) := by decide +kernel
theorem d_Mod_fits_93 : decode b_Mod_fits 93 = .ok (.iinc 3 1, 3) := by decide +kernel
theorem d_Mod_fits_96 : decode b_Mod_fits 96 = .ok (.goto (-43), 3) := by decide +kernel
theorem d_Mod_fits_99 : decode b_Mod_fits 99 = .ok (.iconst 1, 1) := by decide +kernel
theorem d_Mod_fits_100 : decode b_Mod_fits 100 = .ok (.ireturn, 1) := by decide +kernel
abbrev b_Mod_formed : ByteArray := prog_10_method_24_code
def y_Mod_formed : MethodName := ⟨R_Mod, "formed", "(I)V"⟩
def ws_Mod_formed : List Cond := Cond.code y_Mod_formed b_Mod_formed 5 none :: GW
theorem hd_Mod_formed : y_Mod_formed.cls ≠ "java/lang/invoke/MethodHandle" ∧ y_Mod_formed.cls ≠ "java/lang/invoke/VarHandle" ∧ (parseMethodDescriptor y_Mod_formed.desc).map (fun d => d.parameters.length) = some 1 := by decide +kernel
theorem d_Mod_formed_0 : decode b_Mod_formed 0 = .ok (.iconst (-1), 1) := by decide +kernel
theorem d_Mod_formed_1 : decode b_Mod_formed 1 = .ok (.istore_n 2, 1) := by decide +kernel
theorem d_Mod_formed_2 : decode b_Mod_formed 2 = .ok (.iconst 0, 1) := by decide +kernel
theorem d_Mod_formed_3 : decode b_Mod_formed 3 = .ok (.istore_n 3, 1) := by decide +kernel
theorem d_Mod_formed_4 : decode b_Mod_formed 4 = .ok (.iconst 0, 1) := by decide +kernel
theorem d_Mod_formed_5 : decode b_Mod_formed 5 = .ok (.istore 4, 2) := by decide +kernel
theorem d_Mod_formed_7 : decode b_Mod_formed 7 = .ok (.iload 4, 2) := by decide +kernel
theorem d_Mod_formed_9 : decode b_Mod_formed 9 = .ok (.aload_n 0, 1) := by decide +kernel
theorem d_Mod_formed_10 : decode b_Mod_formed 10 = .ok (.getfield 91, 3) := by decide +kernel
theorem d_Mod_formed_13 : decode b_Mod_formed 13 = .ok (.if_icmp .ge 28, 3) := by decide +kernel
theorem d_Mod_formed_16 : decode b_Mod_formed 16 = .ok (.aload_n 0, 1) := by decide +kernel
theorem d_Mod_formed_17 : decode b_Mod_formed 17 = .ok (.iload 4, 2) := by decide +kernel
theorem d_Mod_formed_19 : decode b_Mod_formed 19 = .ok (.iload_n 1, 1) := by decide +kernel
theorem d_Mod_formed_20 : decode b_Mod_formed 20 = .ok (.invokevirtual 125, 3) := by decide +kernel
theorem d_Mod_formed_23 : decode b_Mod_formed 23 = .ok (.ifCond .ne 6, 3) := by decide +kernel
theorem d_Mod_formed_26 : decode b_Mod_formed 26 = .ok (.goto 9, 3) := by decide +kernel
theorem d_Mod_formed_29 : decode b_Mod_formed 29 = .ok (.iload 4, 2) := by decide +kernel
theorem d_Mod_formed_31 : decode b_Mod_formed 31 = .ok (.istore_n 2, 1) := by decide +kernel
theorem d_Mod_formed_32 : decode b_Mod_formed 32 = .ok (.iinc 3 1, 3) := by decide +kernel
theorem d_Mod_formed_35 : decode b_Mod_formed 35 = .ok (.iinc 4 1, 3) := by decide +kernel
theorem d_Mod_formed_38 : decode b_Mod_formed 38 = .ok (.goto (-31), 3) := by decide +kernel
theorem d_Mod_formed_41 : decode b_Mod_formed 41 = .ok (.iload_n 3, 1) := by decide +kernel
theorem d_Mod_formed_42 : decode b_Mod_formed 42 = .ok (.ifCond .ne 8, 3) := by decide +kernel
theorem d_Mod_formed_45 : decode b_Mod_formed 45 = .ok (.aload_n 0, 1) := by decide +kernel
theorem d_Mod_formed_46 : decode b_Mod_formed 46 = .ok (.iconst 1, 1) := by decide +kernel
theorem d_Mod_formed_47 : decode b_Mod_formed 47 = .ok (.putfield 118, 3) := by decide +kernel
theorem d_Mod_formed_50 : decode b_Mod_formed 50 = .ok (.iload_n 3, 1) := by decide +kernel
theorem d_Mod_formed_51 : decode b_Mod_formed 51 = .ok (.iconst 1, 1) := by decide +kernel
theorem d_Mod_formed_52 : decode b_Mod_formed 52 = .ok (.if_icmp .eq 4, 3) := by decide +kernel
theorem d_Mod_formed_55 : decode b_Mod_formed 55 = .ok (.return_, 1) := by decide +kernel
theorem d_Mod_formed_56 : decode b_Mod_formed 56 = .ok (.aload_n 0, 1) := by decide +kernel
theorem d_Mod_formed_57 : decode b_Mod_formed 57 = .ok (.getfield 56, 3) := by decide +kernel
theorem d_Mod_formed_60 : decode b_Mod_formed 60 = .ok (.iload_n 1, 1) := by decide +kernel
theorem d_Mod_formed_61 : decode b_Mod_formed 61 = .ok (.iload_n 2, 1) := by decide +kernel
theorem d_Mod_formed_62 : decode b_Mod_formed 62 = .ok (.iastore, 1) := by decide +kernel
theorem d_Mod_formed_63 : decode b_Mod_formed 63 = .ok (.aload_n 0, 1) := by decide +kernel
theorem d_Mod_formed_64 : decode b_Mod_formed 64 = .ok (.iconst 1, 1) := by decide +kernel
theorem d_Mod_formed_65 : decode b_Mod_formed 65 = .ok (.putfield 114, 3) := by decide +kernel
theorem d_Mod_formed_68 : decode b_Mod_formed 68 = .ok (.aload_n 0, 1) := by decide +kernel
theorem d_Mod_formed_69 : decode b_Mod_formed 69 = .ok (.aload_n 0, 1) := by decide +kernel
theorem d_Mod_formed_70 : decode b_Mod_formed 70 = .ok (.getfield 41, 3) := by decide +kernel
theorem d_Mod_formed_73 : decode b_Mod_formed 73 = .ok (.iload_n 1, 1) := by decide +kernel
theorem d_Mod_formed_74 : decode b_Mod_formed 74 = .ok (.iaload, 1) := by decide +kernel
theorem d_Mod_formed_75 : decode b_Mod_formed 75 = .ok (.aload_n 0, 1) := by decide +kernel
theorem d_Mod_formed_76 : decode b_Mod_formed 76 = .ok (.getfield 13, 3) := by decide +kernel
theorem d_Mod_formed_79 : decode b_Mod_formed 79 = .ok (.iload_n 2, 1) := by decide +kernel
theorem d_Mod_formed_80 : decode b_Mod_formed 80 = .ok (.iaload, 1) := by decide +kernel
theorem d_Mod_formed_81 : decode b_Mod_formed 81 = .ok (.invokevirtual 128, 3) := by decide +kernel
theorem d_Mod_formed_84 : decode b_Mod_formed 84 = .ok (.iconst 0, 1) := by decide +kernel
theorem d_Mod_formed_85 : decode b_Mod_formed 85 = .ok (.istore 4, 2) := by decide +kernel
theorem d_Mod_formed_87 : decode b_Mod_formed 87 = .ok (.iload 4, 2) := by decide +kernel
theorem d_Mod_formed_89 : decode b_Mod_formed 89 = .ok (.aload_n 0, 1) := by decide +kernel
theorem d_Mod_formed_90 : decode b_Mod_formed 90 = .ok (.getfield 44, 3) := by decide +kernel
theorem d_Mod_formed_93 : decode b_Mod_formed 93 = .ok (.iload_n 1, 1) := by decide +kernel
theorem d_Mod_formed_94 : decode b_Mod_formed 94 = .ok (.iaload, 1) := by decide +kernel
theorem d_Mod_formed_95 : decode b_Mod_formed 95 = .ok (.if_icmp .ge 43, 3) := by decide +kernel
theorem d_Mod_formed_98 : decode b_Mod_formed 98 = .ok (.aload_n 0, 1) := by decide +kernel
theorem d_Mod_formed_99 : decode b_Mod_formed 99 = .ok (.getfield 118, 3) := by decide +kernel
theorem d_Mod_formed_102 : decode b_Mod_formed 102 = .ok (.ifCond .ne 36, 3) := by decide +kernel
theorem d_Mod_formed_105 : decode b_Mod_formed 105 = .ok (.aload_n 0, 1) := by decide +kernel
theorem d_Mod_formed_106 : decode b_Mod_formed 106 = .ok (.aload_n 0, 1) := by decide +kernel
theorem d_Mod_formed_107 : decode b_Mod_formed 107 = .ok (.getfield 47, 3) := by decide +kernel
theorem d_Mod_formed_110 : decode b_Mod_formed 110 = .ok (.bipush 6, 2) := by decide +kernel
theorem d_Mod_formed_112 : decode b_Mod_formed 112 = .ok (.iload_n 1, 1) := by decide +kernel
theorem d_Mod_formed_113 : decode b_Mod_formed 113 = .ok (.imul, 1) := by decide +kernel
theorem d_Mod_formed_114 : decode b_Mod_formed 114 = .ok (.iload 4, 2) := by decide +kernel
theorem d_Mod_formed_116 : decode b_Mod_formed 116 = .ok (.iadd, 1) := by decide +kernel
theorem d_Mod_formed_117 : decode b_Mod_formed 117 = .ok (.iaload, 1) := by decide +kernel
theorem d_Mod_formed_118 : decode b_Mod_formed 118 = .ok (.aload_n 0, 1) := by decide +kernel
theorem d_Mod_formed_119 : decode b_Mod_formed 119 = .ok (.getfield 23, 3) := by decide +kernel
theorem d_Mod_formed_122 : decode b_Mod_formed 122 = .ok (.iconst 4, 1) := by decide +kernel
theorem d_Mod_formed_123 : decode b_Mod_formed 123 = .ok (.iload_n 2, 1) := by decide +kernel
theorem d_Mod_formed_124 : decode b_Mod_formed 124 = .ok (.imul, 1) := by decide +kernel
theorem d_Mod_formed_125 : decode b_Mod_formed 125 = .ok (.iload 4, 2) := by decide +kernel
theorem d_Mod_formed_127 : decode b_Mod_formed 127 = .ok (.iadd, 1) := by decide +kernel
theorem d_Mod_formed_128 : decode b_Mod_formed 128 = .ok (.iaload, 1) := by decide +kernel
theorem d_Mod_formed_129 : decode b_Mod_formed 129 = .ok (.invokevirtual 128, 3) := by decide +kernel
theorem d_Mod_formed_132 : decode b_Mod_formed 132 = .ok (.iinc 4 1, 3) := by decide +kernel
theorem d_Mod_formed_135 : decode b_Mod_formed 135 = .ok (.goto (-48), 3) := by decide +kernel
theorem d_Mod_formed_138 : decode b_Mod_formed 138 = .ok (.return_, 1) := by decide +kernel
abbrev b_Mod_asked : ByteArray := prog_10_method_25_code
def y_Mod_asked : MethodName := ⟨R_Mod, "asked", "(I)V"⟩
def ws_Mod_asked : List Cond := Cond.code y_Mod_asked b_Mod_asked 3 none :: GW
theorem hd_Mod_asked : y_Mod_asked.cls ≠ "java/lang/invoke/MethodHandle" ∧ y_Mod_asked.cls ≠ "java/lang/invoke/VarHandle" ∧ (parseMethodDescriptor y_Mod_asked.desc).map (fun d => d.parameters.length) = some 1 := by decide +kernel
theorem d_Mod_asked_0 : decode b_Mod_asked 0 = .ok (.aload_n 0, 1) := by decide +kernel
theorem d_Mod_asked_1 : decode b_Mod_asked 1 = .ok (.getfield 35, 3) := by decide +kernel
theorem d_Mod_asked_4 : decode b_Mod_asked 4 = .ok (.iload_n 1, 1) := by decide +kernel
theorem d_Mod_asked_5 : decode b_Mod_asked 5 = .ok (.iaload, 1) := by decide +kernel
theorem d_Mod_asked_6 : decode b_Mod_asked 6 = .ok (.tableswitch 121 0 2 #[26, 40, 62], 26) := by decide +kernel
theorem d_Mod_asked_32 : decode b_Mod_asked 32 = .ok (.aload_n 0, 1) := by decide +kernel
theorem d_Mod_asked_33 : decode b_Mod_asked 33 = .ok (.aload_n 0, 1) := by decide +kernel
theorem d_Mod_asked_34 : decode b_Mod_asked 34 = .ok (.getfield 41, 3) := by decide +kernel
theorem d_Mod_asked_37 : decode b_Mod_asked 37 = .ok (.iload_n 1, 1) := by decide +kernel
theorem d_Mod_asked_38 : decode b_Mod_asked 38 = .ok (.iaload, 1) := by decide +kernel
theorem d_Mod_asked_39 : decode b_Mod_asked 39 = .ok (.iconst 0, 1) := by decide +kernel
theorem d_Mod_asked_40 : decode b_Mod_asked 40 = .ok (.invokevirtual 128, 3) := by decide +kernel
theorem d_Mod_asked_43 : decode b_Mod_asked 43 = .ok (.goto 99, 3) := by decide +kernel
theorem d_Mod_asked_46 : decode b_Mod_asked 46 = .ok (.aload_n 0, 1) := by decide +kernel
theorem d_Mod_asked_47 : decode b_Mod_asked 47 = .ok (.aload_n 0, 1) := by decide +kernel
theorem d_Mod_asked_48 : decode b_Mod_asked 48 = .ok (.getfield 41, 3) := by decide +kernel
theorem d_Mod_asked_51 : decode b_Mod_asked 51 = .ok (.iload_n 1, 1) := by decide +kernel
theorem d_Mod_asked_52 : decode b_Mod_asked 52 = .ok (.iaload, 1) := by decide +kernel
theorem d_Mod_asked_53 : decode b_Mod_asked 53 = .ok (.aload_n 0, 1) := by decide +kernel
theorem d_Mod_asked_54 : decode b_Mod_asked 54 = .ok (.getfield 47, 3) := by decide +kernel
theorem d_Mod_asked_57 : decode b_Mod_asked 57 = .ok (.bipush 6, 2) := by decide +kernel
theorem d_Mod_asked_59 : decode b_Mod_asked 59 = .ok (.iload_n 1, 1) := by decide +kernel
theorem d_Mod_asked_60 : decode b_Mod_asked 60 = .ok (.imul, 1) := by decide +kernel
theorem d_Mod_asked_61 : decode b_Mod_asked 61 = .ok (.iaload, 1) := by decide +kernel
theorem d_Mod_asked_62 : decode b_Mod_asked 62 = .ok (.invokevirtual 132, 3) := by decide +kernel
theorem d_Mod_asked_65 : decode b_Mod_asked 65 = .ok (.goto 77, 3) := by decide +kernel
theorem d_Mod_asked_68 : decode b_Mod_asked 68 = .ok (.iconst 0, 1) := by decide +kernel
theorem d_Mod_asked_69 : decode b_Mod_asked 69 = .ok (.istore_n 2, 1) := by decide +kernel
theorem d_Mod_asked_70 : decode b_Mod_asked 70 = .ok (.iload_n 2, 1) := by decide +kernel
theorem d_Mod_asked_71 : decode b_Mod_asked 71 = .ok (.aload_n 0, 1) := by decide +kernel
theorem d_Mod_asked_72 : decode b_Mod_asked 72 = .ok (.getfield 44, 3) := by decide +kernel
theorem d_Mod_asked_75 : decode b_Mod_asked 75 = .ok (.iload_n 1, 1) := by decide +kernel
theorem d_Mod_asked_76 : decode b_Mod_asked 76 = .ok (.iaload, 1) := by decide +kernel
theorem d_Mod_asked_77 : decode b_Mod_asked 77 = .ok (.if_icmp .ge 47, 3) := by decide +kernel
theorem d_Mod_asked_80 : decode b_Mod_asked 80 = .ok (.aload_n 0, 1) := by decide +kernel
theorem d_Mod_asked_81 : decode b_Mod_asked 81 = .ok (.getfield 118, 3) := by decide +kernel
theorem d_Mod_asked_84 : decode b_Mod_asked 84 = .ok (.ifCond .ne 40, 3) := by decide +kernel
theorem d_Mod_asked_87 : decode b_Mod_asked 87 = .ok (.aload_n 0, 1) := by decide +kernel
theorem d_Mod_asked_88 : decode b_Mod_asked 88 = .ok (.aload_n 0, 1) := by decide +kernel
theorem d_Mod_asked_89 : decode b_Mod_asked 89 = .ok (.getfield 47, 3) := by decide +kernel
theorem d_Mod_asked_92 : decode b_Mod_asked 92 = .ok (.bipush 6, 2) := by decide +kernel
theorem d_Mod_asked_94 : decode b_Mod_asked 94 = .ok (.iload_n 1, 1) := by decide +kernel
theorem d_Mod_asked_95 : decode b_Mod_asked 95 = .ok (.imul, 1) := by decide +kernel
theorem d_Mod_asked_96 : decode b_Mod_asked 96 = .ok (.iload_n 2, 1) := by decide +kernel
theorem d_Mod_asked_97 : decode b_Mod_asked 97 = .ok (.iadd, 1) := by decide +kernel
theorem d_Mod_asked_98 : decode b_Mod_asked 98 = .ok (.iaload, 1) := by decide +kernel
theorem d_Mod_asked_99 : decode b_Mod_asked 99 = .ok (.aload_n 0, 1) := by decide +kernel
theorem d_Mod_asked_100 : decode b_Mod_asked 100 = .ok (.getfield 29, 3) := by decide +kernel
theorem d_Mod_asked_103 : decode b_Mod_asked 103 = .ok (.bipush 6, 2) := by decide +kernel
theorem d_Mod_asked_105 : decode b_Mod_asked 105 = .ok (.aload_n 0, 1) := by decide +kernel
theorem d_Mod_asked_106 : decode b_Mod_asked 106 = .ok (.getfield 38, 3) := by decide +kernel
theorem d_Mod_asked_109 : decode b_Mod_asked 109 = .ok (.iload_n 1, 1) := by decide +kernel
theorem d_Mod_asked_110 : decode b_Mod_asked 110 = .ok (.iaload, 1) := by decide +kernel
theorem d_Mod_asked_111 : decode b_Mod_asked 111 = .ok (.imul, 1) := by decide +kernel
theorem d_Mod_asked_112 : decode b_Mod_asked 112 = .ok (.iload_n 2, 1) := by decide +kernel
theorem d_Mod_asked_113 : decode b_Mod_asked 113 = .ok (.iadd, 1) := by decide +kernel
theorem d_Mod_asked_114 : decode b_Mod_asked 114 = .ok (.iaload, 1) := by decide +kernel
theorem d_Mod_asked_115 : decode b_Mod_asked 115 = .ok (.invokevirtual 128, 3) := by decide +kernel
theorem d_Mod_asked_118 : decode b_Mod_asked 118 = .ok (.iinc 2 1, 3) := by decide +kernel
theorem d_Mod_asked_121 : decode b_Mod_asked 121 = .ok (.goto (-51), 3) := by decide +kernel
theorem d_Mod_asked_124 : decode b_Mod_asked 124 = .ok (.goto 18, 3) := by decide +kernel
theorem d_Mod_asked_127 : decode b_Mod_asked 127 = .ok (.aload_n 0, 1) := by decide +kernel
theorem d_Mod_asked_128 : decode b_Mod_asked 128 = .ok (.getfield 56, 3) := by decide +kernel
theorem d_Mod_asked_131 : decode b_Mod_asked 131 = .ok (.iload_n 1, 1) := by decide +kernel
theorem d_Mod_asked_132 : decode b_Mod_asked 132 = .ok (.iaload, 1) := by decide +kernel
theorem d_Mod_asked_133 : decode b_Mod_asked 133 = .ok (.iconst (-1), 1) := by decide +kernel
theorem d_Mod_asked_134 : decode b_Mod_asked 134 = .ok (.if_icmp .ne 8, 3) := by decide +kernel
theorem d_Mod_asked_137 : decode b_Mod_asked 137 = .ok (.aload_n 0, 1) := by decide +kernel
theorem d_Mod_asked_138 : decode b_Mod_asked 138 = .ok (.iload_n 1, 1) := by decide +kernel
theorem d_Mod_asked_139 : decode b_Mod_asked 139 = .ok (.invokevirtual 135, 3) := by decide +kernel
theorem d_Mod_asked_142 : decode b_Mod_asked 142 = .ok (.return_, 1) := by decide +kernel
abbrev b_Mod_round : ByteArray := prog_10_method_26_code
def y_Mod_round : MethodName := ⟨R_Mod, "round", "()I"⟩
def ws_Mod_round : List Cond := Cond.code y_Mod_round b_Mod_round 2 (some .int) :: GW
theorem hd_Mod_round : y_Mod_round.cls ≠ "java/lang/invoke/MethodHandle" ∧ y_Mod_round.cls ≠ "java/lang/invoke/VarHandle" ∧ (parseMethodDescriptor y_Mod_round.desc).map (fun d => d.parameters.length) = some 0 := by decide +kernel
theorem d_Mod_round_0 : decode b_Mod_round 0 = .ok (.aload_n 0, 1) := by decide +kernel
theorem d_Mod_round_1 : decode b_Mod_round 1 = .ok (.iconst 0, 1) := by decide +kernel
theorem d_Mod_round_2 : decode b_Mod_round 2 = .ok (.putfield 114, 3) := by decide +kernel
theorem d_Mod_round_5 : decode b_Mod_round 5 = .ok (.iconst 0, 1) := by decide +kernel
theorem d_Mod_round_6 : decode b_Mod_round 6 = .ok (.istore_n 1, 1) := by decide +kernel
theorem d_Mod_round_7 : decode b_Mod_round 7 = .ok (.iload_n 1, 1) := by decide +kernel
theorem d_Mod_round_8 : decode b_Mod_round 8 = .ok (.aload_n 0, 1) := by decide +kernel
theorem d_Mod_round_9 : decode b_Mod_round 9 = .ok (.getfield 104, 3) := by decide +kernel
theorem d_Mod_round_12 : decode b_Mod_round 12 = .ok (.if_icmp .ge 23, 3) := by decide +kernel
theorem d_Mod_round_15 : decode b_Mod_round 15 = .ok (.aload_n 0, 1) := by decide +kernel
theorem d_Mod_round_16 : decode b_Mod_round 16 = .ok (.iload_n 1, 1) := by decide +kernel
theorem d_Mod_round_17 : decode b_Mod_round 17 = .ok (.invokevirtual 139, 3) := by decide +kernel
theorem d_Mod_round_20 : decode b_Mod_round 20 = .ok (.aload_n 0, 1) := by decide +kernel
theorem d_Mod_round_21 : decode b_Mod_round 21 = .ok (.getfield 118, 3) := by decide +kernel
theorem d_Mod_round_24 : decode b_Mod_round 24 = .ok (.ifCond .eq 5, 3) := by decide +kernel
theorem d_Mod_round_27 : decode b_Mod_round 27 = .ok (.iload_n 1, 1) := by decide +kernel
theorem d_Mod_round_28 : decode b_Mod_round 28 = .ok (.ireturn, 1) := by decide +kernel
theorem d_Mod_round_29 : decode b_Mod_round 29 = .ok (.iinc 1 1, 3) := by decide +kernel
theorem d_Mod_round_32 : decode b_Mod_round 32 = .ok (.goto (-25), 3) := by decide +kernel
theorem d_Mod_round_35 : decode b_Mod_round 35 = .ok (.iconst (-1), 1) := by decide +kernel
theorem d_Mod_round_36 : decode b_Mod_round 36 = .ok (.ireturn, 1) := by decide +kernel
abbrev b_Mod_isAsked : ByteArray := prog_10_method_27_code
def y_Mod_isAsked : MethodName := ⟨R_Mod, "isAsked", "(I)Z"⟩
def ws_Mod_isAsked : List Cond := Cond.code y_Mod_isAsked b_Mod_isAsked 4 (some .boolean) :: GW
theorem hd_Mod_isAsked : y_Mod_isAsked.cls ≠ "java/lang/invoke/MethodHandle" ∧ y_Mod_isAsked.cls ≠ "java/lang/invoke/VarHandle" ∧ (parseMethodDescriptor y_Mod_isAsked.desc).map (fun d => d.parameters.length) = some 1 := by decide +kernel
theorem d_Mod_isAsked_0 : decode b_Mod_isAsked 0 = .ok (.iconst 0, 1) := by decide +kernel
theorem d_Mod_isAsked_1 : decode b_Mod_isAsked 1 = .ok (.istore_n 2, 1) := by decide +kernel
theorem d_Mod_isAsked_2 : decode b_Mod_isAsked 2 = .ok (.iload_n 2, 1) := by decide +kernel
theorem d_Mod_isAsked_3 : decode b_Mod_isAsked 3 = .ok (.aload_n 0, 1) := by decide +kernel
theorem d_Mod_isAsked_4 : decode b_Mod_isAsked 4 = .ok (.getfield 104, 3) := by decide +kernel
theorem d_Mod_isAsked_7 : decode b_Mod_isAsked 7 = .ok (.if_icmp .ge 56, 3) := by decide +kernel
theorem d_Mod_isAsked_10 : decode b_Mod_isAsked 10 = .ok (.aload_n 0, 1) := by decide +kernel
theorem d_Mod_isAsked_11 : decode b_Mod_isAsked 11 = .ok (.getfield 41, 3) := by decide +kernel
theorem d_Mod_isAsked_14 : decode b_Mod_isAsked 14 = .ok (.iload_n 2, 1) := by decide +kernel
theorem d_Mod_isAsked_15 : decode b_Mod_isAsked 15 = .ok (.iaload, 1) := by decide +kernel
theorem d_Mod_isAsked_16 : decode b_Mod_isAsked 16 = .ok (.iload_n 1, 1) := by decide +kernel
theorem d_Mod_isAsked_17 : decode b_Mod_isAsked 17 = .ok (.if_icmp .ne 5, 3) := by decide +kernel
theorem d_Mod_isAsked_20 : decode b_Mod_isAsked 20 = .ok (.iconst 1, 1) := by decide +kernel
theorem d_Mod_isAsked_21 : decode b_Mod_isAsked 21 = .ok (.ireturn, 1) := by decide +kernel
theorem d_Mod_isAsked_22 : decode b_Mod_isAsked 22 = .ok (.iconst 0, 1) := by decide +kernel
theorem d_Mod_isAsked_23 : decode b_Mod_isAsked 23 = .ok (.istore_n 3, 1) := by decide +kernel
theorem d_Mod_isAsked_24 : decode b_Mod_isAsked 24 = .ok (.iload_n 3, 1) := by decide +kernel
theorem d_Mod_isAsked_25 : decode b_Mod_isAsked 25 = .ok (.aload_n 0, 1) := by decide +kernel
theorem d_Mod_isAsked_26 : decode b_Mod_isAsked 26 = .ok (.getfield 44, 3) := by decide +kernel
theorem d_Mod_isAsked_29 : decode b_Mod_isAsked 29 = .ok (.iload_n 2, 1) := by decide +kernel
theorem d_Mod_isAsked_30 : decode b_Mod_isAsked 30 = .ok (.iaload, 1) := by decide +kernel
theorem d_Mod_isAsked_31 : decode b_Mod_isAsked 31 = .ok (.if_icmp .ge 26, 3) := by decide +kernel
theorem d_Mod_isAsked_34 : decode b_Mod_isAsked 34 = .ok (.aload_n 0, 1) := by decide +kernel
theorem d_Mod_isAsked_35 : decode b_Mod_isAsked 35 = .ok (.getfield 47, 3) := by decide +kernel
theorem d_Mod_isAsked_38 : decode b_Mod_isAsked 38 = .ok (.bipush 6, 2) := by decide +kernel
theorem d_Mod_isAsked_40 : decode b_Mod_isAsked 40 = .ok (.iload_n 2, 1) := by decide +kernel
theorem d_Mod_isAsked_41 : decode b_Mod_isAsked 41 = .ok (.imul, 1) := by decide +kernel
theorem d_Mod_isAsked_42 : decode b_Mod_isAsked 42 = .ok (.iload_n 3, 1) := by decide +kernel
theorem d_Mod_isAsked_43 : decode b_Mod_isAsked 43 = .ok (.iadd, 1) := by decide +kernel
theorem d_Mod_isAsked_44 : decode b_Mod_isAsked 44 = .ok (.iaload, 1) := by decide +kernel
theorem d_Mod_isAsked_45 : decode b_Mod_isAsked 45 = .ok (.iload_n 1, 1) := by decide +kernel
theorem d_Mod_isAsked_46 : decode b_Mod_isAsked 46 = .ok (.if_icmp .ne 5, 3) := by decide +kernel
theorem d_Mod_isAsked_49 : decode b_Mod_isAsked 49 = .ok (.iconst 1, 1) := by decide +kernel
theorem d_Mod_isAsked_50 : decode b_Mod_isAsked 50 = .ok (.ireturn, 1) := by decide +kernel
theorem d_Mod_isAsked_51 : decode b_Mod_isAsked 51 = .ok (.iinc 3 1, 3) := by decide +kernel
theorem d_Mod_isAsked_54 : decode b_Mod_isAsked 54 = .ok (.goto (-30), 3) := by decide +kernel
theorem d_Mod_isAsked_57 : decode b_Mod_isAsked 57 = .ok (.iinc 2 1, 3) := by decide +kernel
theorem d_Mod_isAsked_60 : decode b_Mod_isAsked 60 = .ok (.goto (-58), 3) := by decide +kernel
theorem d_Mod_isAsked_63 : decode b_Mod_isAsked 63 = .ok (.iconst 0, 1) := by decide +kernel
theorem d_Mod_isAsked_64 : decode b_Mod_isAsked 64 = .ok (.ireturn, 1) := by decide +kernel
abbrev b_Mod_solve : ByteArray := prog_10_method_28_code
def y_Mod_solve : MethodName := ⟨R_Mod, "solve", "()I"⟩
def ws_Mod_solve : List Cond := Cond.code y_Mod_solve b_Mod_solve 2 (some .int) :: GW
theorem hd_Mod_solve : y_Mod_solve.cls ≠ "java/lang/invoke/MethodHandle" ∧ y_Mod_solve.cls ≠ "java/lang/invoke/VarHandle" ∧ (parseMethodDescriptor y_Mod_solve.desc).map (fun d => d.parameters.length) = some 0 := by decide +kernel
theorem d_Mod_solve_0 : decode b_Mod_solve 0 = .ok (.aload_n 0, 1) := by decide +kernel
theorem d_Mod_solve_1 : decode b_Mod_solve 1 = .ok (.iconst 0, 1) := by decide +kernel
theorem d_Mod_solve_2 : decode b_Mod_solve 2 = .ok (.putfield 74, 3) := by decide +kernel
theorem d_Mod_solve_5 : decode b_Mod_solve 5 = .ok (.iconst 0, 1) := by decide +kernel
theorem d_Mod_solve_6 : decode b_Mod_solve 6 = .ok (.istore_n 1, 1) := by decide +kernel
theorem d_Mod_solve_7 : decode b_Mod_solve 7 = .ok (.iload_n 1, 1) := by decide +kernel
theorem d_Mod_solve_8 : decode b_Mod_solve 8 = .ok (.bipush 80, 2) := by decide +kernel
theorem d_Mod_solve_10 : decode b_Mod_solve 10 = .ok (.if_icmp .ge 23, 3) := by decide +kernel
theorem d_Mod_solve_13 : decode b_Mod_solve 13 = .ok (.aload_n 0, 1) := by decide +kernel
theorem d_Mod_solve_14 : decode b_Mod_solve 14 = .ok (.getfield 50, 3) := by decide +kernel
theorem d_Mod_solve_17 : decode b_Mod_solve 17 = .ok (.iload_n 1, 1) := by decide +kernel
theorem d_Mod_solve_18 : decode b_Mod_solve 18 = .ok (.iload_n 1, 1) := by decide +kernel
theorem d_Mod_solve_19 : decode b_Mod_solve 19 = .ok (.iastore, 1) := by decide +kernel
theorem d_Mod_solve_20 : decode b_Mod_solve 20 = .ok (.aload_n 0, 1) := by decide +kernel
theorem d_Mod_solve_21 : decode b_Mod_solve 21 = .ok (.getfield 53, 3) := by decide +kernel
theorem d_Mod_solve_24 : decode b_Mod_solve 24 = .ok (.iload_n 1, 1) := by decide +kernel
theorem d_Mod_solve_25 : decode b_Mod_solve 25 = .ok (.iconst (-1), 1) := by decide +kernel
theorem d_Mod_solve_26 : decode b_Mod_solve 26 = .ok (.iastore, 1) := by decide +kernel
theorem d_Mod_solve_27 : decode b_Mod_solve 27 = .ok (.iinc 1 1, 3) := by decide +kernel
theorem d_Mod_solve_30 : decode b_Mod_solve 30 = .ok (.goto (-23), 3) := by decide +kernel
theorem d_Mod_solve_33 : decode b_Mod_solve 33 = .ok (.iconst 0, 1) := by decide +kernel
theorem d_Mod_solve_34 : decode b_Mod_solve 34 = .ok (.istore_n 1, 1) := by decide +kernel
theorem d_Mod_solve_35 : decode b_Mod_solve 35 = .ok (.iload_n 1, 1) := by decide +kernel
theorem d_Mod_solve_36 : decode b_Mod_solve 36 = .ok (.sipush 200, 3) := by decide +kernel
theorem d_Mod_solve_39 : decode b_Mod_solve 39 = .ok (.if_icmp .ge 16, 3) := by decide +kernel
theorem d_Mod_solve_42 : decode b_Mod_solve 42 = .ok (.aload_n 0, 1) := by decide +kernel
theorem d_Mod_solve_43 : decode b_Mod_solve 43 = .ok (.getfield 56, 3) := by decide +kernel
theorem d_Mod_solve_46 : decode b_Mod_solve 46 = .ok (.iload_n 1, 1) := by decide +kernel
theorem d_Mod_solve_47 : decode b_Mod_solve 47 = .ok (.iconst (-1), 1) := by decide +kernel
theorem d_Mod_solve_48 : decode b_Mod_solve 48 = .ok (.iastore, 1) := by decide +kernel
theorem d_Mod_solve_49 : decode b_Mod_solve 49 = .ok (.iinc 1 1, 3) := by decide +kernel
theorem d_Mod_solve_52 : decode b_Mod_solve 52 = .ok (.goto (-17), 3) := by decide +kernel
theorem d_Mod_solve_55 : decode b_Mod_solve 55 = .ok (.aload_n 0, 1) := by decide +kernel
theorem d_Mod_solve_56 : decode b_Mod_solve 56 = .ok (.iconst 0, 1) := by decide +kernel
theorem d_Mod_solve_57 : decode b_Mod_solve 57 = .ok (.putfield 118, 3) := by decide +kernel
theorem d_Mod_solve_60 : decode b_Mod_solve 60 = .ok (.aload_n 0, 1) := by decide +kernel
theorem d_Mod_solve_61 : decode b_Mod_solve 61 = .ok (.iconst 1, 1) := by decide +kernel
theorem d_Mod_solve_62 : decode b_Mod_solve 62 = .ok (.putfield 114, 3) := by decide +kernel
theorem d_Mod_solve_65 : decode b_Mod_solve 65 = .ok (.aload_n 0, 1) := by decide +kernel
theorem d_Mod_solve_66 : decode b_Mod_solve 66 = .ok (.iconst 0, 1) := by decide +kernel
theorem d_Mod_solve_67 : decode b_Mod_solve 67 = .ok (.putfield 62, 3) := by decide +kernel
theorem d_Mod_solve_70 : decode b_Mod_solve 70 = .ok (.aload_n 0, 1) := by decide +kernel
theorem d_Mod_solve_71 : decode b_Mod_solve 71 = .ok (.getfield 114, 3) := by decide +kernel
theorem d_Mod_solve_74 : decode b_Mod_solve 74 = .ok (.ifCond .eq 30, 3) := by decide +kernel
theorem d_Mod_solve_77 : decode b_Mod_solve 77 = .ok (.aload_n 0, 1) := by decide +kernel
theorem d_Mod_solve_78 : decode b_Mod_solve 78 = .ok (.dup, 1) := by decide +kernel
theorem d_Mod_solve_79 : decode b_Mod_solve 79 = .ok (.getfield 62, 3) := by decide +kernel
theorem d_Mod_solve_82 : decode b_Mod_solve 82 = .ok (.iconst 1, 1) := by decide +kernel
theorem d_Mod_solve_83 : decode b_Mod_solve 83 = .ok (.iadd, 1) := by decide +kernel
theorem d_Mod_solve_84 : decode b_Mod_solve 84 = .ok (.putfield 62, 3) := by decide +kernel
theorem d_Mod_solve_87 : decode b_Mod_solve 87 = .ok (.aload_n 0, 1) := by decide +kernel
theorem d_Mod_solve_88 : decode b_Mod_solve 88 = .ok (.aload_n 0, 1) := by decide +kernel
theorem d_Mod_solve_89 : decode b_Mod_solve 89 = .ok (.invokevirtual 142, 3) := by decide +kernel
theorem d_Mod_solve_92 : decode b_Mod_solve 92 = .ok (.putfield 59, 3) := by decide +kernel
theorem d_Mod_solve_95 : decode b_Mod_solve 95 = .ok (.aload_n 0, 1) := by decide +kernel
theorem d_Mod_solve_96 : decode b_Mod_solve 96 = .ok (.getfield 118, 3) := by decide +kernel
theorem d_Mod_solve_99 : decode b_Mod_solve 99 = .ok (.ifCond .eq (-29), 3) := by decide +kernel
theorem d_Mod_solve_102 : decode b_Mod_solve 102 = .ok (.iconst 1, 1) := by decide +kernel
theorem d_Mod_solve_103 : decode b_Mod_solve 103 = .ok (.ireturn, 1) := by decide +kernel
theorem d_Mod_solve_104 : decode b_Mod_solve 104 = .ok (.iconst 0, 1) := by decide +kernel
theorem d_Mod_solve_105 : decode b_Mod_solve 105 = .ok (.istore_n 1, 1) := by decide +kernel
theorem d_Mod_solve_106 : decode b_Mod_solve 106 = .ok (.iload_n 1, 1) := by decide +kernel
theorem d_Mod_solve_107 : decode b_Mod_solve 107 = .ok (.aload_n 0, 1) := by decide +kernel
theorem d_Mod_solve_108 : decode b_Mod_solve 108 = .ok (.getfield 104, 3) := by decide +kernel
theorem d_Mod_solve_111 : decode b_Mod_solve 111 = .ok (.if_icmp .ge 36, 3) := by decide +kernel
theorem d_Mod_solve_114 : decode b_Mod_solve 114 = .ok (.aload_n 0, 1) := by decide +kernel
theorem d_Mod_solve_115 : decode b_Mod_solve 115 = .ok (.getfield 35, 3) := by decide +kernel
theorem d_Mod_solve_118 : decode b_Mod_solve 118 = .ok (.iload_n 1, 1) := by decide +kernel
theorem d_Mod_solve_119 : decode b_Mod_solve 119 = .ok (.iaload, 1) := by decide +kernel
theorem d_Mod_solve_120 : decode b_Mod_solve 120 = .ok (.iconst 3, 1) := by decide +kernel
theorem d_Mod_solve_121 : decode b_Mod_solve 121 = .ok (.if_icmp .ne 20, 3) := by decide +kernel
theorem d_Mod_solve_124 : decode b_Mod_solve 124 = .ok (.aload_n 0, 1) := by decide +kernel
theorem d_Mod_solve_125 : decode b_Mod_solve 125 = .ok (.getfield 56, 3) := by decide +kernel
theorem d_Mod_solve_128 : decode b_Mod_solve 128 = .ok (.iload_n 1, 1) := by decide +kernel
theorem d_Mod_solve_129 : decode b_Mod_solve 129 = .ok (.iaload, 1) := by decide +kernel
theorem d_Mod_solve_130 : decode b_Mod_solve 130 = .ok (.iconst (-1), 1) := by decide +kernel
theorem d_Mod_solve_131 : decode b_Mod_solve 131 = .ok (.if_icmp .ne 10, 3) := by decide +kernel
theorem d_Mod_solve_134 : decode b_Mod_solve 134 = .ok (.aload_n 0, 1) := by decide +kernel
theorem d_Mod_solve_135 : decode b_Mod_solve 135 = .ok (.iload_n 1, 1) := by decide +kernel
theorem d_Mod_solve_136 : decode b_Mod_solve 136 = .ok (.putfield 59, 3) := by decide +kernel
theorem d_Mod_solve_139 : decode b_Mod_solve 139 = .ok (.iconst 2, 1) := by decide +kernel
theorem d_Mod_solve_140 : decode b_Mod_solve 140 = .ok (.ireturn, 1) := by decide +kernel
theorem d_Mod_solve_141 : decode b_Mod_solve 141 = .ok (.iinc 1 1, 3) := by decide +kernel
theorem d_Mod_solve_144 : decode b_Mod_solve 144 = .ok (.goto (-38), 3) := by decide +kernel
theorem d_Mod_solve_147 : decode b_Mod_solve 147 = .ok (.iconst 0, 1) := by decide +kernel
theorem d_Mod_solve_148 : decode b_Mod_solve 148 = .ok (.istore_n 1, 1) := by decide +kernel
theorem d_Mod_solve_149 : decode b_Mod_solve 149 = .ok (.iload_n 1, 1) := by decide +kernel
theorem d_Mod_solve_150 : decode b_Mod_solve 150 = .ok (.bipush 80, 2) := by decide +kernel
theorem d_Mod_solve_152 : decode b_Mod_solve 152 = .ok (.if_icmp .ge 39, 3) := by decide +kernel
theorem d_Mod_solve_155 : decode b_Mod_solve 155 = .ok (.aload_n 0, 1) := by decide +kernel
theorem d_Mod_solve_156 : decode b_Mod_solve 156 = .ok (.getfield 53, 3) := by decide +kernel
theorem d_Mod_solve_159 : decode b_Mod_solve 159 = .ok (.aload_n 0, 1) := by decide +kernel
theorem d_Mod_solve_160 : decode b_Mod_solve 160 = .ok (.getfield 50, 3) := by decide +kernel
theorem d_Mod_solve_163 : decode b_Mod_solve 163 = .ok (.iload_n 1, 1) := by decide +kernel
theorem d_Mod_solve_164 : decode b_Mod_solve 164 = .ok (.iaload, 1) := by decide +kernel
theorem d_Mod_solve_165 : decode b_Mod_solve 165 = .ok (.iaload, 1) := by decide +kernel
theorem d_Mod_solve_166 : decode b_Mod_solve 166 = .ok (.iconst (-1), 1) := by decide +kernel
theorem d_Mod_solve_167 : decode b_Mod_solve 167 = .ok (.if_icmp .ne 18, 3) := by decide +kernel
theorem d_Mod_solve_170 : decode b_Mod_solve 170 = .ok (.aload_n 0, 1) := by decide +kernel
theorem d_Mod_solve_171 : decode b_Mod_solve 171 = .ok (.iload_n 1, 1) := by decide +kernel
theorem d_Mod_solve_172 : decode b_Mod_solve 172 = .ok (.invokevirtual 145, 3) := by decide +kernel
theorem d_Mod_solve_175 : decode b_Mod_solve 175 = .ok (.ifCond .eq 10, 3) := by decide +kernel
theorem d_Mod_solve_178 : decode b_Mod_solve 178 = .ok (.aload_n 0, 1) := by decide +kernel
theorem d_Mod_solve_179 : decode b_Mod_solve 179 = .ok (.iload_n 1, 1) := by decide +kernel
theorem d_Mod_solve_180 : decode b_Mod_solve 180 = .ok (.putfield 59, 3) := by decide +kernel
theorem d_Mod_solve_183 : decode b_Mod_solve 183 = .ok (.iconst 3, 1) := by decide +kernel
theorem d_Mod_solve_184 : decode b_Mod_solve 184 = .ok (.ireturn, 1) := by decide +kernel
theorem d_Mod_solve_185 : decode b_Mod_solve 185 = .ok (.iinc 1 1, 3) := by decide +kernel
theorem d_Mod_solve_188 : decode b_Mod_solve 188 = .ok (.goto (-39), 3) := by decide +kernel
theorem d_Mod_solve_191 : decode b_Mod_solve 191 = .ok (.iconst 0, 1) := by decide +kernel
theorem d_Mod_solve_192 : decode b_Mod_solve 192 = .ok (.istore_n 1, 1) := by decide +kernel
theorem d_Mod_solve_193 : decode b_Mod_solve 193 = .ok (.iload_n 1, 1) := by decide +kernel
theorem d_Mod_solve_194 : decode b_Mod_solve 194 = .ok (.bipush 80, 2) := by decide +kernel
theorem d_Mod_solve_196 : decode b_Mod_solve 196 = .ok (.if_icmp .ge 38, 3) := by decide +kernel
theorem d_Mod_solve_199 : decode b_Mod_solve 199 = .ok (.aload_n 0, 1) := by decide +kernel
theorem d_Mod_solve_200 : decode b_Mod_solve 200 = .ok (.getfield 65, 3) := by decide +kernel
theorem d_Mod_solve_203 : decode b_Mod_solve 203 = .ok (.iload_n 1, 1) := by decide +kernel
theorem d_Mod_solve_204 : decode b_Mod_solve 204 = .ok (.aload_n 0, 1) := by decide +kernel
theorem d_Mod_solve_205 : decode b_Mod_solve 205 = .ok (.iload_n 1, 1) := by decide +kernel
theorem d_Mod_solve_206 : decode b_Mod_solve 206 = .ok (.invokevirtual 145, 3) := by decide +kernel
theorem d_Mod_solve_209 : decode b_Mod_solve 209 = .ok (.ifCond .eq 17, 3) := by decide +kernel
theorem d_Mod_solve_212 : decode b_Mod_solve 212 = .ok (.aload_n 0, 1) := by decide +kernel
theorem d_Mod_solve_213 : decode b_Mod_solve 213 = .ok (.getfield 53, 3) := by decide +kernel
theorem d_Mod_solve_216 : decode b_Mod_solve 216 = .ok (.aload_n 0, 1) := by decide +kernel
theorem d_Mod_solve_217 : decode b_Mod_solve 217 = .ok (.getfield 50, 3) := by decide +kernel
theorem d_Mod_solve_220 : decode b_Mod_solve 220 = .ok (.iload_n 1, 1) := by decide +kernel
theorem d_Mod_solve_221 : decode b_Mod_solve 221 = .ok (.iaload, 1) := by decide +kernel
theorem d_Mod_solve_222 : decode b_Mod_solve 222 = .ok (.iaload, 1) := by decide +kernel
theorem d_Mod_solve_223 : decode b_Mod_solve 223 = .ok (.goto 4, 3) := by decide +kernel
theorem d_Mod_solve_226 : decode b_Mod_solve 226 = .ok (.iconst (-1), 1) := by decide +kernel
theorem d_Mod_solve_227 : decode b_Mod_solve 227 = .ok (.iastore, 1) := by decide +kernel
theorem d_Mod_solve_228 : decode b_Mod_solve 228 = .ok (.iinc 1 1, 3) := by decide +kernel
theorem d_Mod_solve_231 : decode b_Mod_solve 231 = .ok (.goto (-38), 3) := by decide +kernel
theorem d_Mod_solve_234 : decode b_Mod_solve 234 = .ok (.iconst 0, 1) := by decide +kernel
theorem d_Mod_solve_235 : decode b_Mod_solve 235 = .ok (.istore_n 1, 1) := by decide +kernel
theorem d_Mod_solve_236 : decode b_Mod_solve 236 = .ok (.iload_n 1, 1) := by decide +kernel
theorem d_Mod_solve_237 : decode b_Mod_solve 237 = .ok (.sipush 200, 3) := by decide +kernel
theorem d_Mod_solve_240 : decode b_Mod_solve 240 = .ok (.if_icmp .ge 21, 3) := by decide +kernel
theorem d_Mod_solve_243 : decode b_Mod_solve 243 = .ok (.aload_n 0, 1) := by decide +kernel
theorem d_Mod_solve_244 : decode b_Mod_solve 244 = .ok (.getfield 68, 3) := by decide +kernel
theorem d_Mod_solve_247 : decode b_Mod_solve 247 = .ok (.iload_n 1, 1) := by decide +kernel
theorem d_Mod_solve_248 : decode b_Mod_solve 248 = .ok (.aload_n 0, 1) := by decide +kernel
theorem d_Mod_solve_249 : decode b_Mod_solve 249 = .ok (.getfield 56, 3) := by decide +kernel
theorem d_Mod_solve_252 : decode b_Mod_solve 252 = .ok (.iload_n 1, 1) := by decide +kernel
theorem d_Mod_solve_253 : decode b_Mod_solve 253 = .ok (.iaload, 1) := by decide +kernel
theorem d_Mod_solve_254 : decode b_Mod_solve 254 = .ok (.iastore, 1) := by decide +kernel
theorem d_Mod_solve_255 : decode b_Mod_solve 255 = .ok (.iinc 1 1, 3) := by decide +kernel
theorem d_Mod_solve_258 : decode b_Mod_solve 258 = .ok (.goto (-22), 3) := by decide +kernel
theorem d_Mod_solve_261 : decode b_Mod_solve 261 = .ok (.aload_n 0, 1) := by decide +kernel
theorem d_Mod_solve_262 : decode b_Mod_solve 262 = .ok (.iconst (-1), 1) := by decide +kernel
theorem d_Mod_solve_263 : decode b_Mod_solve 263 = .ok (.putfield 59, 3) := by decide +kernel
theorem d_Mod_solve_266 : decode b_Mod_solve 266 = .ok (.iconst 0, 1) := by decide +kernel
theorem d_Mod_solve_267 : decode b_Mod_solve 267 = .ok (.ireturn, 1) := by decide +kernel
abbrev b_Mod_told : ByteArray := prog_10_method_29_code
def y_Mod_told : MethodName := ⟨R_Mod, "told", "(I)I"⟩
def ws_Mod_told : List Cond := Cond.code y_Mod_told b_Mod_told 2 (some .int) :: GW
theorem hd_Mod_told : y_Mod_told.cls ≠ "java/lang/invoke/MethodHandle" ∧ y_Mod_told.cls ≠ "java/lang/invoke/VarHandle" ∧ (parseMethodDescriptor y_Mod_told.desc).map (fun d => d.parameters.length) = some 1 := by decide +kernel
theorem d_Mod_told_0 : decode b_Mod_told 0 = .ok (.aload_n 0, 1) := by decide +kernel
theorem d_Mod_told_1 : decode b_Mod_told 1 = .ok (.iconst 0, 1) := by decide +kernel
theorem d_Mod_told_2 : decode b_Mod_told 2 = .ok (.putfield 74, 3) := by decide +kernel
theorem d_Mod_told_5 : decode b_Mod_told 5 = .ok (.iload_n 1, 1) := by decide +kernel
theorem d_Mod_told_6 : decode b_Mod_told 6 = .ok (.ifCond .ne 10, 3) := by decide +kernel
theorem d_Mod_told_9 : decode b_Mod_told 9 = .ok (.aload_n 0, 1) := by decide +kernel
theorem d_Mod_told_10 : decode b_Mod_told 10 = .ok (.getfield 59, 3) := by decide +kernel
theorem d_Mod_told_13 : decode b_Mod_told 13 = .ok (.goto 16, 3) := by decide +kernel
theorem d_Mod_told_16 : decode b_Mod_told 16 = .ok (.iload_n 1, 1) := by decide +kernel
theorem d_Mod_told_17 : decode b_Mod_told 17 = .ok (.iconst 1, 1) := by decide +kernel
theorem d_Mod_told_18 : decode b_Mod_told 18 = .ok (.if_icmp .ne 10, 3) := by decide +kernel
theorem d_Mod_told_21 : decode b_Mod_told 21 = .ok (.aload_n 0, 1) := by decide +kernel
theorem d_Mod_told_22 : decode b_Mod_told 22 = .ok (.getfield 62, 3) := by decide +kernel
theorem d_Mod_told_25 : decode b_Mod_told 25 = .ok (.goto 4, 3) := by decide +kernel
theorem d_Mod_told_28 : decode b_Mod_told 28 = .ok (.iconst (-1), 1) := by decide +kernel
theorem d_Mod_told_29 : decode b_Mod_told 29 = .ok (.ireturn, 1) := by decide +kernel
abbrev b_Mod_typeOf : ByteArray := prog_10_method_30_code
def y_Mod_typeOf : MethodName := ⟨R_Mod, "typeOf", "(I)I"⟩
def ws_Mod_typeOf : List Cond := Cond.code y_Mod_typeOf b_Mod_typeOf 2 (some .int) :: GW
theorem hd_Mod_typeOf : y_Mod_typeOf.cls ≠ "java/lang/invoke/MethodHandle" ∧ y_Mod_typeOf.cls ≠ "java/lang/invoke/VarHandle" ∧ (parseMethodDescriptor y_Mod_typeOf.desc).map (fun d => d.parameters.length) = some 1 := by decide +kernel
theorem d_Mod_typeOf_0 : decode b_Mod_typeOf 0 = .ok (.aload_n 0, 1) := by decide +kernel
theorem d_Mod_typeOf_1 : decode b_Mod_typeOf 1 = .ok (.iconst 0, 1) := by decide +kernel
theorem d_Mod_typeOf_2 : decode b_Mod_typeOf 2 = .ok (.putfield 74, 3) := by decide +kernel
theorem d_Mod_typeOf_5 : decode b_Mod_typeOf 5 = .ok (.iload_n 1, 1) := by decide +kernel
theorem d_Mod_typeOf_6 : decode b_Mod_typeOf 6 = .ok (.invokestatic 84, 3) := by decide +kernel
theorem d_Mod_typeOf_9 : decode b_Mod_typeOf 9 = .ok (.ifCond .eq 12, 3) := by decide +kernel
theorem d_Mod_typeOf_12 : decode b_Mod_typeOf 12 = .ok (.aload_n 0, 1) := by decide +kernel
theorem d_Mod_typeOf_13 : decode b_Mod_typeOf 13 = .ok (.getfield 65, 3) := by decide +kernel
theorem d_Mod_typeOf_16 : decode b_Mod_typeOf 16 = .ok (.iload_n 1, 1) := by decide +kernel
theorem d_Mod_typeOf_17 : decode b_Mod_typeOf 17 = .ok (.iaload, 1) := by decide +kernel
theorem d_Mod_typeOf_18 : decode b_Mod_typeOf 18 = .ok (.goto 4, 3) := by decide +kernel
theorem d_Mod_typeOf_21 : decode b_Mod_typeOf 21 = .ok (.iconst (-1), 1) := by decide +kernel
theorem d_Mod_typeOf_22 : decode b_Mod_typeOf 22 = .ok (.ireturn, 1) := by decide +kernel
abbrev b_Mod_meant : ByteArray := prog_10_method_31_code
def y_Mod_meant : MethodName := ⟨R_Mod, "meant", "(I)I"⟩
def ws_Mod_meant : List Cond := Cond.code y_Mod_meant b_Mod_meant 2 (some .int) :: GW
theorem hd_Mod_meant : y_Mod_meant.cls ≠ "java/lang/invoke/MethodHandle" ∧ y_Mod_meant.cls ≠ "java/lang/invoke/VarHandle" ∧ (parseMethodDescriptor y_Mod_meant.desc).map (fun d => d.parameters.length) = some 1 := by decide +kernel
theorem d_Mod_meant_0 : decode b_Mod_meant 0 = .ok (.aload_n 0, 1) := by decide +kernel
theorem d_Mod_meant_1 : decode b_Mod_meant 1 = .ok (.iconst 0, 1) := by decide +kernel
theorem d_Mod_meant_2 : decode b_Mod_meant 2 = .ok (.putfield 74, 3) := by decide +kernel
theorem d_Mod_meant_5 : decode b_Mod_meant 5 = .ok (.iload_n 1, 1) := by decide +kernel
theorem d_Mod_meant_6 : decode b_Mod_meant 6 = .ok (.ifCond .lt 19, 3) := by decide +kernel
theorem d_Mod_meant_9 : decode b_Mod_meant 9 = .ok (.iload_n 1, 1) := by decide +kernel
theorem d_Mod_meant_10 : decode b_Mod_meant 10 = .ok (.sipush 200, 3) := by decide +kernel
theorem d_Mod_meant_13 : decode b_Mod_meant 13 = .ok (.if_icmp .ge 12, 3) := by decide +kernel
theorem d_Mod_meant_16 : decode b_Mod_meant 16 = .ok (.aload_n 0, 1) := by decide +kernel
theorem d_Mod_meant_17 : decode b_Mod_meant 17 = .ok (.getfield 68, 3) := by decide +kernel
theorem d_Mod_meant_20 : decode b_Mod_meant 20 = .ok (.iload_n 1, 1) := by decide +kernel
theorem d_Mod_meant_21 : decode b_Mod_meant 21 = .ok (.iaload, 1) := by decide +kernel
theorem d_Mod_meant_22 : decode b_Mod_meant 22 = .ok (.goto 4, 3) := by decide +kernel
theorem d_Mod_meant_25 : decode b_Mod_meant 25 = .ok (.iconst (-1), 1) := by decide +kernel
theorem d_Mod_meant_26 : decode b_Mod_meant 26 = .ok (.ireturn, 1) := by decide +kernel
abbrev b_Mod_about : ByteArray := prog_10_method_32_code
def y_Mod_about : MethodName := ⟨R_Mod, "about", "(II)I"⟩
def ws_Mod_about : List Cond := Cond.code y_Mod_about b_Mod_about 3 (some .int) :: GW
theorem hd_Mod_about : y_Mod_about.cls ≠ "java/lang/invoke/MethodHandle" ∧ y_Mod_about.cls ≠ "java/lang/invoke/VarHandle" ∧ (parseMethodDescriptor y_Mod_about.desc).map (fun d => d.parameters.length) = some 2 := by decide +kernel
theorem d_Mod_about_0 : decode b_Mod_about 0 = .ok (.aload_n 0, 1) := by decide +kernel
theorem d_Mod_about_1 : decode b_Mod_about 1 = .ok (.iconst 0, 1) := by decide +kernel
theorem d_Mod_about_2 : decode b_Mod_about 2 = .ok (.putfield 74, 3) := by decide +kernel
theorem d_Mod_about_5 : decode b_Mod_about 5 = .ok (.iload_n 1, 1) := by decide +kernel
theorem d_Mod_about_6 : decode b_Mod_about 6 = .ok (.ifCond .lt 11, 3) := by decide +kernel
theorem d_Mod_about_9 : decode b_Mod_about 9 = .ok (.iload_n 1, 1) := by decide +kernel
theorem d_Mod_about_10 : decode b_Mod_about 10 = .ok (.aload_n 0, 1) := by decide +kernel
theorem d_Mod_about_11 : decode b_Mod_about 11 = .ok (.getfield 91, 3) := by decide +kernel
theorem d_Mod_about_14 : decode b_Mod_about 14 = .ok (.if_icmp .lt 5, 3) := by decide +kernel
theorem d_Mod_about_17 : decode b_Mod_about 17 = .ok (.iconst (-1), 1) := by decide +kernel
theorem d_Mod_about_18 : decode b_Mod_about 18 = .ok (.ireturn, 1) := by decide +kernel
theorem d_Mod_about_19 : decode b_Mod_about 19 = .ok (.iload_n 2, 1) := by decide +kernel
theorem d_Mod_about_20 : decode b_Mod_about 20 = .ok (.tableswitch 49 0 2 #[28, 35, 42], 28) := by decide +kernel
theorem d_Mod_about_48 : decode b_Mod_about 48 = .ok (.aload_n 0, 1) := by decide +kernel
theorem d_Mod_about_49 : decode b_Mod_about 49 = .ok (.getfield 13, 3) := by decide +kernel
theorem d_Mod_about_52 : decode b_Mod_about 52 = .ok (.iload_n 1, 1) := by decide +kernel
theorem d_Mod_about_53 : decode b_Mod_about 53 = .ok (.iaload, 1) := by decide +kernel
theorem d_Mod_about_54 : decode b_Mod_about 54 = .ok (.ireturn, 1) := by decide +kernel
theorem d_Mod_about_55 : decode b_Mod_about 55 = .ok (.aload_n 0, 1) := by decide +kernel
theorem d_Mod_about_56 : decode b_Mod_about 56 = .ok (.getfield 17, 3) := by decide +kernel
theorem d_Mod_about_59 : decode b_Mod_about 59 = .ok (.iload_n 1, 1) := by decide +kernel
theorem d_Mod_about_60 : decode b_Mod_about 60 = .ok (.iaload, 1) := by decide +kernel
theorem d_Mod_about_61 : decode b_Mod_about 61 = .ok (.ireturn, 1) := by decide +kernel
theorem d_Mod_about_62 : decode b_Mod_about 62 = .ok (.aload_n 0, 1) := by decide +kernel
theorem d_Mod_about_63 : decode b_Mod_about 63 = .ok (.getfield 20, 3) := by decide +kernel
theorem d_Mod_about_66 : decode b_Mod_about 66 = .ok (.iload_n 1, 1) := by decide +kernel
theorem d_Mod_about_67 : decode b_Mod_about 67 = .ok (.iaload, 1) := by decide +kernel
theorem d_Mod_about_68 : decode b_Mod_about 68 = .ok (.ireturn, 1) := by decide +kernel
theorem d_Mod_about_69 : decode b_Mod_about 69 = .ok (.iload_n 2, 1) := by decide +kernel
theorem d_Mod_about_70 : decode b_Mod_about 70 = .ok (.iconst 2, 1) := by decide +kernel
theorem d_Mod_about_71 : decode b_Mod_about 71 = .ok (.if_icmp .le 30, 3) := by decide +kernel
theorem d_Mod_about_74 : decode b_Mod_about 74 = .ok (.iload_n 2, 1) := by decide +kernel
theorem d_Mod_about_75 : decode b_Mod_about 75 = .ok (.iconst 3, 1) := by decide +kernel
theorem d_Mod_about_76 : decode b_Mod_about 76 = .ok (.isub, 1) := by decide +kernel
theorem d_Mod_about_77 : decode b_Mod_about 77 = .ok (.aload_n 0, 1) := by decide +kernel
theorem d_Mod_about_78 : decode b_Mod_about 78 = .ok (.getfield 20, 3) := by decide +kernel
theorem d_Mod_about_81 : decode b_Mod_about 81 = .ok (.iload_n 1, 1) := by decide +kernel
theorem d_Mod_about_82 : decode b_Mod_about 82 = .ok (.iaload, 1) := by decide +kernel
theorem d_Mod_about_83 : decode b_Mod_about 83 = .ok (.if_icmp .ge 18, 3) := by decide +kernel
theorem d_Mod_about_86 : decode b_Mod_about 86 = .ok (.aload_n 0, 1) := by decide +kernel
theorem d_Mod_about_87 : decode b_Mod_about 87 = .ok (.getfield 23, 3) := by decide +kernel
theorem d_Mod_about_90 : decode b_Mod_about 90 = .ok (.iconst 4, 1) := by decide +kernel
theorem d_Mod_about_91 : decode b_Mod_about 91 = .ok (.iload_n 1, 1) := by decide +kernel
theorem d_Mod_about_92 : decode b_Mod_about 92 = .ok (.imul, 1) := by decide +kernel
theorem d_Mod_about_93 : decode b_Mod_about 93 = .ok (.iload_n 2, 1) := by decide +kernel
theorem d_Mod_about_94 : decode b_Mod_about 94 = .ok (.iadd, 1) := by decide +kernel
theorem d_Mod_about_95 : decode b_Mod_about 95 = .ok (.iconst 3, 1) := by decide +kernel
theorem d_Mod_about_96 : decode b_Mod_about 96 = .ok (.isub, 1) := by decide +kernel
theorem d_Mod_about_97 : decode b_Mod_about 97 = .ok (.iaload, 1) := by decide +kernel
theorem d_Mod_about_98 : decode b_Mod_about 98 = .ok (.goto 4, 3) := by decide +kernel
theorem d_Mod_about_101 : decode b_Mod_about 101 = .ok (.iconst (-1), 1) := by decide +kernel
theorem d_Mod_about_102 : decode b_Mod_about 102 = .ok (.ireturn, 1) := by decide +kernel
abbrev b_Mod_many : ByteArray := prog_10_method_33_code
def y_Mod_many : MethodName := ⟨R_Mod, "many", "(I)I"⟩
def ws_Mod_many : List Cond := Cond.code y_Mod_many b_Mod_many 4 (some .int) :: GW
theorem hd_Mod_many : y_Mod_many.cls ≠ "java/lang/invoke/MethodHandle" ∧ y_Mod_many.cls ≠ "java/lang/invoke/VarHandle" ∧ (parseMethodDescriptor y_Mod_many.desc).map (fun d => d.parameters.length) = some 1 := by decide +kernel
theorem d_Mod_many_0 : decode b_Mod_many 0 = .ok (.aload_n 0, 1) := by decide +kernel
theorem d_Mod_many_1 : decode b_Mod_many 1 = .ok (.iconst 0, 1) := by decide +kernel
theorem d_Mod_many_2 : decode b_Mod_many 2 = .ok (.putfield 74, 3) := by decide +kernel
theorem d_Mod_many_5 : decode b_Mod_many 5 = .ok (.aload_n 0, 1) := by decide +kernel
theorem d_Mod_many_6 : decode b_Mod_many 6 = .ok (.iload_n 1, 1) := by decide +kernel
theorem d_Mod_many_7 : decode b_Mod_many 7 = .ok (.invokevirtual 80, 3) := by decide +kernel
theorem d_Mod_many_10 : decode b_Mod_many 10 = .ok (.ifCond .ne 5, 3) := by decide +kernel
theorem d_Mod_many_13 : decode b_Mod_many 13 = .ok (.iconst (-1), 1) := by decide +kernel
theorem d_Mod_many_14 : decode b_Mod_many 14 = .ok (.ireturn, 1) := by decide +kernel
theorem d_Mod_many_15 : decode b_Mod_many 15 = .ok (.iconst 0, 1) := by decide +kernel
theorem d_Mod_many_16 : decode b_Mod_many 16 = .ok (.istore_n 2, 1) := by decide +kernel
theorem d_Mod_many_17 : decode b_Mod_many 17 = .ok (.iconst 0, 1) := by decide +kernel
theorem d_Mod_many_18 : decode b_Mod_many 18 = .ok (.istore_n 3, 1) := by decide +kernel
theorem d_Mod_many_19 : decode b_Mod_many 19 = .ok (.iload_n 3, 1) := by decide +kernel
theorem d_Mod_many_20 : decode b_Mod_many 20 = .ok (.aload_n 0, 1) := by decide +kernel
theorem d_Mod_many_21 : decode b_Mod_many 21 = .ok (.getfield 91, 3) := by decide +kernel
theorem d_Mod_many_24 : decode b_Mod_many 24 = .ok (.if_icmp .ge 27, 3) := by decide +kernel
theorem d_Mod_many_27 : decode b_Mod_many 27 = .ok (.iload_n 2, 1) := by decide +kernel
theorem d_Mod_many_28 : decode b_Mod_many 28 = .ok (.aload_n 0, 1) := by decide +kernel
theorem d_Mod_many_29 : decode b_Mod_many 29 = .ok (.getfield 13, 3) := by decide +kernel
theorem d_Mod_many_32 : decode b_Mod_many 32 = .ok (.iload_n 3, 1) := by decide +kernel
theorem d_Mod_many_33 : decode b_Mod_many 33 = .ok (.iaload, 1) := by decide +kernel
theorem d_Mod_many_34 : decode b_Mod_many 34 = .ok (.iload_n 1, 1) := by decide +kernel
theorem d_Mod_many_35 : decode b_Mod_many 35 = .ok (.if_icmp .ne 7, 3) := by decide +kernel
theorem d_Mod_many_38 : decode b_Mod_many 38 = .ok (.iconst 1, 1) := by decide +kernel
theorem d_Mod_many_39 : decode b_Mod_many 39 = .ok (.goto 4, 3) := by decide +kernel
theorem d_Mod_many_42 : decode b_Mod_many 42 = .ok (.iconst 0, 1) := by decide +kernel
theorem d_Mod_many_43 : decode b_Mod_many 43 = .ok (.iadd, 1) := by decide +kernel
theorem d_Mod_many_44 : decode b_Mod_many 44 = .ok (.istore_n 2, 1) := by decide +kernel
theorem d_Mod_many_45 : decode b_Mod_many 45 = .ok (.iinc 3 1, 3) := by decide +kernel
theorem d_Mod_many_48 : decode b_Mod_many 48 = .ok (.goto (-29), 3) := by decide +kernel
theorem d_Mod_many_51 : decode b_Mod_many 51 = .ok (.iload_n 2, 1) := by decide +kernel
theorem d_Mod_many_52 : decode b_Mod_many 52 = .ok (.ireturn, 1) := by decide +kernel
abbrev b_Mod_constructorOf : ByteArray := prog_10_method_34_code
def y_Mod_constructorOf : MethodName := ⟨R_Mod, "constructorOf", "(II)I"⟩
def ws_Mod_constructorOf : List Cond := Cond.code y_Mod_constructorOf b_Mod_constructorOf 5 (some .int) :: GW
theorem hd_Mod_constructorOf : y_Mod_constructorOf.cls ≠ "java/lang/invoke/MethodHandle" ∧ y_Mod_constructorOf.cls ≠ "java/lang/invoke/VarHandle" ∧ (parseMethodDescriptor y_Mod_constructorOf.desc).map (fun d => d.parameters.length) = some 2 := by decide +kernel
theorem d_Mod_constructorOf_0 : decode b_Mod_constructorOf 0 = .ok (.aload_n 0, 1) := by decide +kernel
theorem d_Mod_constructorOf_1 : decode b_Mod_constructorOf 1 = .ok (.iconst 0, 1) := by decide +kernel
theorem d_Mod_constructorOf_2 : decode b_Mod_constructorOf 2 = .ok (.putfield 74, 3) := by decide +kernel
theorem d_Mod_constructorOf_5 : decode b_Mod_constructorOf 5 = .ok (.iconst 0, 1) := by decide +kernel
theorem d_Mod_constructorOf_6 : decode b_Mod_constructorOf 6 = .ok (.istore_n 3, 1) := by decide +kernel
theorem d_Mod_constructorOf_7 : decode b_Mod_constructorOf 7 = .ok (.iconst 0, 1) := by decide +kernel
theorem d_Mod_constructorOf_8 : decode b_Mod_constructorOf 8 = .ok (.istore 4, 2) := by decide +kernel
theorem d_Mod_constructorOf_10 : decode b_Mod_constructorOf 10 = .ok (.iload 4, 2) := by decide +kernel
theorem d_Mod_constructorOf_12 : decode b_Mod_constructorOf 12 = .ok (.aload_n 0, 1) := by decide +kernel
theorem d_Mod_constructorOf_13 : decode b_Mod_constructorOf 13 = .ok (.getfield 91, 3) := by decide +kernel
theorem d_Mod_constructorOf_16 : decode b_Mod_constructorOf 16 = .ok (.if_icmp .ge 34, 3) := by decide +kernel
theorem d_Mod_constructorOf_19 : decode b_Mod_constructorOf 19 = .ok (.aload_n 0, 1) := by decide +kernel
theorem d_Mod_constructorOf_20 : decode b_Mod_constructorOf 20 = .ok (.getfield 13, 3) := by decide +kernel
theorem d_Mod_constructorOf_23 : decode b_Mod_constructorOf 23 = .ok (.iload 4, 2) := by decide +kernel
theorem d_Mod_constructorOf_25 : decode b_Mod_constructorOf 25 = .ok (.iaload, 1) := by decide +kernel
theorem d_Mod_constructorOf_26 : decode b_Mod_constructorOf 26 = .ok (.iload_n 1, 1) := by decide +kernel
theorem d_Mod_constructorOf_27 : decode b_Mod_constructorOf 27 = .ok (.if_icmp .eq 6, 3) := by decide +kernel
theorem d_Mod_constructorOf_30 : decode b_Mod_constructorOf 30 = .ok (.goto 14, 3) := by decide +kernel
theorem d_Mod_constructorOf_33 : decode b_Mod_constructorOf 33 = .ok (.iload_n 3, 1) := by decide +kernel
theorem d_Mod_constructorOf_34 : decode b_Mod_constructorOf 34 = .ok (.iload_n 2, 1) := by decide +kernel
theorem d_Mod_constructorOf_35 : decode b_Mod_constructorOf 35 = .ok (.if_icmp .ne 6, 3) := by decide +kernel
theorem d_Mod_constructorOf_38 : decode b_Mod_constructorOf 38 = .ok (.iload 4, 2) := by decide +kernel
theorem d_Mod_constructorOf_40 : decode b_Mod_constructorOf 40 = .ok (.ireturn, 1) := by decide +kernel
theorem d_Mod_constructorOf_41 : decode b_Mod_constructorOf 41 = .ok (.iinc 3 1, 3) := by decide +kernel
theorem d_Mod_constructorOf_44 : decode b_Mod_constructorOf 44 = .ok (.iinc 4 1, 3) := by decide +kernel
theorem d_Mod_constructorOf_47 : decode b_Mod_constructorOf 47 = .ok (.goto (-37), 3) := by decide +kernel
theorem d_Mod_constructorOf_50 : decode b_Mod_constructorOf 50 = .ok (.iconst (-1), 1) := by decide +kernel
theorem d_Mod_constructorOf_51 : decode b_Mod_constructorOf 51 = .ok (.ireturn, 1) := by decide +kernel
abbrev b_Mod_find : ByteArray := prog_10_method_35_code
def y_Mod_find : MethodName := ⟨R_Mod, "find", "(III)I"⟩
def ws_Mod_find : List Cond := Cond.code y_Mod_find b_Mod_find 4 (some .int) :: GW
theorem hd_Mod_find : y_Mod_find.cls ≠ "java/lang/invoke/MethodHandle" ∧ y_Mod_find.cls ≠ "java/lang/invoke/VarHandle" ∧ (parseMethodDescriptor y_Mod_find.desc).map (fun d => d.parameters.length) = some 3 := by decide +kernel
theorem d_Mod_find_0 : decode b_Mod_find 0 = .ok (.aload_n 0, 1) := by decide +kernel
theorem d_Mod_find_1 : decode b_Mod_find 1 = .ok (.iconst 0, 1) := by decide +kernel
theorem d_Mod_find_2 : decode b_Mod_find 2 = .ok (.putfield 74, 3) := by decide +kernel
theorem d_Mod_find_5 : decode b_Mod_find 5 = .ok (.aload_n 0, 1) := by decide +kernel
theorem d_Mod_find_6 : decode b_Mod_find 6 = .ok (.iload_n 1, 1) := by decide +kernel
theorem d_Mod_find_7 : decode b_Mod_find 7 = .ok (.iload_n 2, 1) := by decide +kernel
theorem d_Mod_find_8 : decode b_Mod_find 8 = .ok (.iload_n 3, 1) := by decide +kernel
theorem d_Mod_find_9 : decode b_Mod_find 9 = .ok (.invokevirtual 97, 3) := by decide +kernel
theorem d_Mod_find_12 : decode b_Mod_find 12 = .ok (.ireturn, 1) := by decide +kernel
