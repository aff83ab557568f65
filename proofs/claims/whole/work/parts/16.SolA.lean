abbrev b_Sol_init : ByteArray := prog_7_method_1_code
def y_Sol_init : MethodName := ⟨R_Sol, "<init>", "(LKindDesk$Kinds;LKindDesk$Table;LKindDesk$Demands;)V"⟩
def ws_Sol_init : List Cond := Cond.code y_Sol_init b_Sol_init 4 none :: GW
theorem hd_Sol_init : y_Sol_init.cls ≠ "java/lang/invoke/MethodHandle" ∧ y_Sol_init.cls ≠ "java/lang/invoke/VarHandle" ∧ (parseMethodDescriptor y_Sol_init.desc).map (fun d => d.parameters.length) = some 3 := by decide +kernel
theorem d_Sol_init_0 : decode b_Sol_init 0 = .ok (.aload_n 0, 1) := by decide +kernel
theorem d_Sol_init_1 : decode b_Sol_init 1 = .ok (.invokespecial 3, 3) := by decide +kernel
theorem d_Sol_init_4 : decode b_Sol_init 4 = .ok (.aload_n 0, 1) := by decide +kernel
theorem d_Sol_init_5 : decode b_Sol_init 5 = .ok (.new 9, 3) := by decide +kernel
theorem d_Sol_init_8 : decode b_Sol_init 8 = .ok (.dup, 1) := by decide +kernel
theorem d_Sol_init_9 : decode b_Sol_init 9 = .ok (.invokespecial 11, 3) := by decide +kernel
theorem d_Sol_init_12 : decode b_Sol_init 12 = .ok (.putfield 12, 3) := by decide +kernel
theorem d_Sol_init_15 : decode b_Sol_init 15 = .ok (.aload_n 0, 1) := by decide +kernel
theorem d_Sol_init_16 : decode b_Sol_init 16 = .ok (.sipush 200, 3) := by decide +kernel
theorem d_Sol_init_19 : decode b_Sol_init 19 = .ok (.newarray .int, 2) := by decide +kernel
theorem d_Sol_init_21 : decode b_Sol_init 21 = .ok (.putfield 18, 3) := by decide +kernel
theorem d_Sol_init_24 : decode b_Sol_init 24 = .ok (.aload_n 0, 1) := by decide +kernel
theorem d_Sol_init_25 : decode b_Sol_init 25 = .ok (.iconst 0, 1) := by decide +kernel
theorem d_Sol_init_26 : decode b_Sol_init 26 = .ok (.putfield 22, 3) := by decide +kernel
theorem d_Sol_init_29 : decode b_Sol_init 29 = .ok (.aload_n 0, 1) := by decide +kernel
theorem d_Sol_init_30 : decode b_Sol_init 30 = .ok (.iconst (-1), 1) := by decide +kernel
theorem d_Sol_init_31 : decode b_Sol_init 31 = .ok (.putfield 26, 3) := by decide +kernel
theorem d_Sol_init_34 : decode b_Sol_init 34 = .ok (.aload_n 0, 1) := by decide +kernel
theorem d_Sol_init_35 : decode b_Sol_init 35 = .ok (.iconst (-1), 1) := by decide +kernel
theorem d_Sol_init_36 : decode b_Sol_init 36 = .ok (.putfield 29, 3) := by decide +kernel
theorem d_Sol_init_39 : decode b_Sol_init 39 = .ok (.aload_n 0, 1) := by decide +kernel
theorem d_Sol_init_40 : decode b_Sol_init 40 = .ok (.aload_n 1, 1) := by decide +kernel
theorem d_Sol_init_41 : decode b_Sol_init 41 = .ok (.putfield 32, 3) := by decide +kernel
theorem d_Sol_init_44 : decode b_Sol_init 44 = .ok (.aload_n 0, 1) := by decide +kernel
theorem d_Sol_init_45 : decode b_Sol_init 45 = .ok (.aload_n 2, 1) := by decide +kernel
theorem d_Sol_init_46 : decode b_Sol_init 46 = .ok (.putfield 36, 3) := by decide +kernel
theorem d_Sol_init_49 : decode b_Sol_init 49 = .ok (.aload_n 0, 1) := by decide +kernel
theorem d_Sol_init_50 : decode b_Sol_init 50 = .ok (.aload_n 3, 1) := by decide +kernel
theorem d_Sol_init_51 : decode b_Sol_init 51 = .ok (.putfield 40, 3) := by decide +kernel
theorem d_Sol_init_54 : decode b_Sol_init 54 = .ok (.return_, 1) := by decide +kernel
abbrev b_Sol_forget : ByteArray := prog_7_method_2_code
def y_Sol_forget : MethodName := ⟨R_Sol, "forget", "()V"⟩
def ws_Sol_forget : List Cond := Cond.code y_Sol_forget b_Sol_forget 1 none :: GW
theorem hd_Sol_forget : y_Sol_forget.cls ≠ "java/lang/invoke/MethodHandle" ∧ y_Sol_forget.cls ≠ "java/lang/invoke/VarHandle" ∧ (parseMethodDescriptor y_Sol_forget.desc).map (fun d => d.parameters.length) = some 0 := by decide +kernel
theorem d_Sol_forget_0 : decode b_Sol_forget 0 = .ok (.aload_n 0, 1) := by decide +kernel
theorem d_Sol_forget_1 : decode b_Sol_forget 1 = .ok (.iconst (-1), 1) := by decide +kernel
theorem d_Sol_forget_2 : decode b_Sol_forget 2 = .ok (.putfield 26, 3) := by decide +kernel
theorem d_Sol_forget_5 : decode b_Sol_forget 5 = .ok (.aload_n 0, 1) := by decide +kernel
theorem d_Sol_forget_6 : decode b_Sol_forget 6 = .ok (.iconst (-1), 1) := by decide +kernel
theorem d_Sol_forget_7 : decode b_Sol_forget 7 = .ok (.putfield 29, 3) := by decide +kernel
theorem d_Sol_forget_10 : decode b_Sol_forget 10 = .ok (.return_, 1) := by decide +kernel
abbrev b_Sol_begin : ByteArray := prog_7_method_4_code
def y_Sol_begin : MethodName := ⟨R_Sol, "begin", "()V"⟩
def ws_Sol_begin : List Cond := Cond.code y_Sol_begin b_Sol_begin 1 none :: GW
theorem hd_Sol_begin : y_Sol_begin.cls ≠ "java/lang/invoke/MethodHandle" ∧ y_Sol_begin.cls ≠ "java/lang/invoke/VarHandle" ∧ (parseMethodDescriptor y_Sol_begin.desc).map (fun d => d.parameters.length) = some 0 := by decide +kernel
theorem d_Sol_begin_0 : decode b_Sol_begin 0 = .ok (.aload_n 0, 1) := by decide +kernel
theorem d_Sol_begin_1 : decode b_Sol_begin 1 = .ok (.getfield 12, 3) := by decide +kernel
theorem d_Sol_begin_4 : decode b_Sol_begin 4 = .ok (.invokevirtual 60, 3) := by decide +kernel
theorem d_Sol_begin_7 : decode b_Sol_begin 7 = .ok (.aload_n 0, 1) := by decide +kernel
theorem d_Sol_begin_8 : decode b_Sol_begin 8 = .ok (.getfield 18, 3) := by decide +kernel
theorem d_Sol_begin_11 : decode b_Sol_begin 11 = .ok (.iconst (-1), 1) := by decide +kernel
theorem d_Sol_begin_12 : decode b_Sol_begin 12 = .ok (.invokestatic 63, 3) := by decide +kernel
theorem d_Sol_begin_15 : decode b_Sol_begin 15 = .ok (.aload_n 0, 1) := by decide +kernel
theorem d_Sol_begin_16 : decode b_Sol_begin 16 = .ok (.iconst 0, 1) := by decide +kernel
theorem d_Sol_begin_17 : decode b_Sol_begin 17 = .ok (.putfield 22, 3) := by decide +kernel
theorem d_Sol_begin_20 : decode b_Sol_begin 20 = .ok (.aload_n 0, 1) := by decide +kernel
theorem d_Sol_begin_21 : decode b_Sol_begin 21 = .ok (.iconst 0, 1) := by decide +kernel
theorem d_Sol_begin_22 : decode b_Sol_begin 22 = .ok (.putfield 26, 3) := by decide +kernel
theorem d_Sol_begin_25 : decode b_Sol_begin 25 = .ok (.aload_n 0, 1) := by decide +kernel
theorem d_Sol_begin_26 : decode b_Sol_begin 26 = .ok (.iconst (-1), 1) := by decide +kernel
theorem d_Sol_begin_27 : decode b_Sol_begin 27 = .ok (.putfield 29, 3) := by decide +kernel
theorem d_Sol_begin_30 : decode b_Sol_begin 30 = .ok (.return_, 1) := by decide +kernel
abbrev b_Sol_changes : ByteArray := prog_7_method_5_code
def y_Sol_changes : MethodName := ⟨R_Sol, "changes", "()I"⟩
def ws_Sol_changes : List Cond := Cond.code y_Sol_changes b_Sol_changes 1 (some .int) :: GW
theorem hd_Sol_changes : y_Sol_changes.cls ≠ "java/lang/invoke/MethodHandle" ∧ y_Sol_changes.cls ≠ "java/lang/invoke/VarHandle" ∧ (parseMethodDescriptor y_Sol_changes.desc).map (fun d => d.parameters.length) = some 0 := by decide +kernel
theorem d_Sol_changes_0 : decode b_Sol_changes 0 = .ok (.aload_n 0, 1) := by decide +kernel
theorem d_Sol_changes_1 : decode b_Sol_changes 1 = .ok (.getfield 12, 3) := by decide +kernel
theorem d_Sol_changes_4 : decode b_Sol_changes 4 = .ok (.getfield 69, 3) := by decide +kernel
theorem d_Sol_changes_7 : decode b_Sol_changes 7 = .ok (.aload_n 0, 1) := by decide +kernel
theorem d_Sol_changes_8 : decode b_Sol_changes 8 = .ok (.getfield 22, 3) := by decide +kernel
theorem d_Sol_changes_11 : decode b_Sol_changes 11 = .ok (.iadd, 1) := by decide +kernel
theorem d_Sol_changes_12 : decode b_Sol_changes 12 = .ok (.ireturn, 1) := by decide +kernel
abbrev b_Sol_giveAll : ByteArray := prog_7_method_8_code
def y_Sol_giveAll : MethodName := ⟨R_Sol, "giveAll", "(IILKindDesk$Table;I)Z"⟩
def ws_Sol_giveAll : List Cond := Cond.code y_Sol_giveAll b_Sol_giveAll 6 (some .boolean) :: GW
theorem hd_Sol_giveAll : y_Sol_giveAll.cls ≠ "java/lang/invoke/MethodHandle" ∧ y_Sol_giveAll.cls ≠ "java/lang/invoke/VarHandle" ∧ (parseMethodDescriptor y_Sol_giveAll.desc).map (fun d => d.parameters.length) = some 4 := by decide +kernel
theorem d_Sol_giveAll_0 : decode b_Sol_giveAll 0 = .ok (.iconst 0, 1) := by decide +kernel
theorem d_Sol_giveAll_1 : decode b_Sol_giveAll 1 = .ok (.istore 5, 2) := by decide +kernel
theorem d_Sol_giveAll_3 : decode b_Sol_giveAll 3 = .ok (.iload 5, 2) := by decide +kernel
theorem d_Sol_giveAll_5 : decode b_Sol_giveAll 5 = .ok (.aload_n 3, 1) := by decide +kernel
theorem d_Sol_giveAll_6 : decode b_Sol_giveAll 6 = .ok (.iload 4, 2) := by decide +kernel
theorem d_Sol_giveAll_8 : decode b_Sol_giveAll 8 = .ok (.invokevirtual 113, 3) := by decide +kernel
theorem d_Sol_giveAll_11 : decode b_Sol_giveAll 11 = .ok (.if_icmp .ge 44, 3) := by decide +kernel
theorem d_Sol_giveAll_14 : decode b_Sol_giveAll 14 = .ok (.aload_n 0, 1) := by decide +kernel
theorem d_Sol_giveAll_15 : decode b_Sol_giveAll 15 = .ok (.getfield 12, 3) := by decide +kernel
theorem d_Sol_giveAll_18 : decode b_Sol_giveAll 18 = .ok (.aload_n 0, 1) := by decide +kernel
theorem d_Sol_giveAll_19 : decode b_Sol_giveAll 19 = .ok (.getfield 40, 3) := by decide +kernel
theorem d_Sol_giveAll_22 : decode b_Sol_giveAll 22 = .ok (.getfield 80, 3) := by decide +kernel
theorem d_Sol_giveAll_25 : decode b_Sol_giveAll 25 = .ok (.iload_n 1, 1) := by decide +kernel
theorem d_Sol_giveAll_26 : decode b_Sol_giveAll 26 = .ok (.iload_n 2, 1) := by decide +kernel
theorem d_Sol_giveAll_27 : decode b_Sol_giveAll 27 = .ok (.iload 5, 2) := by decide +kernel
theorem d_Sol_giveAll_29 : decode b_Sol_giveAll 29 = .ok (.iadd, 1) := by decide +kernel
theorem d_Sol_giveAll_30 : decode b_Sol_giveAll 30 = .ok (.invokevirtual 87, 3) := by decide +kernel
theorem d_Sol_giveAll_33 : decode b_Sol_giveAll 33 = .ok (.aload_n 3, 1) := by decide +kernel
theorem d_Sol_giveAll_34 : decode b_Sol_giveAll 34 = .ok (.iload 4, 2) := by decide +kernel
theorem d_Sol_giveAll_36 : decode b_Sol_giveAll 36 = .ok (.iload 5, 2) := by decide +kernel
theorem d_Sol_giveAll_38 : decode b_Sol_giveAll 38 = .ok (.invokevirtual 87, 3) := by decide +kernel
theorem d_Sol_giveAll_41 : decode b_Sol_giveAll 41 = .ok (.invokevirtual 93, 3) := by decide +kernel
theorem d_Sol_giveAll_44 : decode b_Sol_giveAll 44 = .ok (.ifCond .ne 5, 3) := by decide +kernel
theorem d_Sol_giveAll_47 : decode b_Sol_giveAll 47 = .ok (.iconst 0, 1) := by decide +kernel
theorem d_Sol_giveAll_48 : decode b_Sol_giveAll 48 = .ok (.ireturn, 1) := by decide +kernel
theorem d_Sol_giveAll_49 : decode b_Sol_giveAll 49 = .ok (.iinc 5 1, 3) := by decide +kernel
theorem d_Sol_giveAll_52 : decode b_Sol_giveAll 52 = .ok (.goto (-49), 3) := by decide +kernel
theorem d_Sol_giveAll_55 : decode b_Sol_giveAll 55 = .ok (.iconst 1, 1) := by decide +kernel
theorem d_Sol_giveAll_56 : decode b_Sol_giveAll 56 = .ok (.ireturn, 1) := by decide +kernel
abbrev b_Sol_meaningOf : ByteArray := prog_7_method_11_code
def y_Sol_meaningOf : MethodName := ⟨R_Sol, "meaningOf", "(I)I"⟩
def ws_Sol_meaningOf : List Cond := Cond.code y_Sol_meaningOf b_Sol_meaningOf 2 (some .int) :: GW
theorem hd_Sol_meaningOf : y_Sol_meaningOf.cls ≠ "java/lang/invoke/MethodHandle" ∧ y_Sol_meaningOf.cls ≠ "java/lang/invoke/VarHandle" ∧ (parseMethodDescriptor y_Sol_meaningOf.desc).map (fun d => d.parameters.length) = some 1 := by decide +kernel
theorem d_Sol_meaningOf_0 : decode b_Sol_meaningOf 0 = .ok (.iload_n 1, 1) := by decide +kernel
theorem d_Sol_meaningOf_1 : decode b_Sol_meaningOf 1 = .ok (.invokestatic 127, 3) := by decide +kernel
theorem d_Sol_meaningOf_4 : decode b_Sol_meaningOf 4 = .ok (.ifCond .eq 12, 3) := by decide +kernel
theorem d_Sol_meaningOf_7 : decode b_Sol_meaningOf 7 = .ok (.aload_n 0, 1) := by decide +kernel
theorem d_Sol_meaningOf_8 : decode b_Sol_meaningOf 8 = .ok (.getfield 18, 3) := by decide +kernel
theorem d_Sol_meaningOf_11 : decode b_Sol_meaningOf 11 = .ok (.iload_n 1, 1) := by decide +kernel
theorem d_Sol_meaningOf_12 : decode b_Sol_meaningOf 12 = .ok (.iaload, 1) := by decide +kernel
theorem d_Sol_meaningOf_13 : decode b_Sol_meaningOf 13 = .ok (.goto 4, 3) := by decide +kernel
theorem d_Sol_meaningOf_16 : decode b_Sol_meaningOf 16 = .ok (.iconst (-1), 1) := by decide +kernel
theorem d_Sol_meaningOf_17 : decode b_Sol_meaningOf 17 = .ok (.ireturn, 1) := by decide +kernel
abbrev b_Sol_fits : ByteArray := prog_7_method_10_code
def y_Sol_fits : MethodName := ⟨R_Sol, "fits", "(II)Z"⟩
def ws_Sol_fits : List Cond := Cond.code y_Sol_fits b_Sol_fits 6 (some .boolean) :: GW
theorem hd_Sol_fits : y_Sol_fits.cls ≠ "java/lang/invoke/MethodHandle" ∧ y_Sol_fits.cls ≠ "java/lang/invoke/VarHandle" ∧ (parseMethodDescriptor y_Sol_fits.desc).map (fun d => d.parameters.length) = some 2 := by decide +kernel
theorem d_Sol_fits_0 : decode b_Sol_fits 0 = .ok (.aload_n 0, 1) := by decide +kernel
theorem d_Sol_fits_1 : decode b_Sol_fits 1 = .ok (.getfield 40, 3) := by decide +kernel
theorem d_Sol_fits_4 : decode b_Sol_fits 4 = .ok (.getfield 80, 3) := by decide +kernel
theorem d_Sol_fits_7 : decode b_Sol_fits 7 = .ok (.astore_n 3, 1) := by decide +kernel
theorem d_Sol_fits_8 : decode b_Sol_fits 8 = .ok (.aload_n 0, 1) := by decide +kernel
theorem d_Sol_fits_9 : decode b_Sol_fits 9 = .ok (.getfield 32, 3) := by decide +kernel
theorem d_Sol_fits_12 : decode b_Sol_fits 12 = .ok (.getfield 116, 3) := by decide +kernel
theorem d_Sol_fits_15 : decode b_Sol_fits 15 = .ok (.iload_n 1, 1) := by decide +kernel
theorem d_Sol_fits_16 : decode b_Sol_fits 16 = .ok (.invokevirtual 113, 3) := by decide +kernel
theorem d_Sol_fits_19 : decode b_Sol_fits 19 = .ok (.istore 4, 2) := by decide +kernel
theorem d_Sol_fits_21 : decode b_Sol_fits 21 = .ok (.aload_n 0, 1) := by decide +kernel
theorem d_Sol_fits_22 : decode b_Sol_fits 22 = .ok (.getfield 32, 3) := by decide +kernel
theorem d_Sol_fits_25 : decode b_Sol_fits 25 = .ok (.iload_n 1, 1) := by decide +kernel
theorem d_Sol_fits_26 : decode b_Sol_fits 26 = .ok (.invokevirtual 133, 3) := by decide +kernel
theorem d_Sol_fits_29 : decode b_Sol_fits 29 = .ok (.aload_n 0, 1) := by decide +kernel
theorem d_Sol_fits_30 : decode b_Sol_fits 30 = .ok (.getfield 40, 3) := by decide +kernel
theorem d_Sol_fits_33 : decode b_Sol_fits 33 = .ok (.iload_n 2, 1) := by decide +kernel
theorem d_Sol_fits_34 : decode b_Sol_fits 34 = .ok (.invokevirtual 100, 3) := by decide +kernel
theorem d_Sol_fits_37 : decode b_Sol_fits 37 = .ok (.if_icmp .ne 39, 3) := by decide +kernel
theorem d_Sol_fits_40 : decode b_Sol_fits 40 = .ok (.iload 4, 2) := by decide +kernel
theorem d_Sol_fits_42 : decode b_Sol_fits 42 = .ok (.iconst 1, 1) := by decide +kernel
theorem d_Sol_fits_43 : decode b_Sol_fits 43 = .ok (.iadd, 1) := by decide +kernel
theorem d_Sol_fits_44 : decode b_Sol_fits 44 = .ok (.aload_n 3, 1) := by decide +kernel
theorem d_Sol_fits_45 : decode b_Sol_fits 45 = .ok (.iload_n 2, 1) := by decide +kernel
theorem d_Sol_fits_46 : decode b_Sol_fits 46 = .ok (.invokevirtual 113, 3) := by decide +kernel
theorem d_Sol_fits_49 : decode b_Sol_fits 49 = .ok (.if_icmp .ne 27, 3) := by decide +kernel
theorem d_Sol_fits_52 : decode b_Sol_fits 52 = .ok (.aload_n 0, 1) := by decide +kernel
theorem d_Sol_fits_53 : decode b_Sol_fits 53 = .ok (.getfield 12, 3) := by decide +kernel
theorem d_Sol_fits_56 : decode b_Sol_fits 56 = .ok (.aload_n 3, 1) := by decide +kernel
theorem d_Sol_fits_57 : decode b_Sol_fits 57 = .ok (.iload_n 2, 1) := by decide +kernel
theorem d_Sol_fits_58 : decode b_Sol_fits 58 = .ok (.iconst 0, 1) := by decide +kernel
theorem d_Sol_fits_59 : decode b_Sol_fits 59 = .ok (.invokevirtual 87, 3) := by decide +kernel
theorem d_Sol_fits_62 : decode b_Sol_fits 62 = .ok (.aload_n 0, 1) := by decide +kernel
theorem d_Sol_fits_63 : decode b_Sol_fits 63 = .ok (.getfield 32, 3) := by decide +kernel
theorem d_Sol_fits_66 : decode b_Sol_fits 66 = .ok (.iload_n 1, 1) := by decide +kernel
theorem d_Sol_fits_67 : decode b_Sol_fits 67 = .ok (.invokevirtual 130, 3) := by decide +kernel
theorem d_Sol_fits_70 : decode b_Sol_fits 70 = .ok (.invokevirtual 136, 3) := by decide +kernel
theorem d_Sol_fits_73 : decode b_Sol_fits 73 = .ok (.ifCond .ne 5, 3) := by decide +kernel
theorem d_Sol_fits_76 : decode b_Sol_fits 76 = .ok (.iconst 0, 1) := by decide +kernel
theorem d_Sol_fits_77 : decode b_Sol_fits 77 = .ok (.ireturn, 1) := by decide +kernel
theorem d_Sol_fits_78 : decode b_Sol_fits 78 = .ok (.iconst 0, 1) := by decide +kernel
theorem d_Sol_fits_79 : decode b_Sol_fits 79 = .ok (.istore 5, 2) := by decide +kernel
theorem d_Sol_fits_81 : decode b_Sol_fits 81 = .ok (.iload 5, 2) := by decide +kernel
theorem d_Sol_fits_83 : decode b_Sol_fits 83 = .ok (.iload 4, 2) := by decide +kernel
theorem d_Sol_fits_85 : decode b_Sol_fits 85 = .ok (.if_icmp .ge 43, 3) := by decide +kernel
theorem d_Sol_fits_88 : decode b_Sol_fits 88 = .ok (.aload_n 0, 1) := by decide +kernel
theorem d_Sol_fits_89 : decode b_Sol_fits 89 = .ok (.getfield 12, 3) := by decide +kernel
theorem d_Sol_fits_92 : decode b_Sol_fits 92 = .ok (.aload_n 3, 1) := by decide +kernel
theorem d_Sol_fits_93 : decode b_Sol_fits 93 = .ok (.iload_n 2, 1) := by decide +kernel
theorem d_Sol_fits_94 : decode b_Sol_fits 94 = .ok (.iload 5, 2) := by decide +kernel
theorem d_Sol_fits_96 : decode b_Sol_fits 96 = .ok (.iconst 1, 1) := by decide +kernel
theorem d_Sol_fits_97 : decode b_Sol_fits 97 = .ok (.iadd, 1) := by decide +kernel
theorem d_Sol_fits_98 : decode b_Sol_fits 98 = .ok (.invokevirtual 87, 3) := by decide +kernel
theorem d_Sol_fits_101 : decode b_Sol_fits 101 = .ok (.aload_n 0, 1) := by decide +kernel
theorem d_Sol_fits_102 : decode b_Sol_fits 102 = .ok (.getfield 32, 3) := by decide +kernel
theorem d_Sol_fits_105 : decode b_Sol_fits 105 = .ok (.getfield 116, 3) := by decide +kernel
theorem d_Sol_fits_108 : decode b_Sol_fits 108 = .ok (.iload_n 1, 1) := by decide +kernel
theorem d_Sol_fits_109 : decode b_Sol_fits 109 = .ok (.iload 5, 2) := by decide +kernel
theorem d_Sol_fits_111 : decode b_Sol_fits 111 = .ok (.invokevirtual 87, 3) := by decide +kernel
theorem d_Sol_fits_114 : decode b_Sol_fits 114 = .ok (.invokevirtual 136, 3) := by decide +kernel
theorem d_Sol_fits_117 : decode b_Sol_fits 117 = .ok (.ifCond .ne 5, 3) := by decide +kernel
theorem d_Sol_fits_120 : decode b_Sol_fits 120 = .ok (.iconst 0, 1) := by decide +kernel
theorem d_Sol_fits_121 : decode b_Sol_fits 121 = .ok (.ireturn, 1) := by decide +kernel
theorem d_Sol_fits_122 : decode b_Sol_fits 122 = .ok (.iinc 5 1, 3) := by decide +kernel
theorem d_Sol_fits_125 : decode b_Sol_fits 125 = .ok (.goto (-44), 3) := by decide +kernel
theorem d_Sol_fits_128 : decode b_Sol_fits 128 = .ok (.iconst 1, 1) := by decide +kernel
theorem d_Sol_fits_129 : decode b_Sol_fits 129 = .ok (.ireturn, 1) := by decide +kernel
abbrev b_Sol_meetForm : ByteArray := prog_7_method_9_code
def y_Sol_meetForm : MethodName := ⟨R_Sol, "meetForm", "(I)Z"⟩
def ws_Sol_meetForm : List Cond := Cond.code y_Sol_meetForm b_Sol_meetForm 4 (some .boolean) :: GW
theorem hd_Sol_meetForm : y_Sol_meetForm.cls ≠ "java/lang/invoke/MethodHandle" ∧ y_Sol_meetForm.cls ≠ "java/lang/invoke/VarHandle" ∧ (parseMethodDescriptor y_Sol_meetForm.desc).map (fun d => d.parameters.length) = some 1 := by decide +kernel
theorem d_Sol_meetForm_0 : decode b_Sol_meetForm 0 = .ok (.iconst (-1), 1) := by decide +kernel
theorem d_Sol_meetForm_1 : decode b_Sol_meetForm 1 = .ok (.istore_n 2, 1) := by decide +kernel
theorem d_Sol_meetForm_2 : decode b_Sol_meetForm 2 = .ok (.iconst 0, 1) := by decide +kernel
theorem d_Sol_meetForm_3 : decode b_Sol_meetForm 3 = .ok (.istore_n 3, 1) := by decide +kernel
theorem d_Sol_meetForm_4 : decode b_Sol_meetForm 4 = .ok (.iload_n 3, 1) := by decide +kernel
theorem d_Sol_meetForm_5 : decode b_Sol_meetForm 5 = .ok (.aload_n 0, 1) := by decide +kernel
theorem d_Sol_meetForm_6 : decode b_Sol_meetForm 6 = .ok (.getfield 32, 3) := by decide +kernel
theorem d_Sol_meetForm_9 : decode b_Sol_meetForm 9 = .ok (.getfield 116, 3) := by decide +kernel
theorem d_Sol_meetForm_12 : decode b_Sol_meetForm 12 = .ok (.getfield 121, 3) := by decide +kernel
theorem d_Sol_meetForm_15 : decode b_Sol_meetForm 15 = .ok (.if_icmp .ge 27, 3) := by decide +kernel
theorem d_Sol_meetForm_18 : decode b_Sol_meetForm 18 = .ok (.aload_n 0, 1) := by decide +kernel
theorem d_Sol_meetForm_19 : decode b_Sol_meetForm 19 = .ok (.iload_n 3, 1) := by decide +kernel
theorem d_Sol_meetForm_20 : decode b_Sol_meetForm 20 = .ok (.iload_n 1, 1) := by decide +kernel
theorem d_Sol_meetForm_21 : decode b_Sol_meetForm 21 = .ok (.invokevirtual 124, 3) := by decide +kernel
theorem d_Sol_meetForm_24 : decode b_Sol_meetForm 24 = .ok (.ifCond .eq 12, 3) := by decide +kernel
theorem d_Sol_meetForm_27 : decode b_Sol_meetForm 27 = .ok (.iload_n 2, 1) := by decide +kernel
theorem d_Sol_meetForm_28 : decode b_Sol_meetForm 28 = .ok (.iconst (-1), 1) := by decide +kernel
theorem d_Sol_meetForm_29 : decode b_Sol_meetForm 29 = .ok (.if_icmp .eq 5, 3) := by decide +kernel
theorem d_Sol_meetForm_32 : decode b_Sol_meetForm 32 = .ok (.iconst 1, 1) := by decide +kernel
theorem d_Sol_meetForm_33 : decode b_Sol_meetForm 33 = .ok (.ireturn, 1) := by decide +kernel
theorem d_Sol_meetForm_34 : decode b_Sol_meetForm 34 = .ok (.iload_n 3, 1) := by decide +kernel
theorem d_Sol_meetForm_35 : decode b_Sol_meetForm 35 = .ok (.istore_n 2, 1) := by decide +kernel
theorem d_Sol_meetForm_36 : decode b_Sol_meetForm 36 = .ok (.iinc 3 1, 3) := by decide +kernel
theorem d_Sol_meetForm_39 : decode b_Sol_meetForm 39 = .ok (.goto (-35), 3) := by decide +kernel
theorem d_Sol_meetForm_42 : decode b_Sol_meetForm 42 = .ok (.iload_n 2, 1) := by decide +kernel
theorem d_Sol_meetForm_43 : decode b_Sol_meetForm 43 = .ok (.iconst (-1), 1) := by decide +kernel
theorem d_Sol_meetForm_44 : decode b_Sol_meetForm 44 = .ok (.if_icmp .eq 10, 3) := by decide +kernel
theorem d_Sol_meetForm_47 : decode b_Sol_meetForm 47 = .ok (.iload_n 1, 1) := by decide +kernel
theorem d_Sol_meetForm_48 : decode b_Sol_meetForm 48 = .ok (.invokestatic 127, 3) := by decide +kernel
theorem d_Sol_meetForm_51 : decode b_Sol_meetForm 51 = .ok (.ifCond .ne 5, 3) := by decide +kernel
theorem d_Sol_meetForm_54 : decode b_Sol_meetForm 54 = .ok (.iconst 0, 1) := by decide +kernel
theorem d_Sol_meetForm_55 : decode b_Sol_meetForm 55 = .ok (.ireturn, 1) := by decide +kernel
theorem d_Sol_meetForm_56 : decode b_Sol_meetForm 56 = .ok (.aload_n 0, 1) := by decide +kernel
theorem d_Sol_meetForm_57 : decode b_Sol_meetForm 57 = .ok (.getfield 18, 3) := by decide +kernel
theorem d_Sol_meetForm_60 : decode b_Sol_meetForm 60 = .ok (.iload_n 1, 1) := by decide +kernel
theorem d_Sol_meetForm_61 : decode b_Sol_meetForm 61 = .ok (.iload_n 2, 1) := by decide +kernel
theorem d_Sol_meetForm_62 : decode b_Sol_meetForm 62 = .ok (.iastore, 1) := by decide +kernel
theorem d_Sol_meetForm_63 : decode b_Sol_meetForm 63 = .ok (.aload_n 0, 1) := by decide +kernel
theorem d_Sol_meetForm_64 : decode b_Sol_meetForm 64 = .ok (.dup, 1) := by decide +kernel
theorem d_Sol_meetForm_65 : decode b_Sol_meetForm 65 = .ok (.getfield 22, 3) := by decide +kernel
theorem d_Sol_meetForm_68 : decode b_Sol_meetForm 68 = .ok (.iconst 1, 1) := by decide +kernel
theorem d_Sol_meetForm_69 : decode b_Sol_meetForm 69 = .ok (.iadd, 1) := by decide +kernel
theorem d_Sol_meetForm_70 : decode b_Sol_meetForm 70 = .ok (.putfield 22, 3) := by decide +kernel
theorem d_Sol_meetForm_73 : decode b_Sol_meetForm 73 = .ok (.aload_n 0, 1) := by decide +kernel
theorem d_Sol_meetForm_74 : decode b_Sol_meetForm 74 = .ok (.getfield 12, 3) := by decide +kernel
theorem d_Sol_meetForm_77 : decode b_Sol_meetForm 77 = .ok (.aload_n 0, 1) := by decide +kernel
theorem d_Sol_meetForm_78 : decode b_Sol_meetForm 78 = .ok (.getfield 40, 3) := by decide +kernel
theorem d_Sol_meetForm_81 : decode b_Sol_meetForm 81 = .ok (.getfield 80, 3) := by decide +kernel
theorem d_Sol_meetForm_84 : decode b_Sol_meetForm 84 = .ok (.iload_n 1, 1) := by decide +kernel
theorem d_Sol_meetForm_85 : decode b_Sol_meetForm 85 = .ok (.iconst 0, 1) := by decide +kernel
theorem d_Sol_meetForm_86 : decode b_Sol_meetForm 86 = .ok (.invokevirtual 87, 3) := by decide +kernel
theorem d_Sol_meetForm_89 : decode b_Sol_meetForm 89 = .ok (.aload_n 0, 1) := by decide +kernel
theorem d_Sol_meetForm_90 : decode b_Sol_meetForm 90 = .ok (.getfield 32, 3) := by decide +kernel
theorem d_Sol_meetForm_93 : decode b_Sol_meetForm 93 = .ok (.iload_n 2, 1) := by decide +kernel
theorem d_Sol_meetForm_94 : decode b_Sol_meetForm 94 = .ok (.invokevirtual 130, 3) := by decide +kernel
theorem d_Sol_meetForm_97 : decode b_Sol_meetForm 97 = .ok (.invokevirtual 93, 3) := by decide +kernel
theorem d_Sol_meetForm_100 : decode b_Sol_meetForm 100 = .ok (.ifCond .eq 24, 3) := by decide +kernel
theorem d_Sol_meetForm_103 : decode b_Sol_meetForm 103 = .ok (.aload_n 0, 1) := by decide +kernel
theorem d_Sol_meetForm_104 : decode b_Sol_meetForm 104 = .ok (.iload_n 1, 1) := by decide +kernel
theorem d_Sol_meetForm_105 : decode b_Sol_meetForm 105 = .ok (.iconst 1, 1) := by decide +kernel
theorem d_Sol_meetForm_106 : decode b_Sol_meetForm 106 = .ok (.aload_n 0, 1) := by decide +kernel
theorem d_Sol_meetForm_107 : decode b_Sol_meetForm 107 = .ok (.getfield 32, 3) := by decide +kernel
theorem d_Sol_meetForm_110 : decode b_Sol_meetForm 110 = .ok (.getfield 116, 3) := by decide +kernel
theorem d_Sol_meetForm_113 : decode b_Sol_meetForm 113 = .ok (.iload_n 2, 1) := by decide +kernel
theorem d_Sol_meetForm_114 : decode b_Sol_meetForm 114 = .ok (.invokevirtual 103, 3) := by decide +kernel
theorem d_Sol_meetForm_117 : decode b_Sol_meetForm 117 = .ok (.ifCond .eq 7, 3) := by decide +kernel
theorem d_Sol_meetForm_120 : decode b_Sol_meetForm 120 = .ok (.iconst 1, 1) := by decide +kernel
theorem d_Sol_meetForm_121 : decode b_Sol_meetForm 121 = .ok (.goto 4, 3) := by decide +kernel
theorem d_Sol_meetForm_124 : decode b_Sol_meetForm 124 = .ok (.iconst 0, 1) := by decide +kernel
theorem d_Sol_meetForm_125 : decode b_Sol_meetForm 125 = .ok (.ireturn, 1) := by decide +kernel
abbrev b_Sol_meet : ByteArray := prog_7_method_7_code
def y_Sol_meet : MethodName := ⟨R_Sol, "meet", "(I)Z"⟩
def ws_Sol_meet : List Cond := Cond.code y_Sol_meet b_Sol_meet 3 (some .boolean) :: GW
theorem hd_Sol_meet : y_Sol_meet.cls ≠ "java/lang/invoke/MethodHandle" ∧ y_Sol_meet.cls ≠ "java/lang/invoke/VarHandle" ∧ (parseMethodDescriptor y_Sol_meet.desc).map (fun d => d.parameters.length) = some 1 := by decide +kernel
theorem d_Sol_meet_0 : decode b_Sol_meet 0 = .ok (.aload_n 0, 1) := by decide +kernel
theorem d_Sol_meet_1 : decode b_Sol_meet 1 = .ok (.getfield 40, 3) := by decide +kernel
theorem d_Sol_meet_4 : decode b_Sol_meet 4 = .ok (.getfield 80, 3) := by decide +kernel
theorem d_Sol_meet_7 : decode b_Sol_meet 7 = .ok (.astore_n 2, 1) := by decide +kernel
theorem d_Sol_meet_8 : decode b_Sol_meet 8 = .ok (.aload_n 0, 1) := by decide +kernel
theorem d_Sol_meet_9 : decode b_Sol_meet 9 = .ok (.getfield 40, 3) := by decide +kernel
theorem d_Sol_meet_12 : decode b_Sol_meet 12 = .ok (.iload_n 1, 1) := by decide +kernel
theorem d_Sol_meet_13 : decode b_Sol_meet 13 = .ok (.invokevirtual 83, 3) := by decide +kernel
theorem d_Sol_meet_16 : decode b_Sol_meet 16 = .ok (.tableswitch 109 0 3 #[32, 47, 67, 86], 32) := by decide +kernel
theorem d_Sol_meet_48 : decode b_Sol_meet 48 = .ok (.aload_n 0, 1) := by decide +kernel
theorem d_Sol_meet_49 : decode b_Sol_meet 49 = .ok (.getfield 12, 3) := by decide +kernel
theorem d_Sol_meet_52 : decode b_Sol_meet 52 = .ok (.aload_n 2, 1) := by decide +kernel
theorem d_Sol_meet_53 : decode b_Sol_meet 53 = .ok (.iload_n 1, 1) := by decide +kernel
theorem d_Sol_meet_54 : decode b_Sol_meet 54 = .ok (.iconst 0, 1) := by decide +kernel
theorem d_Sol_meet_55 : decode b_Sol_meet 55 = .ok (.invokevirtual 87, 3) := by decide +kernel
theorem d_Sol_meet_58 : decode b_Sol_meet 58 = .ok (.iconst 0, 1) := by decide +kernel
theorem d_Sol_meet_59 : decode b_Sol_meet 59 = .ok (.invokevirtual 93, 3) := by decide +kernel
theorem d_Sol_meet_62 : decode b_Sol_meet 62 = .ok (.ireturn, 1) := by decide +kernel
theorem d_Sol_meet_63 : decode b_Sol_meet 63 = .ok (.aload_n 0, 1) := by decide +kernel
theorem d_Sol_meet_64 : decode b_Sol_meet 64 = .ok (.getfield 12, 3) := by decide +kernel
theorem d_Sol_meet_67 : decode b_Sol_meet 67 = .ok (.aload_n 2, 1) := by decide +kernel
theorem d_Sol_meet_68 : decode b_Sol_meet 68 = .ok (.iload_n 1, 1) := by decide +kernel
theorem d_Sol_meet_69 : decode b_Sol_meet 69 = .ok (.iconst 0, 1) := by decide +kernel
theorem d_Sol_meet_70 : decode b_Sol_meet 70 = .ok (.invokevirtual 87, 3) := by decide +kernel
theorem d_Sol_meet_73 : decode b_Sol_meet 73 = .ok (.aload_n 2, 1) := by decide +kernel
theorem d_Sol_meet_74 : decode b_Sol_meet 74 = .ok (.iload_n 1, 1) := by decide +kernel
theorem d_Sol_meet_75 : decode b_Sol_meet 75 = .ok (.iconst 1, 1) := by decide +kernel
theorem d_Sol_meet_76 : decode b_Sol_meet 76 = .ok (.invokevirtual 87, 3) := by decide +kernel
theorem d_Sol_meet_79 : decode b_Sol_meet 79 = .ok (.invokevirtual 97, 3) := by decide +kernel
theorem d_Sol_meet_82 : decode b_Sol_meet 82 = .ok (.ireturn, 1) := by decide +kernel
theorem d_Sol_meet_83 : decode b_Sol_meet 83 = .ok (.aload_n 0, 1) := by decide +kernel
theorem d_Sol_meet_84 : decode b_Sol_meet 84 = .ok (.iload_n 1, 1) := by decide +kernel
theorem d_Sol_meet_85 : decode b_Sol_meet 85 = .ok (.iconst 0, 1) := by decide +kernel
theorem d_Sol_meet_86 : decode b_Sol_meet 86 = .ok (.aload_n 0, 1) := by decide +kernel
theorem d_Sol_meet_87 : decode b_Sol_meet 87 = .ok (.getfield 36, 3) := by decide +kernel
theorem d_Sol_meet_90 : decode b_Sol_meet 90 = .ok (.aload_n 0, 1) := by decide +kernel
theorem d_Sol_meet_91 : decode b_Sol_meet 91 = .ok (.getfield 40, 3) := by decide +kernel
theorem d_Sol_meet_94 : decode b_Sol_meet 94 = .ok (.iload_n 1, 1) := by decide +kernel
theorem d_Sol_meet_95 : decode b_Sol_meet 95 = .ok (.invokevirtual 100, 3) := by decide +kernel
theorem d_Sol_meet_98 : decode b_Sol_meet 98 = .ok (.invokevirtual 103, 3) := by decide +kernel
theorem d_Sol_meet_101 : decode b_Sol_meet 101 = .ok (.ireturn, 1) := by decide +kernel
theorem d_Sol_meet_102 : decode b_Sol_meet 102 = .ok (.aload_n 0, 1) := by decide +kernel
theorem d_Sol_meet_103 : decode b_Sol_meet 103 = .ok (.iload_n 1, 1) := by decide +kernel
theorem d_Sol_meet_104 : decode b_Sol_meet 104 = .ok (.invokevirtual 107, 3) := by decide +kernel
theorem d_Sol_meet_107 : decode b_Sol_meet 107 = .ok (.iconst (-1), 1) := by decide +kernel
theorem d_Sol_meet_108 : decode b_Sol_meet 108 = .ok (.if_icmp .ne 11, 3) := by decide +kernel
theorem d_Sol_meet_111 : decode b_Sol_meet 111 = .ok (.aload_n 0, 1) := by decide +kernel
theorem d_Sol_meet_112 : decode b_Sol_meet 112 = .ok (.iload_n 1, 1) := by decide +kernel
theorem d_Sol_meet_113 : decode b_Sol_meet 113 = .ok (.invokevirtual 110, 3) := by decide +kernel
theorem d_Sol_meet_116 : decode b_Sol_meet 116 = .ok (.ifCond .eq 7, 3) := by decide +kernel
theorem d_Sol_meet_119 : decode b_Sol_meet 119 = .ok (.iconst 1, 1) := by decide +kernel
theorem d_Sol_meet_120 : decode b_Sol_meet 120 = .ok (.goto 4, 3) := by decide +kernel
theorem d_Sol_meet_123 : decode b_Sol_meet 123 = .ok (.iconst 0, 1) := by decide +kernel
theorem d_Sol_meet_124 : decode b_Sol_meet 124 = .ok (.ireturn, 1) := by decide +kernel
theorem d_Sol_meet_125 : decode b_Sol_meet 125 = .ok (.iconst 1, 1) := by decide +kernel
theorem d_Sol_meet_126 : decode b_Sol_meet 126 = .ok (.ireturn, 1) := by decide +kernel
abbrev b_Sol_goRound : ByteArray := prog_7_method_6_code
def y_Sol_goRound : MethodName := ⟨R_Sol, "goRound", "()I"⟩
def ws_Sol_goRound : List Cond := Cond.code y_Sol_goRound b_Sol_goRound 2 (some .int) :: GW
theorem hd_Sol_goRound : y_Sol_goRound.cls ≠ "java/lang/invoke/MethodHandle" ∧ y_Sol_goRound.cls ≠ "java/lang/invoke/VarHandle" ∧ (parseMethodDescriptor y_Sol_goRound.desc).map (fun d => d.parameters.length) = some 0 := by decide +kernel
theorem d_Sol_goRound_0 : decode b_Sol_goRound 0 = .ok (.iconst 0, 1) := by decide +kernel
theorem d_Sol_goRound_1 : decode b_Sol_goRound 1 = .ok (.istore_n 1, 1) := by decide +kernel
theorem d_Sol_goRound_2 : decode b_Sol_goRound 2 = .ok (.iload_n 1, 1) := by decide +kernel
theorem d_Sol_goRound_3 : decode b_Sol_goRound 3 = .ok (.aload_n 0, 1) := by decide +kernel
theorem d_Sol_goRound_4 : decode b_Sol_goRound 4 = .ok (.getfield 40, 3) := by decide +kernel
theorem d_Sol_goRound_7 : decode b_Sol_goRound 7 = .ok (.invokevirtual 71, 3) := by decide +kernel
theorem d_Sol_goRound_10 : decode b_Sol_goRound 10 = .ok (.if_icmp .ge 19, 3) := by decide +kernel
theorem d_Sol_goRound_13 : decode b_Sol_goRound 13 = .ok (.aload_n 0, 1) := by decide +kernel
theorem d_Sol_goRound_14 : decode b_Sol_goRound 14 = .ok (.iload_n 1, 1) := by decide +kernel
theorem d_Sol_goRound_15 : decode b_Sol_goRound 15 = .ok (.invokevirtual 76, 3) := by decide +kernel
theorem d_Sol_goRound_18 : decode b_Sol_goRound 18 = .ok (.ifCond .ne 5, 3) := by decide +kernel
theorem d_Sol_goRound_21 : decode b_Sol_goRound 21 = .ok (.iload_n 1, 1) := by decide +kernel
theorem d_Sol_goRound_22 : decode b_Sol_goRound 22 = .ok (.ireturn, 1) := by decide +kernel
theorem d_Sol_goRound_23 : decode b_Sol_goRound 23 = .ok (.iinc 1 1, 3) := by decide +kernel
theorem d_Sol_goRound_26 : decode b_Sol_goRound 26 = .ok (.goto (-24), 3) := by decide +kernel
theorem d_Sol_goRound_29 : decode b_Sol_goRound 29 = .ok (.iconst (-1), 1) := by decide +kernel
theorem d_Sol_goRound_30 : decode b_Sol_goRound 30 = .ok (.ireturn, 1) := by decide +kernel
abbrev b_Sol_firstWaiting : ByteArray := prog_7_method_12_code
def y_Sol_firstWaiting : MethodName := ⟨R_Sol, "firstWaiting", "()I"⟩
def ws_Sol_firstWaiting : List Cond := Cond.code y_Sol_firstWaiting b_Sol_firstWaiting 2 (some .int) :: GW
theorem hd_Sol_firstWaiting : y_Sol_firstWaiting.cls ≠ "java/lang/invoke/MethodHandle" ∧ y_Sol_firstWaiting.cls ≠ "java/lang/invoke/VarHandle" ∧ (parseMethodDescriptor y_Sol_firstWaiting.desc).map (fun d => d.parameters.length) = some 0 := by decide +kernel
theorem d_Sol_firstWaiting_0 : decode b_Sol_firstWaiting 0 = .ok (.iconst 0, 1) := by decide +kernel
theorem d_Sol_firstWaiting_1 : decode b_Sol_firstWaiting 1 = .ok (.istore_n 1, 1) := by decide +kernel
theorem d_Sol_firstWaiting_2 : decode b_Sol_firstWaiting 2 = .ok (.iload_n 1, 1) := by decide +kernel
theorem d_Sol_firstWaiting_3 : decode b_Sol_firstWaiting 3 = .ok (.aload_n 0, 1) := by decide +kernel
theorem d_Sol_firstWaiting_4 : decode b_Sol_firstWaiting 4 = .ok (.getfield 40, 3) := by decide +kernel
theorem d_Sol_firstWaiting_7 : decode b_Sol_firstWaiting 7 = .ok (.invokevirtual 71, 3) := by decide +kernel
theorem d_Sol_firstWaiting_10 : decode b_Sol_firstWaiting 10 = .ok (.if_icmp .ge 32, 3) := by decide +kernel
theorem d_Sol_firstWaiting_13 : decode b_Sol_firstWaiting 13 = .ok (.aload_n 0, 1) := by decide +kernel
theorem d_Sol_firstWaiting_14 : decode b_Sol_firstWaiting 14 = .ok (.getfield 40, 3) := by decide +kernel
theorem d_Sol_firstWaiting_17 : decode b_Sol_firstWaiting 17 = .ok (.iload_n 1, 1) := by decide +kernel
theorem d_Sol_firstWaiting_18 : decode b_Sol_firstWaiting 18 = .ok (.invokevirtual 83, 3) := by decide +kernel
theorem d_Sol_firstWaiting_21 : decode b_Sol_firstWaiting 21 = .ok (.iconst 3, 1) := by decide +kernel
theorem d_Sol_firstWaiting_22 : decode b_Sol_firstWaiting 22 = .ok (.if_icmp .ne 14, 3) := by decide +kernel
theorem d_Sol_firstWaiting_25 : decode b_Sol_firstWaiting 25 = .ok (.aload_n 0, 1) := by decide +kernel
theorem d_Sol_firstWaiting_26 : decode b_Sol_firstWaiting 26 = .ok (.iload_n 1, 1) := by decide +kernel
theorem d_Sol_firstWaiting_27 : decode b_Sol_firstWaiting 27 = .ok (.invokevirtual 107, 3) := by decide +kernel
theorem d_Sol_firstWaiting_30 : decode b_Sol_firstWaiting 30 = .ok (.iconst (-1), 1) := by decide +kernel
theorem d_Sol_firstWaiting_31 : decode b_Sol_firstWaiting 31 = .ok (.if_icmp .ne 5, 3) := by decide +kernel
theorem d_Sol_firstWaiting_34 : decode b_Sol_firstWaiting 34 = .ok (.iload_n 1, 1) := by decide +kernel
theorem d_Sol_firstWaiting_35 : decode b_Sol_firstWaiting 35 = .ok (.ireturn, 1) := by decide +kernel
theorem d_Sol_firstWaiting_36 : decode b_Sol_firstWaiting 36 = .ok (.iinc 1 1, 3) := by decide +kernel
theorem d_Sol_firstWaiting_39 : decode b_Sol_firstWaiting 39 = .ok (.goto (-37), 3) := by decide +kernel
theorem d_Sol_firstWaiting_42 : decode b_Sol_firstWaiting 42 = .ok (.iconst (-1), 1) := by decide +kernel
theorem d_Sol_firstWaiting_43 : decode b_Sol_firstWaiting 43 = .ok (.ireturn, 1) := by decide +kernel
abbrev b_Sol_leastWithoutKind : ByteArray := prog_7_method_13_code
def y_Sol_leastWithoutKind : MethodName := ⟨R_Sol, "leastWithoutKind", "()I"⟩
def ws_Sol_leastWithoutKind : List Cond := Cond.code y_Sol_leastWithoutKind b_Sol_leastWithoutKind 5 (some .int) :: GW
theorem hd_Sol_leastWithoutKind : y_Sol_leastWithoutKind.cls ≠ "java/lang/invoke/MethodHandle" ∧ y_Sol_leastWithoutKind.cls ≠ "java/lang/invoke/VarHandle" ∧ (parseMethodDescriptor y_Sol_leastWithoutKind.desc).map (fun d => d.parameters.length) = some 0 := by decide +kernel
theorem d_Sol_leastWithoutKind_0 : decode b_Sol_leastWithoutKind 0 = .ok (.bipush 80, 2) := by decide +kernel
theorem d_Sol_leastWithoutKind_2 : decode b_Sol_leastWithoutKind 2 = .ok (.istore_n 1, 1) := by decide +kernel
theorem d_Sol_leastWithoutKind_3 : decode b_Sol_leastWithoutKind 3 = .ok (.iconst 0, 1) := by decide +kernel
theorem d_Sol_leastWithoutKind_4 : decode b_Sol_leastWithoutKind 4 = .ok (.istore_n 2, 1) := by decide +kernel
theorem d_Sol_leastWithoutKind_5 : decode b_Sol_leastWithoutKind 5 = .ok (.iload_n 2, 1) := by decide +kernel
theorem d_Sol_leastWithoutKind_6 : decode b_Sol_leastWithoutKind 6 = .ok (.aload_n 0, 1) := by decide +kernel
theorem d_Sol_leastWithoutKind_7 : decode b_Sol_leastWithoutKind 7 = .ok (.getfield 40, 3) := by decide +kernel
theorem d_Sol_leastWithoutKind_10 : decode b_Sol_leastWithoutKind 10 = .ok (.invokevirtual 71, 3) := by decide +kernel
theorem d_Sol_leastWithoutKind_13 : decode b_Sol_leastWithoutKind 13 = .ok (.if_icmp .ge 66, 3) := by decide +kernel
theorem d_Sol_leastWithoutKind_16 : decode b_Sol_leastWithoutKind 16 = .ok (.iconst 0, 1) := by decide +kernel
theorem d_Sol_leastWithoutKind_17 : decode b_Sol_leastWithoutKind 17 = .ok (.istore_n 3, 1) := by decide +kernel
theorem d_Sol_leastWithoutKind_18 : decode b_Sol_leastWithoutKind 18 = .ok (.iload_n 3, 1) := by decide +kernel
theorem d_Sol_leastWithoutKind_19 : decode b_Sol_leastWithoutKind 19 = .ok (.aload_n 0, 1) := by decide +kernel
theorem d_Sol_leastWithoutKind_20 : decode b_Sol_leastWithoutKind 20 = .ok (.getfield 40, 3) := by decide +kernel
theorem d_Sol_leastWithoutKind_23 : decode b_Sol_leastWithoutKind 23 = .ok (.getfield 80, 3) := by decide +kernel
theorem d_Sol_leastWithoutKind_26 : decode b_Sol_leastWithoutKind 26 = .ok (.iload_n 2, 1) := by decide +kernel
theorem d_Sol_leastWithoutKind_27 : decode b_Sol_leastWithoutKind 27 = .ok (.invokevirtual 113, 3) := by decide +kernel
theorem d_Sol_leastWithoutKind_30 : decode b_Sol_leastWithoutKind 30 = .ok (.if_icmp .ge 43, 3) := by decide +kernel
theorem d_Sol_leastWithoutKind_33 : decode b_Sol_leastWithoutKind 33 = .ok (.aload_n 0, 1) := by decide +kernel
theorem d_Sol_leastWithoutKind_34 : decode b_Sol_leastWithoutKind 34 = .ok (.getfield 40, 3) := by decide +kernel
theorem d_Sol_leastWithoutKind_37 : decode b_Sol_leastWithoutKind 37 = .ok (.getfield 80, 3) := by decide +kernel
theorem d_Sol_leastWithoutKind_40 : decode b_Sol_leastWithoutKind 40 = .ok (.iload_n 2, 1) := by decide +kernel
theorem d_Sol_leastWithoutKind_41 : decode b_Sol_leastWithoutKind 41 = .ok (.iload_n 3, 1) := by decide +kernel
theorem d_Sol_leastWithoutKind_42 : decode b_Sol_leastWithoutKind 42 = .ok (.invokevirtual 87, 3) := by decide +kernel
theorem d_Sol_leastWithoutKind_45 : decode b_Sol_leastWithoutKind 45 = .ok (.istore 4, 2) := by decide +kernel
theorem d_Sol_leastWithoutKind_47 : decode b_Sol_leastWithoutKind 47 = .ok (.aload_n 0, 1) := by decide +kernel
theorem d_Sol_leastWithoutKind_48 : decode b_Sol_leastWithoutKind 48 = .ok (.getfield 12, 3) := by decide +kernel
theorem d_Sol_leastWithoutKind_51 : decode b_Sol_leastWithoutKind 51 = .ok (.iload 4, 2) := by decide +kernel
theorem d_Sol_leastWithoutKind_53 : decode b_Sol_leastWithoutKind 53 = .ok (.invokevirtual 139, 3) := by decide +kernel
theorem d_Sol_leastWithoutKind_56 : decode b_Sol_leastWithoutKind 56 = .ok (.iconst (-1), 1) := by decide +kernel
theorem d_Sol_leastWithoutKind_57 : decode b_Sol_leastWithoutKind 57 = .ok (.if_icmp .ne 10, 3) := by decide +kernel
theorem d_Sol_leastWithoutKind_60 : decode b_Sol_leastWithoutKind 60 = .ok (.iload_n 1, 1) := by decide +kernel
theorem d_Sol_leastWithoutKind_61 : decode b_Sol_leastWithoutKind 61 = .ok (.iload 4, 2) := by decide +kernel
theorem d_Sol_leastWithoutKind_63 : decode b_Sol_leastWithoutKind 63 = .ok (.invokestatic 140, 3) := by decide +kernel
theorem d_Sol_leastWithoutKind_66 : decode b_Sol_leastWithoutKind 66 = .ok (.istore_n 1, 1) := by decide +kernel
theorem d_Sol_leastWithoutKind_67 : decode b_Sol_leastWithoutKind 67 = .ok (.iinc 3 1, 3) := by decide +kernel
theorem d_Sol_leastWithoutKind_70 : decode b_Sol_leastWithoutKind 70 = .ok (.goto (-52), 3) := by decide +kernel
theorem d_Sol_leastWithoutKind_73 : decode b_Sol_leastWithoutKind 73 = .ok (.iinc 2 1, 3) := by decide +kernel
theorem d_Sol_leastWithoutKind_76 : decode b_Sol_leastWithoutKind 76 = .ok (.goto (-71), 3) := by decide +kernel
theorem d_Sol_leastWithoutKind_79 : decode b_Sol_leastWithoutKind 79 = .ok (.iload_n 1, 1) := by decide +kernel
theorem d_Sol_leastWithoutKind_80 : decode b_Sol_leastWithoutKind 80 = .ok (.bipush 80, 2) := by decide +kernel
theorem d_Sol_leastWithoutKind_82 : decode b_Sol_leastWithoutKind 82 = .ok (.if_icmp .ge 7, 3) := by decide +kernel
theorem d_Sol_leastWithoutKind_85 : decode b_Sol_leastWithoutKind 85 = .ok (.iload_n 1, 1) := by decide +kernel
theorem d_Sol_leastWithoutKind_86 : decode b_Sol_leastWithoutKind 86 = .ok (.goto 4, 3) := by decide +kernel
theorem d_Sol_leastWithoutKind_89 : decode b_Sol_leastWithoutKind 89 = .ok (.iconst (-1), 1) := by decide +kernel
theorem d_Sol_leastWithoutKind_90 : decode b_Sol_leastWithoutKind 90 = .ok (.ireturn, 1) := by decide +kernel
abbrev b_Sol_run : ByteArray := prog_7_method_3_code
def y_Sol_run : MethodName := ⟨R_Sol, "run", "()I"⟩
def ws_Sol_run : List Cond := Cond.code y_Sol_run b_Sol_run 2 (some .int) :: GW
theorem hd_Sol_run : y_Sol_run.cls ≠ "java/lang/invoke/MethodHandle" ∧ y_Sol_run.cls ≠ "java/lang/invoke/VarHandle" ∧ (parseMethodDescriptor y_Sol_run.desc).map (fun d => d.parameters.length) = some 0 := by decide +kernel
theorem d_Sol_run_0 : decode b_Sol_run 0 = .ok (.aload_n 0, 1) := by decide +kernel
theorem d_Sol_run_1 : decode b_Sol_run 1 = .ok (.invokevirtual 44, 3) := by decide +kernel
theorem d_Sol_run_4 : decode b_Sol_run 4 = .ok (.iconst (-1), 1) := by decide +kernel
theorem d_Sol_run_5 : decode b_Sol_run 5 = .ok (.istore_n 1, 1) := by decide +kernel
theorem d_Sol_run_6 : decode b_Sol_run 6 = .ok (.aload_n 0, 1) := by decide +kernel
theorem d_Sol_run_7 : decode b_Sol_run 7 = .ok (.getfield 26, 3) := by decide +kernel
theorem d_Sol_run_10 : decode b_Sol_run 10 = .ok (.sipush 361, 3) := by decide +kernel
theorem d_Sol_run_13 : decode b_Sol_run 13 = .ok (.if_icmp .ge 45, 3) := by decide +kernel
theorem d_Sol_run_16 : decode b_Sol_run 16 = .ok (.aload_n 0, 1) := by decide +kernel
theorem d_Sol_run_17 : decode b_Sol_run 17 = .ok (.getfield 29, 3) := by decide +kernel
theorem d_Sol_run_20 : decode b_Sol_run 20 = .ok (.iconst (-1), 1) := by decide +kernel
theorem d_Sol_run_21 : decode b_Sol_run 21 = .ok (.if_icmp .ne 37, 3) := by decide +kernel
theorem d_Sol_run_24 : decode b_Sol_run 24 = .ok (.iload_n 1, 1) := by decide +kernel
theorem d_Sol_run_25 : decode b_Sol_run 25 = .ok (.aload_n 0, 1) := by decide +kernel
theorem d_Sol_run_26 : decode b_Sol_run 26 = .ok (.invokevirtual 47, 3) := by decide +kernel
theorem d_Sol_run_29 : decode b_Sol_run 29 = .ok (.if_icmp .eq 29, 3) := by decide +kernel
theorem d_Sol_run_32 : decode b_Sol_run 32 = .ok (.aload_n 0, 1) := by decide +kernel
theorem d_Sol_run_33 : decode b_Sol_run 33 = .ok (.invokevirtual 47, 3) := by decide +kernel
theorem d_Sol_run_36 : decode b_Sol_run 36 = .ok (.istore_n 1, 1) := by decide +kernel
theorem d_Sol_run_37 : decode b_Sol_run 37 = .ok (.aload_n 0, 1) := by decide +kernel
theorem d_Sol_run_38 : decode b_Sol_run 38 = .ok (.dup, 1) := by decide +kernel
theorem d_Sol_run_39 : decode b_Sol_run 39 = .ok (.getfield 26, 3) := by decide +kernel
theorem d_Sol_run_42 : decode b_Sol_run 42 = .ok (.iconst 1, 1) := by decide +kernel
theorem d_Sol_run_43 : decode b_Sol_run 43 = .ok (.iadd, 1) := by decide +kernel
theorem d_Sol_run_44 : decode b_Sol_run 44 = .ok (.putfield 26, 3) := by decide +kernel
theorem d_Sol_run_47 : decode b_Sol_run 47 = .ok (.aload_n 0, 1) := by decide +kernel
theorem d_Sol_run_48 : decode b_Sol_run 48 = .ok (.aload_n 0, 1) := by decide +kernel
theorem d_Sol_run_49 : decode b_Sol_run 49 = .ok (.invokevirtual 51, 3) := by decide +kernel
theorem d_Sol_run_52 : decode b_Sol_run 52 = .ok (.putfield 29, 3) := by decide +kernel
theorem d_Sol_run_55 : decode b_Sol_run 55 = .ok (.goto (-49), 3) := by decide +kernel
theorem d_Sol_run_58 : decode b_Sol_run 58 = .ok (.aload_n 0, 1) := by decide +kernel
theorem d_Sol_run_59 : decode b_Sol_run 59 = .ok (.getfield 29, 3) := by decide +kernel
theorem d_Sol_run_62 : decode b_Sol_run 62 = .ok (.iconst (-1), 1) := by decide +kernel
theorem d_Sol_run_63 : decode b_Sol_run 63 = .ok (.if_icmp .eq 5, 3) := by decide +kernel
theorem d_Sol_run_66 : decode b_Sol_run 66 = .ok (.iconst 1, 1) := by decide +kernel
theorem d_Sol_run_67 : decode b_Sol_run 67 = .ok (.ireturn, 1) := by decide +kernel
theorem d_Sol_run_68 : decode b_Sol_run 68 = .ok (.aload_n 0, 1) := by decide +kernel
theorem d_Sol_run_69 : decode b_Sol_run 69 = .ok (.aload_n 0, 1) := by decide +kernel
theorem d_Sol_run_70 : decode b_Sol_run 70 = .ok (.invokevirtual 54, 3) := by decide +kernel
theorem d_Sol_run_73 : decode b_Sol_run 73 = .ok (.putfield 29, 3) := by decide +kernel
theorem d_Sol_run_76 : decode b_Sol_run 76 = .ok (.aload_n 0, 1) := by decide +kernel
theorem d_Sol_run_77 : decode b_Sol_run 77 = .ok (.getfield 29, 3) := by decide +kernel
theorem d_Sol_run_80 : decode b_Sol_run 80 = .ok (.iconst (-1), 1) := by decide +kernel
theorem d_Sol_run_81 : decode b_Sol_run 81 = .ok (.if_icmp .eq 5, 3) := by decide +kernel
theorem d_Sol_run_84 : decode b_Sol_run 84 = .ok (.iconst 2, 1) := by decide +kernel
theorem d_Sol_run_85 : decode b_Sol_run 85 = .ok (.ireturn, 1) := by decide +kernel
theorem d_Sol_run_86 : decode b_Sol_run 86 = .ok (.aload_n 0, 1) := by decide +kernel
theorem d_Sol_run_87 : decode b_Sol_run 87 = .ok (.aload_n 0, 1) := by decide +kernel
theorem d_Sol_run_88 : decode b_Sol_run 88 = .ok (.invokevirtual 57, 3) := by decide +kernel
theorem d_Sol_run_91 : decode b_Sol_run 91 = .ok (.putfield 29, 3) := by decide +kernel
theorem d_Sol_run_94 : decode b_Sol_run 94 = .ok (.aload_n 0, 1) := by decide +kernel
theorem d_Sol_run_95 : decode b_Sol_run 95 = .ok (.getfield 29, 3) := by decide +kernel
theorem d_Sol_run_98 : decode b_Sol_run 98 = .ok (.iconst (-1), 1) := by decide +kernel
theorem d_Sol_run_99 : decode b_Sol_run 99 = .ok (.if_icmp .eq 7, 3) := by decide +kernel
theorem d_Sol_run_102 : decode b_Sol_run 102 = .ok (.iconst 3, 1) := by decide +kernel
theorem d_Sol_run_103 : decode b_Sol_run 103 = .ok (.goto 4, 3) := by decide +kernel
theorem d_Sol_run_106 : decode b_Sol_run 106 = .ok (.iconst 0, 1) := by decide +kernel
theorem d_Sol_run_107 : decode b_Sol_run 107 = .ok (.ireturn, 1) := by decide +kernel
