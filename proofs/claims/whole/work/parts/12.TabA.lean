abbrev b_Tab_init : ByteArray := prog_8_method_1_code
def y_Tab_init : MethodName := ⟨R_Tab, "<init>", "(I)V"⟩
def ws_Tab_init : List Cond := Cond.code y_Tab_init b_Tab_init 3 none :: GW
theorem hd_Tab_init : y_Tab_init.cls ≠ "java/lang/invoke/MethodHandle" ∧ y_Tab_init.cls ≠ "java/lang/invoke/VarHandle" ∧ (parseMethodDescriptor y_Tab_init.desc).map (fun d => d.parameters.length) = some 1 := by decide +kernel
theorem d_Tab_init_0 : decode b_Tab_init 0 = .ok (.aload_n 0, 1) := by decide +kernel
theorem d_Tab_init_1 : decode b_Tab_init 1 = .ok (.invokespecial 3, 3) := by decide +kernel
theorem d_Tab_init_4 : decode b_Tab_init 4 = .ok (.aload_n 0, 1) := by decide +kernel
theorem d_Tab_init_5 : decode b_Tab_init 5 = .ok (.iconst 0, 1) := by decide +kernel
theorem d_Tab_init_6 : decode b_Tab_init 6 = .ok (.putfield 9, 3) := by decide +kernel
theorem d_Tab_init_9 : decode b_Tab_init 9 = .ok (.iconst 0, 1) := by decide +kernel
theorem d_Tab_init_10 : decode b_Tab_init 10 = .ok (.iload_n 1, 1) := by decide +kernel
theorem d_Tab_init_11 : decode b_Tab_init 11 = .ok (.invokestatic 15, 3) := by decide +kernel
theorem d_Tab_init_14 : decode b_Tab_init 14 = .ok (.istore_n 2, 1) := by decide +kernel
theorem d_Tab_init_15 : decode b_Tab_init 15 = .ok (.aload_n 0, 1) := by decide +kernel
theorem d_Tab_init_16 : decode b_Tab_init 16 = .ok (.iload_n 2, 1) := by decide +kernel
theorem d_Tab_init_17 : decode b_Tab_init 17 = .ok (.newarray .int, 2) := by decide +kernel
theorem d_Tab_init_19 : decode b_Tab_init 19 = .ok (.putfield 21, 3) := by decide +kernel
theorem d_Tab_init_22 : decode b_Tab_init 22 = .ok (.aload_n 0, 1) := by decide +kernel
theorem d_Tab_init_23 : decode b_Tab_init 23 = .ok (.iload_n 2, 1) := by decide +kernel
theorem d_Tab_init_24 : decode b_Tab_init 24 = .ok (.bipush 6, 2) := by decide +kernel
theorem d_Tab_init_26 : decode b_Tab_init 26 = .ok (.imul, 1) := by decide +kernel
theorem d_Tab_init_27 : decode b_Tab_init 27 = .ok (.newarray .int, 2) := by decide +kernel
theorem d_Tab_init_29 : decode b_Tab_init 29 = .ok (.putfield 25, 3) := by decide +kernel
theorem d_Tab_init_32 : decode b_Tab_init 32 = .ok (.return_, 1) := by decide +kernel
abbrev b_Tab_open : ByteArray := prog_8_method_2_code
def y_Tab_open : MethodName := ⟨R_Tab, "open", "()I"⟩
def ws_Tab_open : List Cond := Cond.code y_Tab_open b_Tab_open 1 (some .int) :: GW
theorem hd_Tab_open : y_Tab_open.cls ≠ "java/lang/invoke/MethodHandle" ∧ y_Tab_open.cls ≠ "java/lang/invoke/VarHandle" ∧ (parseMethodDescriptor y_Tab_open.desc).map (fun d => d.parameters.length) = some 0 := by decide +kernel
theorem d_Tab_open_0 : decode b_Tab_open 0 = .ok (.aload_n 0, 1) := by decide +kernel
theorem d_Tab_open_1 : decode b_Tab_open 1 = .ok (.getfield 9, 3) := by decide +kernel
theorem d_Tab_open_4 : decode b_Tab_open 4 = .ok (.aload_n 0, 1) := by decide +kernel
theorem d_Tab_open_5 : decode b_Tab_open 5 = .ok (.getfield 21, 3) := by decide +kernel
theorem d_Tab_open_8 : decode b_Tab_open 8 = .ok (.arraylength, 1) := by decide +kernel
theorem d_Tab_open_9 : decode b_Tab_open 9 = .ok (.if_icmp .lt 5, 3) := by decide +kernel
theorem d_Tab_open_12 : decode b_Tab_open 12 = .ok (.iconst (-1), 1) := by decide +kernel
theorem d_Tab_open_13 : decode b_Tab_open 13 = .ok (.ireturn, 1) := by decide +kernel
theorem d_Tab_open_14 : decode b_Tab_open 14 = .ok (.aload_n 0, 1) := by decide +kernel
theorem d_Tab_open_15 : decode b_Tab_open 15 = .ok (.getfield 21, 3) := by decide +kernel
theorem d_Tab_open_18 : decode b_Tab_open 18 = .ok (.aload_n 0, 1) := by decide +kernel
theorem d_Tab_open_19 : decode b_Tab_open 19 = .ok (.getfield 9, 3) := by decide +kernel
theorem d_Tab_open_22 : decode b_Tab_open 22 = .ok (.iconst 0, 1) := by decide +kernel
theorem d_Tab_open_23 : decode b_Tab_open 23 = .ok (.iastore, 1) := by decide +kernel
theorem d_Tab_open_24 : decode b_Tab_open 24 = .ok (.aload_n 0, 1) := by decide +kernel
theorem d_Tab_open_25 : decode b_Tab_open 25 = .ok (.dup, 1) := by decide +kernel
theorem d_Tab_open_26 : decode b_Tab_open 26 = .ok (.getfield 9, 3) := by decide +kernel
theorem d_Tab_open_29 : decode b_Tab_open 29 = .ok (.iconst 1, 1) := by decide +kernel
theorem d_Tab_open_30 : decode b_Tab_open 30 = .ok (.iadd, 1) := by decide +kernel
theorem d_Tab_open_31 : decode b_Tab_open 31 = .ok (.putfield 9, 3) := by decide +kernel
theorem d_Tab_open_34 : decode b_Tab_open 34 = .ok (.aload_n 0, 1) := by decide +kernel
theorem d_Tab_open_35 : decode b_Tab_open 35 = .ok (.getfield 9, 3) := by decide +kernel
theorem d_Tab_open_38 : decode b_Tab_open 38 = .ok (.iconst 1, 1) := by decide +kernel
theorem d_Tab_open_39 : decode b_Tab_open 39 = .ok (.isub, 1) := by decide +kernel
theorem d_Tab_open_40 : decode b_Tab_open 40 = .ok (.ireturn, 1) := by decide +kernel
abbrev b_Tab_append : ByteArray := prog_8_method_3_code
def y_Tab_append : MethodName := ⟨R_Tab, "append", "(I)V"⟩
def ws_Tab_append : List Cond := Cond.code y_Tab_append b_Tab_append 3 none :: GW
theorem hd_Tab_append : y_Tab_append.cls ≠ "java/lang/invoke/MethodHandle" ∧ y_Tab_append.cls ≠ "java/lang/invoke/VarHandle" ∧ (parseMethodDescriptor y_Tab_append.desc).map (fun d => d.parameters.length) = some 1 := by decide +kernel
theorem d_Tab_append_0 : decode b_Tab_append 0 = .ok (.aload_n 0, 1) := by decide +kernel
theorem d_Tab_append_1 : decode b_Tab_append 1 = .ok (.getfield 9, 3) := by decide +kernel
theorem d_Tab_append_4 : decode b_Tab_append 4 = .ok (.iconst 1, 1) := by decide +kernel
theorem d_Tab_append_5 : decode b_Tab_append 5 = .ok (.isub, 1) := by decide +kernel
theorem d_Tab_append_6 : decode b_Tab_append 6 = .ok (.istore_n 2, 1) := by decide +kernel
theorem d_Tab_append_7 : decode b_Tab_append 7 = .ok (.iload_n 2, 1) := by decide +kernel
theorem d_Tab_append_8 : decode b_Tab_append 8 = .ok (.ifCond .lt 14, 3) := by decide +kernel
theorem d_Tab_append_11 : decode b_Tab_append 11 = .ok (.aload_n 0, 1) := by decide +kernel
theorem d_Tab_append_12 : decode b_Tab_append 12 = .ok (.getfield 21, 3) := by decide +kernel
theorem d_Tab_append_15 : decode b_Tab_append 15 = .ok (.iload_n 2, 1) := by decide +kernel
theorem d_Tab_append_16 : decode b_Tab_append 16 = .ok (.iaload, 1) := by decide +kernel
theorem d_Tab_append_17 : decode b_Tab_append 17 = .ok (.bipush 6, 2) := by decide +kernel
theorem d_Tab_append_19 : decode b_Tab_append 19 = .ok (.if_icmp .lt 4, 3) := by decide +kernel
theorem d_Tab_append_22 : decode b_Tab_append 22 = .ok (.return_, 1) := by decide +kernel
theorem d_Tab_append_23 : decode b_Tab_append 23 = .ok (.aload_n 0, 1) := by decide +kernel
theorem d_Tab_append_24 : decode b_Tab_append 24 = .ok (.getfield 25, 3) := by decide +kernel
theorem d_Tab_append_27 : decode b_Tab_append 27 = .ok (.iload_n 2, 1) := by decide +kernel
theorem d_Tab_append_28 : decode b_Tab_append 28 = .ok (.bipush 6, 2) := by decide +kernel
theorem d_Tab_append_30 : decode b_Tab_append 30 = .ok (.imul, 1) := by decide +kernel
theorem d_Tab_append_31 : decode b_Tab_append 31 = .ok (.aload_n 0, 1) := by decide +kernel
theorem d_Tab_append_32 : decode b_Tab_append 32 = .ok (.getfield 21, 3) := by decide +kernel
theorem d_Tab_append_35 : decode b_Tab_append 35 = .ok (.iload_n 2, 1) := by decide +kernel
theorem d_Tab_append_36 : decode b_Tab_append 36 = .ok (.iaload, 1) := by decide +kernel
theorem d_Tab_append_37 : decode b_Tab_append 37 = .ok (.iadd, 1) := by decide +kernel
theorem d_Tab_append_38 : decode b_Tab_append 38 = .ok (.iload_n 1, 1) := by decide +kernel
theorem d_Tab_append_39 : decode b_Tab_append 39 = .ok (.iastore, 1) := by decide +kernel
theorem d_Tab_append_40 : decode b_Tab_append 40 = .ok (.aload_n 0, 1) := by decide +kernel
theorem d_Tab_append_41 : decode b_Tab_append 41 = .ok (.getfield 21, 3) := by decide +kernel
theorem d_Tab_append_44 : decode b_Tab_append 44 = .ok (.iload_n 2, 1) := by decide +kernel
theorem d_Tab_append_45 : decode b_Tab_append 45 = .ok (.dup2, 1) := by decide +kernel
theorem d_Tab_append_46 : decode b_Tab_append 46 = .ok (.iaload, 1) := by decide +kernel
theorem d_Tab_append_47 : decode b_Tab_append 47 = .ok (.iconst 1, 1) := by decide +kernel
theorem d_Tab_append_48 : decode b_Tab_append 48 = .ok (.iadd, 1) := by decide +kernel
theorem d_Tab_append_49 : decode b_Tab_append 49 = .ok (.iastore, 1) := by decide +kernel
theorem d_Tab_append_50 : decode b_Tab_append 50 = .ok (.return_, 1) := by decide +kernel
abbrev b_Tab_appendAll : ByteArray := prog_8_method_4_code
def y_Tab_appendAll : MethodName := ⟨R_Tab, "appendAll", "(LKindDesk$Row;)V"⟩
def ws_Tab_appendAll : List Cond := Cond.code y_Tab_appendAll b_Tab_appendAll 3 none :: GW
theorem hd_Tab_appendAll : y_Tab_appendAll.cls ≠ "java/lang/invoke/MethodHandle" ∧ y_Tab_appendAll.cls ≠ "java/lang/invoke/VarHandle" ∧ (parseMethodDescriptor y_Tab_appendAll.desc).map (fun d => d.parameters.length) = some 1 := by decide +kernel
theorem d_Tab_appendAll_0 : decode b_Tab_appendAll 0 = .ok (.iconst 0, 1) := by decide +kernel
theorem d_Tab_appendAll_1 : decode b_Tab_appendAll 1 = .ok (.istore_n 2, 1) := by decide +kernel
theorem d_Tab_appendAll_2 : decode b_Tab_appendAll 2 = .ok (.iload_n 2, 1) := by decide +kernel
theorem d_Tab_appendAll_3 : decode b_Tab_appendAll 3 = .ok (.aload_n 1, 1) := by decide +kernel
theorem d_Tab_appendAll_4 : decode b_Tab_appendAll 4 = .ok (.getfield 28, 3) := by decide +kernel
theorem d_Tab_appendAll_7 : decode b_Tab_appendAll 7 = .ok (.if_icmp .ge 19, 3) := by decide +kernel
theorem d_Tab_appendAll_10 : decode b_Tab_appendAll 10 = .ok (.aload_n 0, 1) := by decide +kernel
theorem d_Tab_appendAll_11 : decode b_Tab_appendAll 11 = .ok (.aload_n 1, 1) := by decide +kernel
theorem d_Tab_appendAll_12 : decode b_Tab_appendAll 12 = .ok (.getfield 31, 3) := by decide +kernel
theorem d_Tab_appendAll_15 : decode b_Tab_appendAll 15 = .ok (.iload_n 2, 1) := by decide +kernel
theorem d_Tab_appendAll_16 : decode b_Tab_appendAll 16 = .ok (.iaload, 1) := by decide +kernel
theorem d_Tab_appendAll_17 : decode b_Tab_appendAll 17 = .ok (.invokevirtual 34, 3) := by decide +kernel
theorem d_Tab_appendAll_20 : decode b_Tab_appendAll 20 = .ok (.iinc 2 1, 3) := by decide +kernel
theorem d_Tab_appendAll_23 : decode b_Tab_appendAll 23 = .ok (.goto (-21), 3) := by decide +kernel
theorem d_Tab_appendAll_26 : decode b_Tab_appendAll 26 = .ok (.return_, 1) := by decide +kernel
abbrev b_Tab_length : ByteArray := prog_8_method_5_code
def y_Tab_length : MethodName := ⟨R_Tab, "length", "(I)I"⟩
def ws_Tab_length : List Cond := Cond.code y_Tab_length b_Tab_length 2 (some .int) :: GW
theorem hd_Tab_length : y_Tab_length.cls ≠ "java/lang/invoke/MethodHandle" ∧ y_Tab_length.cls ≠ "java/lang/invoke/VarHandle" ∧ (parseMethodDescriptor y_Tab_length.desc).map (fun d => d.parameters.length) = some 1 := by decide +kernel
theorem d_Tab_length_0 : decode b_Tab_length 0 = .ok (.iload_n 1, 1) := by decide +kernel
theorem d_Tab_length_1 : decode b_Tab_length 1 = .ok (.ifCond .lt 20, 3) := by decide +kernel
theorem d_Tab_length_4 : decode b_Tab_length 4 = .ok (.iload_n 1, 1) := by decide +kernel
theorem d_Tab_length_5 : decode b_Tab_length 5 = .ok (.aload_n 0, 1) := by decide +kernel
theorem d_Tab_length_6 : decode b_Tab_length 6 = .ok (.getfield 9, 3) := by decide +kernel
theorem d_Tab_length_9 : decode b_Tab_length 9 = .ok (.if_icmp .ge 12, 3) := by decide +kernel
theorem d_Tab_length_12 : decode b_Tab_length 12 = .ok (.aload_n 0, 1) := by decide +kernel
theorem d_Tab_length_13 : decode b_Tab_length 13 = .ok (.getfield 21, 3) := by decide +kernel
theorem d_Tab_length_16 : decode b_Tab_length 16 = .ok (.iload_n 1, 1) := by decide +kernel
theorem d_Tab_length_17 : decode b_Tab_length 17 = .ok (.iaload, 1) := by decide +kernel
theorem d_Tab_length_18 : decode b_Tab_length 18 = .ok (.goto 4, 3) := by decide +kernel
theorem d_Tab_length_21 : decode b_Tab_length 21 = .ok (.iconst (-1), 1) := by decide +kernel
theorem d_Tab_length_22 : decode b_Tab_length 22 = .ok (.ireturn, 1) := by decide +kernel
abbrev b_Tab_at : ByteArray := prog_8_method_6_code
def y_Tab_at : MethodName := ⟨R_Tab, "at", "(II)I"⟩
def ws_Tab_at : List Cond := Cond.code y_Tab_at b_Tab_at 3 (some .int) :: GW
theorem hd_Tab_at : y_Tab_at.cls ≠ "java/lang/invoke/MethodHandle" ∧ y_Tab_at.cls ≠ "java/lang/invoke/VarHandle" ∧ (parseMethodDescriptor y_Tab_at.desc).map (fun d => d.parameters.length) = some 2 := by decide +kernel
theorem d_Tab_at_0 : decode b_Tab_at 0 = .ok (.iload_n 1, 1) := by decide +kernel
theorem d_Tab_at_1 : decode b_Tab_at 1 = .ok (.ifCond .lt 25, 3) := by decide +kernel
theorem d_Tab_at_4 : decode b_Tab_at 4 = .ok (.iload_n 1, 1) := by decide +kernel
theorem d_Tab_at_5 : decode b_Tab_at 5 = .ok (.aload_n 0, 1) := by decide +kernel
theorem d_Tab_at_6 : decode b_Tab_at 6 = .ok (.getfield 9, 3) := by decide +kernel
theorem d_Tab_at_9 : decode b_Tab_at 9 = .ok (.if_icmp .ge 17, 3) := by decide +kernel
theorem d_Tab_at_12 : decode b_Tab_at 12 = .ok (.iload_n 2, 1) := by decide +kernel
theorem d_Tab_at_13 : decode b_Tab_at 13 = .ok (.ifCond .lt 13, 3) := by decide +kernel
theorem d_Tab_at_16 : decode b_Tab_at 16 = .ok (.iload_n 2, 1) := by decide +kernel
theorem d_Tab_at_17 : decode b_Tab_at 17 = .ok (.aload_n 0, 1) := by decide +kernel
theorem d_Tab_at_18 : decode b_Tab_at 18 = .ok (.getfield 21, 3) := by decide +kernel
theorem d_Tab_at_21 : decode b_Tab_at 21 = .ok (.iload_n 1, 1) := by decide +kernel
theorem d_Tab_at_22 : decode b_Tab_at 22 = .ok (.iaload, 1) := by decide +kernel
theorem d_Tab_at_23 : decode b_Tab_at 23 = .ok (.if_icmp .lt 5, 3) := by decide +kernel
theorem d_Tab_at_26 : decode b_Tab_at 26 = .ok (.iconst (-1), 1) := by decide +kernel
theorem d_Tab_at_27 : decode b_Tab_at 27 = .ok (.ireturn, 1) := by decide +kernel
theorem d_Tab_at_28 : decode b_Tab_at 28 = .ok (.aload_n 0, 1) := by decide +kernel
theorem d_Tab_at_29 : decode b_Tab_at 29 = .ok (.getfield 25, 3) := by decide +kernel
theorem d_Tab_at_32 : decode b_Tab_at 32 = .ok (.iload_n 1, 1) := by decide +kernel
theorem d_Tab_at_33 : decode b_Tab_at 33 = .ok (.bipush 6, 2) := by decide +kernel
theorem d_Tab_at_35 : decode b_Tab_at 35 = .ok (.imul, 1) := by decide +kernel
theorem d_Tab_at_36 : decode b_Tab_at 36 = .ok (.iload_n 2, 1) := by decide +kernel
theorem d_Tab_at_37 : decode b_Tab_at 37 = .ok (.iadd, 1) := by decide +kernel
theorem d_Tab_at_38 : decode b_Tab_at 38 = .ok (.iaload, 1) := by decide +kernel
theorem d_Tab_at_39 : decode b_Tab_at 39 = .ok (.ireturn, 1) := by decide +kernel
