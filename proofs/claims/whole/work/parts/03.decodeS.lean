abbrev b_S_init : ByteArray := prog_2_method_1_code
def y_S_init : MethodName := ⟨"AgedMarks$Slots", "<init>", "()V"⟩
theorem d_S_init_0 : decode b_S_init 0 = .ok (.aload_n 0, 1) := by decide +kernel
theorem d_S_init_1 : decode b_S_init 1 = .ok (.invokespecial 3, 3) := by decide +kernel
theorem d_S_init_4 : decode b_S_init 4 = .ok (.aload_n 0, 1) := by decide +kernel
theorem d_S_init_5 : decode b_S_init 5 = .ok (.iconst 5, 1) := by decide +kernel
theorem d_S_init_6 : decode b_S_init 6 = .ok (.newarray .long, 2) := by decide +kernel
theorem d_S_init_8 : decode b_S_init 8 = .ok (.putfield 9, 3) := by decide +kernel
theorem d_S_init_11 : decode b_S_init 11 = .ok (.return_, 1) := by decide +kernel
abbrev b_S_takeLeast : ByteArray := prog_2_method_2_code
def y_S_takeLeast : MethodName := ⟨"AgedMarks$Slots", "takeLeast", "()I"⟩
theorem d_S_takeLeast_0 : decode b_S_takeLeast 0 = .ok (.iconst 0, 1) := by decide +kernel
theorem d_S_takeLeast_1 : decode b_S_takeLeast 1 = .ok (.istore_n 1, 1) := by decide +kernel
theorem d_S_takeLeast_2 : decode b_S_takeLeast 2 = .ok (.iload_n 1, 1) := by decide +kernel
theorem d_S_takeLeast_3 : decode b_S_takeLeast 3 = .ok (.iconst 5, 1) := by decide +kernel
theorem d_S_takeLeast_4 : decode b_S_takeLeast 4 = .ok (.if_icmp .ge 56, 3) := by decide +kernel
theorem d_S_takeLeast_7 : decode b_S_takeLeast 7 = .ok (.aload_n 0, 1) := by decide +kernel
theorem d_S_takeLeast_8 : decode b_S_takeLeast 8 = .ok (.getfield 9, 3) := by decide +kernel
theorem d_S_takeLeast_11 : decode b_S_takeLeast 11 = .ok (.iload_n 1, 1) := by decide +kernel
theorem d_S_takeLeast_12 : decode b_S_takeLeast 12 = .ok (.laload, 1) := by decide +kernel
theorem d_S_takeLeast_13 : decode b_S_takeLeast 13 = .ok (.ldc2_w 15, 3) := by decide +kernel
theorem d_S_takeLeast_16 : decode b_S_takeLeast 16 = .ok (.lxor, 1) := by decide +kernel
theorem d_S_takeLeast_17 : decode b_S_takeLeast 17 = .ok (.lstore_n 2, 1) := by decide +kernel
theorem d_S_takeLeast_18 : decode b_S_takeLeast 18 = .ok (.lload_n 2, 1) := by decide +kernel
theorem d_S_takeLeast_19 : decode b_S_takeLeast 19 = .ok (.lconst 0, 1) := by decide +kernel
theorem d_S_takeLeast_20 : decode b_S_takeLeast 20 = .ok (.lcmp, 1) := by decide +kernel
theorem d_S_takeLeast_21 : decode b_S_takeLeast 21 = .ok (.ifCond .eq 33, 3) := by decide +kernel
theorem d_S_takeLeast_24 : decode b_S_takeLeast 24 = .ok (.lload_n 2, 1) := by decide +kernel
theorem d_S_takeLeast_25 : decode b_S_takeLeast 25 = .ok (.lload_n 2, 1) := by decide +kernel
theorem d_S_takeLeast_26 : decode b_S_takeLeast 26 = .ok (.lneg, 1) := by decide +kernel
theorem d_S_takeLeast_27 : decode b_S_takeLeast 27 = .ok (.land, 1) := by decide +kernel
theorem d_S_takeLeast_28 : decode b_S_takeLeast 28 = .ok (.lstore 4, 2) := by decide +kernel
theorem d_S_takeLeast_30 : decode b_S_takeLeast 30 = .ok (.aload_n 0, 1) := by decide +kernel
theorem d_S_takeLeast_31 : decode b_S_takeLeast 31 = .ok (.getfield 9, 3) := by decide +kernel
theorem d_S_takeLeast_34 : decode b_S_takeLeast 34 = .ok (.iload_n 1, 1) := by decide +kernel
theorem d_S_takeLeast_35 : decode b_S_takeLeast 35 = .ok (.dup2, 1) := by decide +kernel
theorem d_S_takeLeast_36 : decode b_S_takeLeast 36 = .ok (.laload, 1) := by decide +kernel
theorem d_S_takeLeast_37 : decode b_S_takeLeast 37 = .ok (.lload 4, 2) := by decide +kernel
theorem d_S_takeLeast_39 : decode b_S_takeLeast 39 = .ok (.lor, 1) := by decide +kernel
theorem d_S_takeLeast_40 : decode b_S_takeLeast 40 = .ok (.lastore, 1) := by decide +kernel
theorem d_S_takeLeast_41 : decode b_S_takeLeast 41 = .ok (.iload_n 1, 1) := by decide +kernel
theorem d_S_takeLeast_42 : decode b_S_takeLeast 42 = .ok (.bipush 64, 2) := by decide +kernel
theorem d_S_takeLeast_44 : decode b_S_takeLeast 44 = .ok (.imul, 1) := by decide +kernel
theorem d_S_takeLeast_45 : decode b_S_takeLeast 45 = .ok (.lload 4, 2) := by decide +kernel
theorem d_S_takeLeast_47 : decode b_S_takeLeast 47 = .ok (.lconst 1, 1) := by decide +kernel
theorem d_S_takeLeast_48 : decode b_S_takeLeast 48 = .ok (.lsub, 1) := by decide +kernel
theorem d_S_takeLeast_49 : decode b_S_takeLeast 49 = .ok (.invokestatic 17, 3) := by decide +kernel
theorem d_S_takeLeast_52 : decode b_S_takeLeast 52 = .ok (.iadd, 1) := by decide +kernel
theorem d_S_takeLeast_53 : decode b_S_takeLeast 53 = .ok (.ireturn, 1) := by decide +kernel
theorem d_S_takeLeast_54 : decode b_S_takeLeast 54 = .ok (.iinc 1 1, 3) := by decide +kernel
theorem d_S_takeLeast_57 : decode b_S_takeLeast 57 = .ok (.goto (-55), 3) := by decide +kernel
theorem d_S_takeLeast_60 : decode b_S_takeLeast 60 = .ok (.iconst (-1), 1) := by decide +kernel
theorem d_S_takeLeast_61 : decode b_S_takeLeast 61 = .ok (.ireturn, 1) := by decide +kernel
abbrev b_S_release : ByteArray := prog_2_method_3_code
def y_S_release : MethodName := ⟨"AgedMarks$Slots", "release", "(I)V"⟩
theorem d_S_release_0 : decode b_S_release 0 = .ok (.iload_n 1, 1) := by decide +kernel
theorem d_S_release_1 : decode b_S_release 1 = .ok (.ifCond .lt 32, 3) := by decide +kernel
theorem d_S_release_4 : decode b_S_release 4 = .ok (.iload_n 1, 1) := by decide +kernel
theorem d_S_release_5 : decode b_S_release 5 = .ok (.sipush 320, 3) := by decide +kernel
theorem d_S_release_8 : decode b_S_release 8 = .ok (.if_icmp .ge 25, 3) := by decide +kernel
theorem d_S_release_11 : decode b_S_release 11 = .ok (.aload_n 0, 1) := by decide +kernel
theorem d_S_release_12 : decode b_S_release 12 = .ok (.getfield 9, 3) := by decide +kernel
theorem d_S_release_15 : decode b_S_release 15 = .ok (.iload_n 1, 1) := by decide +kernel
theorem d_S_release_16 : decode b_S_release 16 = .ok (.bipush 64, 2) := by decide +kernel
theorem d_S_release_18 : decode b_S_release 18 = .ok (.idiv, 1) := by decide +kernel
theorem d_S_release_19 : decode b_S_release 19 = .ok (.dup2, 1) := by decide +kernel
theorem d_S_release_20 : decode b_S_release 20 = .ok (.laload, 1) := by decide +kernel
theorem d_S_release_21 : decode b_S_release 21 = .ok (.lconst 1, 1) := by decide +kernel
theorem d_S_release_22 : decode b_S_release 22 = .ok (.iload_n 1, 1) := by decide +kernel
theorem d_S_release_23 : decode b_S_release 23 = .ok (.bipush 64, 2) := by decide +kernel
theorem d_S_release_25 : decode b_S_release 25 = .ok (.irem, 1) := by decide +kernel
theorem d_S_release_26 : decode b_S_release 26 = .ok (.lshl, 1) := by decide +kernel
theorem d_S_release_27 : decode b_S_release 27 = .ok (.ldc2_w 15, 3) := by decide +kernel
theorem d_S_release_30 : decode b_S_release 30 = .ok (.lxor, 1) := by decide +kernel
theorem d_S_release_31 : decode b_S_release 31 = .ok (.land, 1) := by decide +kernel
theorem d_S_release_32 : decode b_S_release 32 = .ok (.lastore, 1) := by decide +kernel
theorem d_S_release_33 : decode b_S_release 33 = .ok (.return_, 1) := by decide +kernel
