abbrev b_A_init : ByteArray := prog_1_method_1_code
def y_A_init : MethodName := ⟨"AgedMarks", "<init>", "(II)V"⟩
theorem d_A_init_0 : decode b_A_init 0 = .ok (.aload_n 0, 1) := by decide +kernel
theorem d_A_init_1 : decode b_A_init 1 = .ok (.invokespecial 3, 3) := by decide +kernel
theorem d_A_init_4 : decode b_A_init 4 = .ok (.aload_n 0, 1) := by decide +kernel
theorem d_A_init_5 : decode b_A_init 5 = .ok (.sipush 320, 3) := by decide +kernel
theorem d_A_init_8 : decode b_A_init 8 = .ok (.newarray .int, 2) := by decide +kernel
theorem d_A_init_10 : decode b_A_init 10 = .ok (.putfield 9, 3) := by decide +kernel
theorem d_A_init_13 : decode b_A_init 13 = .ok (.aload_n 0, 1) := by decide +kernel
theorem d_A_init_14 : decode b_A_init 14 = .ok (.sipush 320, 3) := by decide +kernel
theorem d_A_init_17 : decode b_A_init 17 = .ok (.newarray .int, 2) := by decide +kernel
theorem d_A_init_19 : decode b_A_init 19 = .ok (.putfield 13, 3) := by decide +kernel
theorem d_A_init_22 : decode b_A_init 22 = .ok (.aload_n 0, 1) := by decide +kernel
theorem d_A_init_23 : decode b_A_init 23 = .ok (.new 16, 3) := by decide +kernel
theorem d_A_init_26 : decode b_A_init 26 = .ok (.dup, 1) := by decide +kernel
theorem d_A_init_27 : decode b_A_init 27 = .ok (.invokespecial 18, 3) := by decide +kernel
theorem d_A_init_30 : decode b_A_init 30 = .ok (.putfield 19, 3) := by decide +kernel
theorem d_A_init_33 : decode b_A_init 33 = .ok (.aload_n 0, 1) := by decide +kernel
theorem d_A_init_34 : decode b_A_init 34 = .ok (.iconst 1, 1) := by decide +kernel
theorem d_A_init_35 : decode b_A_init 35 = .ok (.sipush 1000, 3) := by decide +kernel
theorem d_A_init_38 : decode b_A_init 38 = .ok (.iload_n 1, 1) := by decide +kernel
theorem d_A_init_39 : decode b_A_init 39 = .ok (.invokestatic 23, 3) := by decide +kernel
theorem d_A_init_42 : decode b_A_init 42 = .ok (.invokestatic 29, 3) := by decide +kernel
theorem d_A_init_45 : decode b_A_init 45 = .ok (.putfield 32, 3) := by decide +kernel
theorem d_A_init_48 : decode b_A_init 48 = .ok (.aload_n 0, 1) := by decide +kernel
theorem d_A_init_49 : decode b_A_init 49 = .ok (.iconst 2, 1) := by decide +kernel
theorem d_A_init_50 : decode b_A_init 50 = .ok (.bipush 16, 2) := by decide +kernel
theorem d_A_init_52 : decode b_A_init 52 = .ok (.iload_n 2, 1) := by decide +kernel
theorem d_A_init_53 : decode b_A_init 53 = .ok (.invokestatic 23, 3) := by decide +kernel
theorem d_A_init_56 : decode b_A_init 56 = .ok (.invokestatic 29, 3) := by decide +kernel
theorem d_A_init_59 : decode b_A_init 59 = .ok (.putfield 36, 3) := by decide +kernel
theorem d_A_init_62 : decode b_A_init 62 = .ok (.aload_n 0, 1) := by decide +kernel
theorem d_A_init_63 : decode b_A_init 63 = .ok (.getfield 9, 3) := by decide +kernel
theorem d_A_init_66 : decode b_A_init 66 = .ok (.iconst 0, 1) := by decide +kernel
theorem d_A_init_67 : decode b_A_init 67 = .ok (.iconst 0, 1) := by decide +kernel
theorem d_A_init_68 : decode b_A_init 68 = .ok (.iastore, 1) := by decide +kernel
theorem d_A_init_69 : decode b_A_init 69 = .ok (.aload_n 0, 1) := by decide +kernel
theorem d_A_init_70 : decode b_A_init 70 = .ok (.getfield 13, 3) := by decide +kernel
theorem d_A_init_73 : decode b_A_init 73 = .ok (.iconst 0, 1) := by decide +kernel
theorem d_A_init_74 : decode b_A_init 74 = .ok (.aload_n 0, 1) := by decide +kernel
theorem d_A_init_75 : decode b_A_init 75 = .ok (.getfield 19, 3) := by decide +kernel
theorem d_A_init_78 : decode b_A_init 78 = .ok (.invokevirtual 39, 3) := by decide +kernel
theorem d_A_init_81 : decode b_A_init 81 = .ok (.iastore, 1) := by decide +kernel
theorem d_A_init_82 : decode b_A_init 82 = .ok (.aload_n 0, 1) := by decide +kernel
theorem d_A_init_83 : decode b_A_init 83 = .ok (.iconst 1, 1) := by decide +kernel
theorem d_A_init_84 : decode b_A_init 84 = .ok (.putfield 43, 3) := by decide +kernel
theorem d_A_init_87 : decode b_A_init 87 = .ok (.aload_n 0, 1) := by decide +kernel
theorem d_A_init_88 : decode b_A_init 88 = .ok (.iconst 1, 1) := by decide +kernel
theorem d_A_init_89 : decode b_A_init 89 = .ok (.putfield 46, 3) := by decide +kernel
theorem d_A_init_92 : decode b_A_init 92 = .ok (.return_, 1) := by decide +kernel
abbrev b_A_run : ByteArray := prog_1_method_2_code
def y_A_run : MethodName := ⟨"AgedMarks", "run", "(I)I"⟩
theorem d_A_run_0 : decode b_A_run 0 = .ok (.iload_n 1, 1) := by decide +kernel
theorem d_A_run_1 : decode b_A_run 1 = .ok (.ifCond .lt 10, 3) := by decide +kernel
theorem d_A_run_4 : decode b_A_run 4 = .ok (.iload_n 1, 1) := by decide +kernel
theorem d_A_run_5 : decode b_A_run 5 = .ok (.sipush 4000, 3) := by decide +kernel
theorem d_A_run_8 : decode b_A_run 8 = .ok (.if_icmp .le 13, 3) := by decide +kernel
theorem d_A_run_11 : decode b_A_run 11 = .ok (.new 49, 3) := by decide +kernel
theorem d_A_run_14 : decode b_A_run 14 = .ok (.dup, 1) := by decide +kernel
theorem d_A_run_15 : decode b_A_run 15 = .ok (.ldc 51, 2) := by decide +kernel
theorem d_A_run_17 : decode b_A_run 17 = .ok (.invokespecial 53, 3) := by decide +kernel
theorem d_A_run_20 : decode b_A_run 20 = .ok (.athrow, 1) := by decide +kernel
theorem d_A_run_21 : decode b_A_run 21 = .ok (.aload_n 0, 1) := by decide +kernel
theorem d_A_run_22 : decode b_A_run 22 = .ok (.getfield 56, 3) := by decide +kernel
theorem d_A_run_25 : decode b_A_run 25 = .ok (.iload_n 1, 1) := by decide +kernel
theorem d_A_run_26 : decode b_A_run 26 = .ok (.i2l, 1) := by decide +kernel
theorem d_A_run_27 : decode b_A_run 27 = .ok (.ladd, 1) := by decide +kernel
theorem d_A_run_28 : decode b_A_run 28 = .ok (.ldc2_w 60, 3) := by decide +kernel
theorem d_A_run_31 : decode b_A_run 31 = .ok (.aload_n 0, 1) := by decide +kernel
theorem d_A_run_32 : decode b_A_run 32 = .ok (.getfield 32, 3) := by decide +kernel
theorem d_A_run_35 : decode b_A_run 35 = .ok (.i2l, 1) := by decide +kernel
theorem d_A_run_36 : decode b_A_run 36 = .ok (.lmul, 1) := by decide +kernel
theorem d_A_run_37 : decode b_A_run 37 = .ok (.lcmp, 1) := by decide +kernel
theorem d_A_run_38 : decode b_A_run 38 = .ok (.ifCond .le 13, 3) := by decide +kernel
theorem d_A_run_41 : decode b_A_run 41 = .ok (.new 62, 3) := by decide +kernel
theorem d_A_run_44 : decode b_A_run 44 = .ok (.dup, 1) := by decide +kernel
theorem d_A_run_45 : decode b_A_run 45 = .ok (.ldc 64, 2) := by decide +kernel
theorem d_A_run_47 : decode b_A_run 47 = .ok (.invokespecial 66, 3) := by decide +kernel
theorem d_A_run_50 : decode b_A_run 50 = .ok (.athrow, 1) := by decide +kernel
theorem d_A_run_51 : decode b_A_run 51 = .ok (.aload_n 0, 1) := by decide +kernel
theorem d_A_run_52 : decode b_A_run 52 = .ok (.dup, 1) := by decide +kernel
theorem d_A_run_53 : decode b_A_run 53 = .ok (.getfield 56, 3) := by decide +kernel
theorem d_A_run_56 : decode b_A_run 56 = .ok (.iload_n 1, 1) := by decide +kernel
theorem d_A_run_57 : decode b_A_run 57 = .ok (.i2l, 1) := by decide +kernel
theorem d_A_run_58 : decode b_A_run 58 = .ok (.ladd, 1) := by decide +kernel
theorem d_A_run_59 : decode b_A_run 59 = .ok (.putfield 56, 3) := by decide +kernel
theorem d_A_run_62 : decode b_A_run 62 = .ok (.aload_n 0, 1) := by decide +kernel
theorem d_A_run_63 : decode b_A_run 63 = .ok (.getfield 56, 3) := by decide +kernel
theorem d_A_run_66 : decode b_A_run 66 = .ok (.aload_n 0, 1) := by decide +kernel
theorem d_A_run_67 : decode b_A_run 67 = .ok (.getfield 67, 3) := by decide +kernel
theorem d_A_run_70 : decode b_A_run 70 = .ok (.lcmp, 1) := by decide +kernel
theorem d_A_run_71 : decode b_A_run 71 = .ok (.ifCond .le 14, 3) := by decide +kernel
theorem d_A_run_74 : decode b_A_run 74 = .ok (.aload_n 0, 1) := by decide +kernel
theorem d_A_run_75 : decode b_A_run 75 = .ok (.aload_n 0, 1) := by decide +kernel
theorem d_A_run_76 : decode b_A_run 76 = .ok (.getfield 56, 3) := by decide +kernel
theorem d_A_run_79 : decode b_A_run 79 = .ok (.invokevirtual 70, 3) := by decide +kernel
theorem d_A_run_82 : decode b_A_run 82 = .ok (.goto 4, 3) := by decide +kernel
theorem d_A_run_85 : decode b_A_run 85 = .ok (.iconst 0, 1) := by decide +kernel
theorem d_A_run_86 : decode b_A_run 86 = .ok (.ireturn, 1) := by decide +kernel
abbrev b_A_go : ByteArray := prog_1_method_3_code
def y_A_go : MethodName := ⟨"AgedMarks", "go", "(J)J"⟩
theorem d_A_go_0 : decode b_A_go 0 = .ok (.lload_n 1, 1) := by decide +kernel
theorem d_A_go_1 : decode b_A_go 1 = .ok (.lconst 0, 1) := by decide +kernel
theorem d_A_go_2 : decode b_A_go 2 = .ok (.lcmp, 1) := by decide +kernel
theorem d_A_go_3 : decode b_A_go 3 = .ok (.ifCond .lt 12, 3) := by decide +kernel
theorem d_A_go_6 : decode b_A_go 6 = .ok (.lload_n 1, 1) := by decide +kernel
theorem d_A_go_7 : decode b_A_go 7 = .ok (.aload_n 0, 1) := by decide +kernel
theorem d_A_go_8 : decode b_A_go 8 = .ok (.getfield 67, 3) := by decide +kernel
theorem d_A_go_11 : decode b_A_go 11 = .ok (.lcmp, 1) := by decide +kernel
theorem d_A_go_12 : decode b_A_go 12 = .ok (.ifCond .le 13, 3) := by decide +kernel
theorem d_A_go_15 : decode b_A_go 15 = .ok (.new 49, 3) := by decide +kernel
theorem d_A_go_18 : decode b_A_go 18 = .ok (.dup, 1) := by decide +kernel
theorem d_A_go_19 : decode b_A_go 19 = .ok (.ldc 74, 2) := by decide +kernel
theorem d_A_go_21 : decode b_A_go 21 = .ok (.invokespecial 53, 3) := by decide +kernel
theorem d_A_go_24 : decode b_A_go 24 = .ok (.athrow, 1) := by decide +kernel
theorem d_A_go_25 : decode b_A_go 25 = .ok (.aload_n 0, 1) := by decide +kernel
theorem d_A_go_26 : decode b_A_go 26 = .ok (.lload_n 1, 1) := by decide +kernel
theorem d_A_go_27 : decode b_A_go 27 = .ok (.invokevirtual 76, 3) := by decide +kernel
theorem d_A_go_30 : decode b_A_go 30 = .ok (.lreturn, 1) := by decide +kernel
abbrev b_A_back : ByteArray := prog_1_method_4_code
def y_A_back : MethodName := ⟨"AgedMarks", "back", "(J)J"⟩
theorem d_A_back_0 : decode b_A_back 0 = .ok (.lload_n 1, 1) := by decide +kernel
theorem d_A_back_1 : decode b_A_back 1 = .ok (.lconst 0, 1) := by decide +kernel
theorem d_A_back_2 : decode b_A_back 2 = .ok (.lcmp, 1) := by decide +kernel
theorem d_A_back_3 : decode b_A_back 3 = .ok (.ifCond .ge 13, 3) := by decide +kernel
theorem d_A_back_6 : decode b_A_back 6 = .ok (.new 49, 3) := by decide +kernel
theorem d_A_back_9 : decode b_A_back 9 = .ok (.dup, 1) := by decide +kernel
theorem d_A_back_10 : decode b_A_back 10 = .ok (.ldc 80, 2) := by decide +kernel
theorem d_A_back_12 : decode b_A_back 12 = .ok (.invokespecial 53, 3) := by decide +kernel
theorem d_A_back_15 : decode b_A_back 15 = .ok (.athrow, 1) := by decide +kernel
theorem d_A_back_16 : decode b_A_back 16 = .ok (.aload_n 0, 1) := by decide +kernel
theorem d_A_back_17 : decode b_A_back 17 = .ok (.lload_n 1, 1) := by decide +kernel
theorem d_A_back_18 : decode b_A_back 18 = .ok (.aload_n 0, 1) := by decide +kernel
theorem d_A_back_19 : decode b_A_back 19 = .ok (.getfield 56, 3) := by decide +kernel
theorem d_A_back_22 : decode b_A_back 22 = .ok (.lcmp, 1) := by decide +kernel
theorem d_A_back_23 : decode b_A_back 23 = .ok (.ifCond .le 7, 3) := by decide +kernel
theorem d_A_back_26 : decode b_A_back 26 = .ok (.lconst 0, 1) := by decide +kernel
theorem d_A_back_27 : decode b_A_back 27 = .ok (.goto 9, 3) := by decide +kernel
theorem d_A_back_30 : decode b_A_back 30 = .ok (.aload_n 0, 1) := by decide +kernel
theorem d_A_back_31 : decode b_A_back 31 = .ok (.getfield 56, 3) := by decide +kernel
theorem d_A_back_34 : decode b_A_back 34 = .ok (.lload_n 1, 1) := by decide +kernel
theorem d_A_back_35 : decode b_A_back 35 = .ok (.lsub, 1) := by decide +kernel
theorem d_A_back_36 : decode b_A_back 36 = .ok (.invokevirtual 76, 3) := by decide +kernel
theorem d_A_back_39 : decode b_A_back 39 = .ok (.lreturn, 1) := by decide +kernel
abbrev b_A_cut : ByteArray := prog_1_method_5_code
def y_A_cut : MethodName := ⟨"AgedMarks", "cut", "()I"⟩
theorem d_A_cut_0 : decode b_A_cut 0 = .ok (.aload_n 0, 1) := by decide +kernel
theorem d_A_cut_1 : decode b_A_cut 1 = .ok (.getfield 43, 3) := by decide +kernel
theorem d_A_cut_4 : decode b_A_cut 4 = .ok (.istore_n 1, 1) := by decide +kernel
theorem d_A_cut_5 : decode b_A_cut 5 = .ok (.aload_n 0, 1) := by decide +kernel
theorem d_A_cut_6 : decode b_A_cut 6 = .ok (.aload_n 0, 1) := by decide +kernel
theorem d_A_cut_7 : decode b_A_cut 7 = .ok (.getfield 56, 3) := by decide +kernel
theorem d_A_cut_10 : decode b_A_cut 10 = .ok (.putfield 67, 3) := by decide +kernel
theorem d_A_cut_13 : decode b_A_cut 13 = .ok (.aload_n 0, 1) := by decide +kernel
theorem d_A_cut_14 : decode b_A_cut 14 = .ok (.getfield 43, 3) := by decide +kernel
theorem d_A_cut_17 : decode b_A_cut 17 = .ok (.iconst 1, 1) := by decide +kernel
theorem d_A_cut_18 : decode b_A_cut 18 = .ok (.isub, 1) := by decide +kernel
theorem d_A_cut_19 : decode b_A_cut 19 = .ok (.istore_n 2, 1) := by decide +kernel
theorem d_A_cut_20 : decode b_A_cut 20 = .ok (.iload_n 2, 1) := by decide +kernel
theorem d_A_cut_21 : decode b_A_cut 21 = .ok (.ifCond .le 27, 3) := by decide +kernel
theorem d_A_cut_24 : decode b_A_cut 24 = .ok (.aload_n 0, 1) := by decide +kernel
theorem d_A_cut_25 : decode b_A_cut 25 = .ok (.iload_n 2, 1) := by decide +kernel
theorem d_A_cut_26 : decode b_A_cut 26 = .ok (.invokevirtual 82, 3) := by decide +kernel
theorem d_A_cut_29 : decode b_A_cut 29 = .ok (.aload_n 0, 1) := by decide +kernel
theorem d_A_cut_30 : decode b_A_cut 30 = .ok (.getfield 67, 3) := by decide +kernel
theorem d_A_cut_33 : decode b_A_cut 33 = .ok (.lcmp, 1) := by decide +kernel
theorem d_A_cut_34 : decode b_A_cut 34 = .ok (.ifCond .le 14, 3) := by decide +kernel
theorem d_A_cut_37 : decode b_A_cut 37 = .ok (.aload_n 0, 1) := by decide +kernel
theorem d_A_cut_38 : decode b_A_cut 38 = .ok (.iload_n 2, 1) := by decide +kernel
theorem d_A_cut_39 : decode b_A_cut 39 = .ok (.invokevirtual 86, 3) := by decide +kernel
theorem d_A_cut_42 : decode b_A_cut 42 = .ok (.iinc 2 (-1), 3) := by decide +kernel
theorem d_A_cut_45 : decode b_A_cut 45 = .ok (.goto (-25), 3) := by decide +kernel
theorem d_A_cut_48 : decode b_A_cut 48 = .ok (.iload_n 1, 1) := by decide +kernel
theorem d_A_cut_49 : decode b_A_cut 49 = .ok (.aload_n 0, 1) := by decide +kernel
theorem d_A_cut_50 : decode b_A_cut 50 = .ok (.getfield 43, 3) := by decide +kernel
theorem d_A_cut_53 : decode b_A_cut 53 = .ok (.isub, 1) := by decide +kernel
theorem d_A_cut_54 : decode b_A_cut 54 = .ok (.ireturn, 1) := by decide +kernel
abbrev b_A_mark : ByteArray := prog_1_method_6_code
def y_A_mark : MethodName := ⟨"AgedMarks", "mark", "(II)J"⟩
theorem d_A_mark_0 : decode b_A_mark 0 = .ok (.iload_n 1, 1) := by decide +kernel
theorem d_A_mark_1 : decode b_A_mark 1 = .ok (.ifCond .lt 11, 3) := by decide +kernel
theorem d_A_mark_4 : decode b_A_mark 4 = .ok (.iload_n 1, 1) := by decide +kernel
theorem d_A_mark_5 : decode b_A_mark 5 = .ok (.aload_n 0, 1) := by decide +kernel
theorem d_A_mark_6 : decode b_A_mark 6 = .ok (.getfield 43, 3) := by decide +kernel
theorem d_A_mark_9 : decode b_A_mark 9 = .ok (.if_icmp .lt 13, 3) := by decide +kernel
theorem d_A_mark_12 : decode b_A_mark 12 = .ok (.new 90, 3) := by decide +kernel
theorem d_A_mark_15 : decode b_A_mark 15 = .ok (.dup, 1) := by decide +kernel
theorem d_A_mark_16 : decode b_A_mark 16 = .ok (.ldc 92, 2) := by decide +kernel
theorem d_A_mark_18 : decode b_A_mark 18 = .ok (.invokespecial 94, 3) := by decide +kernel
theorem d_A_mark_21 : decode b_A_mark 21 = .ok (.athrow, 1) := by decide +kernel
theorem d_A_mark_22 : decode b_A_mark 22 = .ok (.iload_n 2, 1) := by decide +kernel
theorem d_A_mark_23 : decode b_A_mark 23 = .ok (.tableswitch 59 0 2 #[25, 31, 39], 25) := by decide +kernel
theorem d_A_mark_48 : decode b_A_mark 48 = .ok (.aload_n 0, 1) := by decide +kernel
theorem d_A_mark_49 : decode b_A_mark 49 = .ok (.iload_n 1, 1) := by decide +kernel
theorem d_A_mark_50 : decode b_A_mark 50 = .ok (.invokevirtual 82, 3) := by decide +kernel
theorem d_A_mark_53 : decode b_A_mark 53 = .ok (.lreturn, 1) := by decide +kernel
theorem d_A_mark_54 : decode b_A_mark 54 = .ok (.aload_n 0, 1) := by decide +kernel
theorem d_A_mark_55 : decode b_A_mark 55 = .ok (.getfield 13, 3) := by decide +kernel
theorem d_A_mark_58 : decode b_A_mark 58 = .ok (.iload_n 1, 1) := by decide +kernel
theorem d_A_mark_59 : decode b_A_mark 59 = .ok (.iaload, 1) := by decide +kernel
theorem d_A_mark_60 : decode b_A_mark 60 = .ok (.i2l, 1) := by decide +kernel
theorem d_A_mark_61 : decode b_A_mark 61 = .ok (.lreturn, 1) := by decide +kernel
theorem d_A_mark_62 : decode b_A_mark 62 = .ok (.aload_n 0, 1) := by decide +kernel
theorem d_A_mark_63 : decode b_A_mark 63 = .ok (.getfield 9, 3) := by decide +kernel
theorem d_A_mark_66 : decode b_A_mark 66 = .ok (.aload_n 0, 1) := by decide +kernel
theorem d_A_mark_67 : decode b_A_mark 67 = .ok (.getfield 43, 3) := by decide +kernel
theorem d_A_mark_70 : decode b_A_mark 70 = .ok (.iconst 1, 1) := by decide +kernel
theorem d_A_mark_71 : decode b_A_mark 71 = .ok (.isub, 1) := by decide +kernel
theorem d_A_mark_72 : decode b_A_mark 72 = .ok (.iaload, 1) := by decide +kernel
theorem d_A_mark_73 : decode b_A_mark 73 = .ok (.aload_n 0, 1) := by decide +kernel
theorem d_A_mark_74 : decode b_A_mark 74 = .ok (.getfield 9, 3) := by decide +kernel
theorem d_A_mark_77 : decode b_A_mark 77 = .ok (.iload_n 1, 1) := by decide +kernel
theorem d_A_mark_78 : decode b_A_mark 78 = .ok (.iaload, 1) := by decide +kernel
theorem d_A_mark_79 : decode b_A_mark 79 = .ok (.isub, 1) := by decide +kernel
theorem d_A_mark_80 : decode b_A_mark 80 = .ok (.i2l, 1) := by decide +kernel
theorem d_A_mark_81 : decode b_A_mark 81 = .ok (.lreturn, 1) := by decide +kernel
theorem d_A_mark_82 : decode b_A_mark 82 = .ok (.new 49, 3) := by decide +kernel
theorem d_A_mark_85 : decode b_A_mark 85 = .ok (.dup, 1) := by decide +kernel
theorem d_A_mark_86 : decode b_A_mark 86 = .ok (.ldc 95, 2) := by decide +kernel
theorem d_A_mark_88 : decode b_A_mark 88 = .ok (.invokespecial 53, 3) := by decide +kernel
theorem d_A_mark_91 : decode b_A_mark 91 = .ok (.athrow, 1) := by decide +kernel
abbrev b_A_holder : ByteArray := prog_1_method_7_code
def y_A_holder : MethodName := ⟨"AgedMarks", "holder", "(I)I"⟩
theorem d_A_holder_0 : decode b_A_holder 0 = .ok (.iconst 0, 1) := by decide +kernel
theorem d_A_holder_1 : decode b_A_holder 1 = .ok (.istore_n 2, 1) := by decide +kernel
theorem d_A_holder_2 : decode b_A_holder 2 = .ok (.iload_n 2, 1) := by decide +kernel
theorem d_A_holder_3 : decode b_A_holder 3 = .ok (.aload_n 0, 1) := by decide +kernel
theorem d_A_holder_4 : decode b_A_holder 4 = .ok (.getfield 43, 3) := by decide +kernel
theorem d_A_holder_7 : decode b_A_holder 7 = .ok (.if_icmp .ge 21, 3) := by decide +kernel
theorem d_A_holder_10 : decode b_A_holder 10 = .ok (.aload_n 0, 1) := by decide +kernel
theorem d_A_holder_11 : decode b_A_holder 11 = .ok (.getfield 13, 3) := by decide +kernel
theorem d_A_holder_14 : decode b_A_holder 14 = .ok (.iload_n 2, 1) := by decide +kernel
theorem d_A_holder_15 : decode b_A_holder 15 = .ok (.iaload, 1) := by decide +kernel
theorem d_A_holder_16 : decode b_A_holder 16 = .ok (.iload_n 1, 1) := by decide +kernel
theorem d_A_holder_17 : decode b_A_holder 17 = .ok (.if_icmp .ne 5, 3) := by decide +kernel
theorem d_A_holder_20 : decode b_A_holder 20 = .ok (.iload_n 2, 1) := by decide +kernel
theorem d_A_holder_21 : decode b_A_holder 21 = .ok (.ireturn, 1) := by decide +kernel
theorem d_A_holder_22 : decode b_A_holder 22 = .ok (.iinc 2 1, 3) := by decide +kernel
theorem d_A_holder_25 : decode b_A_holder 25 = .ok (.goto (-23), 3) := by decide +kernel
theorem d_A_holder_28 : decode b_A_holder 28 = .ok (.iconst (-1), 1) := by decide +kernel
theorem d_A_holder_29 : decode b_A_holder 29 = .ok (.ireturn, 1) := by decide +kernel
abbrev b_A_worst : ByteArray := prog_1_method_8_code
def y_A_worst : MethodName := ⟨"AgedMarks", "worst", "()J"⟩
theorem d_A_worst_0 : decode b_A_worst 0 = .ok (.aload_n 0, 1) := by decide +kernel
theorem d_A_worst_1 : decode b_A_worst 1 = .ok (.getfield 67, 3) := by decide +kernel
theorem d_A_worst_4 : decode b_A_worst 4 = .ok (.aload_n 0, 1) := by decide +kernel
theorem d_A_worst_5 : decode b_A_worst 5 = .ok (.aload_n 0, 1) := by decide +kernel
theorem d_A_worst_6 : decode b_A_worst 6 = .ok (.getfield 43, 3) := by decide +kernel
theorem d_A_worst_9 : decode b_A_worst 9 = .ok (.iconst 1, 1) := by decide +kernel
theorem d_A_worst_10 : decode b_A_worst 10 = .ok (.isub, 1) := by decide +kernel
theorem d_A_worst_11 : decode b_A_worst 11 = .ok (.invokevirtual 82, 3) := by decide +kernel
theorem d_A_worst_14 : decode b_A_worst 14 = .ok (.lsub, 1) := by decide +kernel
theorem d_A_worst_15 : decode b_A_worst 15 = .ok (.lstore_n 1, 1) := by decide +kernel
theorem d_A_worst_16 : decode b_A_worst 16 = .ok (.iconst 1, 1) := by decide +kernel
theorem d_A_worst_17 : decode b_A_worst 17 = .ok (.istore_n 3, 1) := by decide +kernel
theorem d_A_worst_18 : decode b_A_worst 18 = .ok (.iload_n 3, 1) := by decide +kernel
theorem d_A_worst_19 : decode b_A_worst 19 = .ok (.aload_n 0, 1) := by decide +kernel
theorem d_A_worst_20 : decode b_A_worst 20 = .ok (.getfield 43, 3) := by decide +kernel
theorem d_A_worst_23 : decode b_A_worst 23 = .ok (.if_icmp .ge 29, 3) := by decide +kernel
theorem d_A_worst_26 : decode b_A_worst 26 = .ok (.lload_n 1, 1) := by decide +kernel
theorem d_A_worst_27 : decode b_A_worst 27 = .ok (.aload_n 0, 1) := by decide +kernel
theorem d_A_worst_28 : decode b_A_worst 28 = .ok (.iload_n 3, 1) := by decide +kernel
theorem d_A_worst_29 : decode b_A_worst 29 = .ok (.invokevirtual 82, 3) := by decide +kernel
theorem d_A_worst_32 : decode b_A_worst 32 = .ok (.lconst 1, 1) := by decide +kernel
theorem d_A_worst_33 : decode b_A_worst 33 = .ok (.lsub, 1) := by decide +kernel
theorem d_A_worst_34 : decode b_A_worst 34 = .ok (.aload_n 0, 1) := by decide +kernel
theorem d_A_worst_35 : decode b_A_worst 35 = .ok (.iload_n 3, 1) := by decide +kernel
theorem d_A_worst_36 : decode b_A_worst 36 = .ok (.iconst 1, 1) := by decide +kernel
theorem d_A_worst_37 : decode b_A_worst 37 = .ok (.isub, 1) := by decide +kernel
theorem d_A_worst_38 : decode b_A_worst 38 = .ok (.invokevirtual 82, 3) := by decide +kernel
theorem d_A_worst_41 : decode b_A_worst 41 = .ok (.lsub, 1) := by decide +kernel
theorem d_A_worst_42 : decode b_A_worst 42 = .ok (.invokestatic 97, 3) := by decide +kernel
theorem d_A_worst_45 : decode b_A_worst 45 = .ok (.lstore_n 1, 1) := by decide +kernel
theorem d_A_worst_46 : decode b_A_worst 46 = .ok (.iinc 3 1, 3) := by decide +kernel
theorem d_A_worst_49 : decode b_A_worst 49 = .ok (.goto (-31), 3) := by decide +kernel
theorem d_A_worst_52 : decode b_A_worst 52 = .ok (.lload_n 1, 1) := by decide +kernel
theorem d_A_worst_53 : decode b_A_worst 53 = .ok (.lreturn, 1) := by decide +kernel
abbrev b_A_count : ByteArray := prog_1_method_9_code
def y_A_count : MethodName := ⟨"AgedMarks", "count", "(I)J"⟩
theorem d_A_count_0 : decode b_A_count 0 = .ok (.iload_n 1, 1) := by decide +kernel
theorem d_A_count_1 : decode b_A_count 1 = .ok (.tableswitch 80 0 6 #[43, 48, 53, 59, 65, 70, 75], 43) := by decide +kernel
theorem d_A_count_44 : decode b_A_count 44 = .ok (.aload_n 0, 1) := by decide +kernel
theorem d_A_count_45 : decode b_A_count 45 = .ok (.getfield 56, 3) := by decide +kernel
theorem d_A_count_48 : decode b_A_count 48 = .ok (.lreturn, 1) := by decide +kernel
theorem d_A_count_49 : decode b_A_count 49 = .ok (.aload_n 0, 1) := by decide +kernel
theorem d_A_count_50 : decode b_A_count 50 = .ok (.getfield 67, 3) := by decide +kernel
theorem d_A_count_53 : decode b_A_count 53 = .ok (.lreturn, 1) := by decide +kernel
theorem d_A_count_54 : decode b_A_count 54 = .ok (.aload_n 0, 1) := by decide +kernel
theorem d_A_count_55 : decode b_A_count 55 = .ok (.getfield 43, 3) := by decide +kernel
theorem d_A_count_58 : decode b_A_count 58 = .ok (.i2l, 1) := by decide +kernel
theorem d_A_count_59 : decode b_A_count 59 = .ok (.lreturn, 1) := by decide +kernel
theorem d_A_count_60 : decode b_A_count 60 = .ok (.aload_n 0, 1) := by decide +kernel
theorem d_A_count_61 : decode b_A_count 61 = .ok (.getfield 46, 3) := by decide +kernel
theorem d_A_count_64 : decode b_A_count 64 = .ok (.i2l, 1) := by decide +kernel
theorem d_A_count_65 : decode b_A_count 65 = .ok (.lreturn, 1) := by decide +kernel
theorem d_A_count_66 : decode b_A_count 66 = .ok (.aload_n 0, 1) := by decide +kernel
theorem d_A_count_67 : decode b_A_count 67 = .ok (.getfield 100, 3) := by decide +kernel
theorem d_A_count_70 : decode b_A_count 70 = .ok (.lreturn, 1) := by decide +kernel
theorem d_A_count_71 : decode b_A_count 71 = .ok (.aload_n 0, 1) := by decide +kernel
theorem d_A_count_72 : decode b_A_count 72 = .ok (.getfield 103, 3) := by decide +kernel
theorem d_A_count_75 : decode b_A_count 75 = .ok (.lreturn, 1) := by decide +kernel
theorem d_A_count_76 : decode b_A_count 76 = .ok (.aload_n 0, 1) := by decide +kernel
theorem d_A_count_77 : decode b_A_count 77 = .ok (.getfield 106, 3) := by decide +kernel
theorem d_A_count_80 : decode b_A_count 80 = .ok (.lreturn, 1) := by decide +kernel
theorem d_A_count_81 : decode b_A_count 81 = .ok (.ldc2_w 109, 3) := by decide +kernel
theorem d_A_count_84 : decode b_A_count 84 = .ok (.lreturn, 1) := by decide +kernel
abbrev b_A_growTo : ByteArray := prog_1_method_10_code
def y_A_growTo : MethodName := ⟨"AgedMarks", "growTo", "(J)I"⟩
theorem d_A_growTo_0 : decode b_A_growTo 0 = .ok (.aload_n 0, 1) := by decide +kernel
theorem d_A_growTo_1 : decode b_A_growTo 1 = .ok (.aload_n 0, 1) := by decide +kernel
theorem d_A_growTo_2 : decode b_A_growTo 2 = .ok (.getfield 67, 3) := by decide +kernel
theorem d_A_growTo_5 : decode b_A_growTo 5 = .ok (.invokevirtual 111, 3) := by decide +kernel
theorem d_A_growTo_8 : decode b_A_growTo 8 = .ok (.istore_n 3, 1) := by decide +kernel
theorem d_A_growTo_9 : decode b_A_growTo 9 = .ok (.aload_n 0, 1) := by decide +kernel
theorem d_A_growTo_10 : decode b_A_growTo 10 = .ok (.lload_n 1, 1) := by decide +kernel
theorem d_A_growTo_11 : decode b_A_growTo 11 = .ok (.invokevirtual 111, 3) := by decide +kernel
theorem d_A_growTo_14 : decode b_A_growTo 14 = .ok (.istore 4, 2) := by decide +kernel
theorem d_A_growTo_16 : decode b_A_growTo 16 = .ok (.aload_n 0, 1) := by decide +kernel
theorem d_A_growTo_17 : decode b_A_growTo 17 = .ok (.lload_n 1, 1) := by decide +kernel
theorem d_A_growTo_18 : decode b_A_growTo 18 = .ok (.putfield 67, 3) := by decide +kernel
theorem d_A_growTo_21 : decode b_A_growTo 21 = .ok (.iload_n 3, 1) := by decide +kernel
theorem d_A_growTo_22 : decode b_A_growTo 22 = .ok (.iconst 1, 1) := by decide +kernel
theorem d_A_growTo_23 : decode b_A_growTo 23 = .ok (.iadd, 1) := by decide +kernel
theorem d_A_growTo_24 : decode b_A_growTo 24 = .ok (.istore 5, 2) := by decide +kernel
theorem d_A_growTo_26 : decode b_A_growTo 26 = .ok (.iload 5, 2) := by decide +kernel
theorem d_A_growTo_28 : decode b_A_growTo 28 = .ok (.iload 4, 2) := by decide +kernel
theorem d_A_growTo_30 : decode b_A_growTo 30 = .ok (.if_icmp .gt 36, 3) := by decide +kernel
theorem d_A_growTo_33 : decode b_A_growTo 33 = .ok (.aload_n 0, 1) := by decide +kernel
theorem d_A_growTo_34 : decode b_A_growTo 34 = .ok (.iload 5, 2) := by decide +kernel
theorem d_A_growTo_36 : decode b_A_growTo 36 = .ok (.invokevirtual 114, 3) := by decide +kernel
theorem d_A_growTo_39 : decode b_A_growTo 39 = .ok (.aload_n 0, 1) := by decide +kernel
theorem d_A_growTo_40 : decode b_A_growTo 40 = .ok (.iload 5, 2) := by decide +kernel
theorem d_A_growTo_42 : decode b_A_growTo 42 = .ok (.invokevirtual 117, 3) := by decide +kernel
theorem d_A_growTo_45 : decode b_A_growTo 45 = .ok (.aload_n 0, 1) := by decide +kernel
theorem d_A_growTo_46 : decode b_A_growTo 46 = .ok (.aload_n 0, 1) := by decide +kernel
theorem d_A_growTo_47 : decode b_A_growTo 47 = .ok (.getfield 46, 3) := by decide +kernel
theorem d_A_growTo_50 : decode b_A_growTo 50 = .ok (.aload_n 0, 1) := by decide +kernel
theorem d_A_growTo_51 : decode b_A_growTo 51 = .ok (.getfield 43, 3) := by decide +kernel
theorem d_A_growTo_54 : decode b_A_growTo 54 = .ok (.invokestatic 29, 3) := by decide +kernel
theorem d_A_growTo_57 : decode b_A_growTo 57 = .ok (.putfield 46, 3) := by decide +kernel
theorem d_A_growTo_60 : decode b_A_growTo 60 = .ok (.iinc 5 1, 3) := by decide +kernel
theorem d_A_growTo_63 : decode b_A_growTo 63 = .ok (.goto (-37), 3) := by decide +kernel
theorem d_A_growTo_66 : decode b_A_growTo 66 = .ok (.iload 4, 2) := by decide +kernel
theorem d_A_growTo_68 : decode b_A_growTo 68 = .ok (.iload_n 3, 1) := by decide +kernel
theorem d_A_growTo_69 : decode b_A_growTo 69 = .ok (.isub, 1) := by decide +kernel
theorem d_A_growTo_70 : decode b_A_growTo 70 = .ok (.ireturn, 1) := by decide +kernel
abbrev b_A_gapsIn : ByteArray := prog_1_method_11_code
def y_A_gapsIn : MethodName := ⟨"AgedMarks", "gapsIn", "(J)I"⟩
theorem d_A_gapsIn_0 : decode b_A_gapsIn 0 = .ok (.aload_n 0, 1) := by decide +kernel
theorem d_A_gapsIn_1 : decode b_A_gapsIn 1 = .ok (.getfield 32, 3) := by decide +kernel
theorem d_A_gapsIn_4 : decode b_A_gapsIn 4 = .ok (.ifCond .le 14, 3) := by decide +kernel
theorem d_A_gapsIn_7 : decode b_A_gapsIn 7 = .ok (.lload_n 1, 1) := by decide +kernel
theorem d_A_gapsIn_8 : decode b_A_gapsIn 8 = .ok (.aload_n 0, 1) := by decide +kernel
theorem d_A_gapsIn_9 : decode b_A_gapsIn 9 = .ok (.getfield 32, 3) := by decide +kernel
theorem d_A_gapsIn_12 : decode b_A_gapsIn 12 = .ok (.i2l, 1) := by decide +kernel
theorem d_A_gapsIn_13 : decode b_A_gapsIn 13 = .ok (.ldiv, 1) := by decide +kernel
theorem d_A_gapsIn_14 : decode b_A_gapsIn 14 = .ok (.l2i, 1) := by decide +kernel
theorem d_A_gapsIn_15 : decode b_A_gapsIn 15 = .ok (.goto 4, 3) := by decide +kernel
theorem d_A_gapsIn_18 : decode b_A_gapsIn 18 = .ok (.iconst 0, 1) := by decide +kernel
theorem d_A_gapsIn_19 : decode b_A_gapsIn 19 = .ok (.ireturn, 1) := by decide +kernel
abbrev b_A_lay : ByteArray := prog_1_method_12_code
def y_A_lay : MethodName := ⟨"AgedMarks", "lay", "(I)V"⟩
theorem d_A_lay_0 : decode b_A_lay 0 = .ok (.aload_n 0, 1) := by decide +kernel
theorem d_A_lay_1 : decode b_A_lay 1 = .ok (.getfield 43, 3) := by decide +kernel
theorem d_A_lay_4 : decode b_A_lay 4 = .ok (.ifCond .lt 13, 3) := by decide +kernel
theorem d_A_lay_7 : decode b_A_lay 7 = .ok (.aload_n 0, 1) := by decide +kernel
theorem d_A_lay_8 : decode b_A_lay 8 = .ok (.getfield 43, 3) := by decide +kernel
theorem d_A_lay_11 : decode b_A_lay 11 = .ok (.sipush 320, 3) := by decide +kernel
theorem d_A_lay_14 : decode b_A_lay 14 = .ok (.if_icmp .lt 4, 3) := by decide +kernel
theorem d_A_lay_17 : decode b_A_lay 17 = .ok (.return_, 1) := by decide +kernel
theorem d_A_lay_18 : decode b_A_lay 18 = .ok (.aload_n 0, 1) := by decide +kernel
theorem d_A_lay_19 : decode b_A_lay 19 = .ok (.getfield 9, 3) := by decide +kernel
theorem d_A_lay_22 : decode b_A_lay 22 = .ok (.aload_n 0, 1) := by decide +kernel
theorem d_A_lay_23 : decode b_A_lay 23 = .ok (.getfield 43, 3) := by decide +kernel
theorem d_A_lay_26 : decode b_A_lay 26 = .ok (.iload_n 1, 1) := by decide +kernel
theorem d_A_lay_27 : decode b_A_lay 27 = .ok (.iastore, 1) := by decide +kernel
theorem d_A_lay_28 : decode b_A_lay 28 = .ok (.aload_n 0, 1) := by decide +kernel
theorem d_A_lay_29 : decode b_A_lay 29 = .ok (.getfield 13, 3) := by decide +kernel
theorem d_A_lay_32 : decode b_A_lay 32 = .ok (.aload_n 0, 1) := by decide +kernel
theorem d_A_lay_33 : decode b_A_lay 33 = .ok (.getfield 43, 3) := by decide +kernel
theorem d_A_lay_36 : decode b_A_lay 36 = .ok (.aload_n 0, 1) := by decide +kernel
theorem d_A_lay_37 : decode b_A_lay 37 = .ok (.getfield 19, 3) := by decide +kernel
theorem d_A_lay_40 : decode b_A_lay 40 = .ok (.invokevirtual 39, 3) := by decide +kernel
theorem d_A_lay_43 : decode b_A_lay 43 = .ok (.iastore, 1) := by decide +kernel
theorem d_A_lay_44 : decode b_A_lay 44 = .ok (.aload_n 0, 1) := by decide +kernel
theorem d_A_lay_45 : decode b_A_lay 45 = .ok (.dup, 1) := by decide +kernel
theorem d_A_lay_46 : decode b_A_lay 46 = .ok (.getfield 43, 3) := by decide +kernel
theorem d_A_lay_49 : decode b_A_lay 49 = .ok (.iconst 1, 1) := by decide +kernel
theorem d_A_lay_50 : decode b_A_lay 50 = .ok (.iadd, 1) := by decide +kernel
theorem d_A_lay_51 : decode b_A_lay 51 = .ok (.putfield 43, 3) := by decide +kernel
theorem d_A_lay_54 : decode b_A_lay 54 = .ok (.aload_n 0, 1) := by decide +kernel
theorem d_A_lay_55 : decode b_A_lay 55 = .ok (.dup, 1) := by decide +kernel
theorem d_A_lay_56 : decode b_A_lay 56 = .ok (.getfield 100, 3) := by decide +kernel
theorem d_A_lay_59 : decode b_A_lay 59 = .ok (.lconst 1, 1) := by decide +kernel
theorem d_A_lay_60 : decode b_A_lay 60 = .ok (.ladd, 1) := by decide +kernel
theorem d_A_lay_61 : decode b_A_lay 61 = .ok (.putfield 100, 3) := by decide +kernel
theorem d_A_lay_64 : decode b_A_lay 64 = .ok (.return_, 1) := by decide +kernel
abbrev b_A_thin : ByteArray := prog_1_method_13_code
def y_A_thin : MethodName := ⟨"AgedMarks", "thin", "(I)V"⟩
theorem d_A_thin_0 : decode b_A_thin 0 = .ok (.iload_n 1, 1) := by decide +kernel
theorem d_A_thin_1 : decode b_A_thin 1 = .ok (.iload_n 1, 1) := by decide +kernel
theorem d_A_thin_2 : decode b_A_thin 2 = .ok (.ineg, 1) := by decide +kernel
theorem d_A_thin_3 : decode b_A_thin 3 = .ok (.iand, 1) := by decide +kernel
theorem d_A_thin_4 : decode b_A_thin 4 = .ok (.istore_n 2, 1) := by decide +kernel
theorem d_A_thin_5 : decode b_A_thin 5 = .ok (.aload_n 0, 1) := by decide +kernel
theorem d_A_thin_6 : decode b_A_thin 6 = .ok (.iload_n 1, 1) := by decide +kernel
theorem d_A_thin_7 : decode b_A_thin 7 = .ok (.aload_n 0, 1) := by decide +kernel
theorem d_A_thin_8 : decode b_A_thin 8 = .ok (.getfield 36, 3) := by decide +kernel
theorem d_A_thin_11 : decode b_A_thin 11 = .ok (.iconst 2, 1) := by decide +kernel
theorem d_A_thin_12 : decode b_A_thin 12 = .ok (.imul, 1) := by decide +kernel
theorem d_A_thin_13 : decode b_A_thin 13 = .ok (.iload_n 2, 1) := by decide +kernel
theorem d_A_thin_14 : decode b_A_thin 14 = .ok (.imul, 1) := by decide +kernel
theorem d_A_thin_15 : decode b_A_thin 15 = .ok (.isub, 1) := by decide +kernel
theorem d_A_thin_16 : decode b_A_thin 16 = .ok (.invokevirtual 120, 3) := by decide +kernel
theorem d_A_thin_19 : decode b_A_thin 19 = .ok (.istore_n 3, 1) := by decide +kernel
theorem d_A_thin_20 : decode b_A_thin 20 = .ok (.iload_n 3, 1) := by decide +kernel
theorem d_A_thin_21 : decode b_A_thin 21 = .ok (.iconst (-1), 1) := by decide +kernel
theorem d_A_thin_22 : decode b_A_thin 22 = .ok (.if_icmp .eq 8, 3) := by decide +kernel
theorem d_A_thin_25 : decode b_A_thin 25 = .ok (.aload_n 0, 1) := by decide +kernel
theorem d_A_thin_26 : decode b_A_thin 26 = .ok (.iload_n 3, 1) := by decide +kernel
theorem d_A_thin_27 : decode b_A_thin 27 = .ok (.invokevirtual 86, 3) := by decide +kernel
theorem d_A_thin_30 : decode b_A_thin 30 = .ok (.return_, 1) := by decide +kernel
abbrev b_A_placeOf : ByteArray := prog_1_method_14_code
def y_A_placeOf : MethodName := ⟨"AgedMarks", "placeOf", "(I)I"⟩
theorem d_A_placeOf_0 : decode b_A_placeOf 0 = .ok (.aload_n 0, 1) := by decide +kernel
theorem d_A_placeOf_1 : decode b_A_placeOf 1 = .ok (.getfield 43, 3) := by decide +kernel
theorem d_A_placeOf_4 : decode b_A_placeOf 4 = .ok (.iconst 1, 1) := by decide +kernel
theorem d_A_placeOf_5 : decode b_A_placeOf 5 = .ok (.isub, 1) := by decide +kernel
theorem d_A_placeOf_6 : decode b_A_placeOf 6 = .ok (.istore_n 2, 1) := by decide +kernel
theorem d_A_placeOf_7 : decode b_A_placeOf 7 = .ok (.iload_n 2, 1) := by decide +kernel
theorem d_A_placeOf_8 : decode b_A_placeOf 8 = .ok (.ifCond .lt 35, 3) := by decide +kernel
theorem d_A_placeOf_11 : decode b_A_placeOf 11 = .ok (.aload_n 0, 1) := by decide +kernel
theorem d_A_placeOf_12 : decode b_A_placeOf 12 = .ok (.getfield 9, 3) := by decide +kernel
theorem d_A_placeOf_15 : decode b_A_placeOf 15 = .ok (.iload_n 2, 1) := by decide +kernel
theorem d_A_placeOf_16 : decode b_A_placeOf 16 = .ok (.iaload, 1) := by decide +kernel
theorem d_A_placeOf_17 : decode b_A_placeOf 17 = .ok (.iload_n 1, 1) := by decide +kernel
theorem d_A_placeOf_18 : decode b_A_placeOf 18 = .ok (.if_icmp .gt 19, 3) := by decide +kernel
theorem d_A_placeOf_21 : decode b_A_placeOf 21 = .ok (.aload_n 0, 1) := by decide +kernel
theorem d_A_placeOf_22 : decode b_A_placeOf 22 = .ok (.getfield 9, 3) := by decide +kernel
theorem d_A_placeOf_25 : decode b_A_placeOf 25 = .ok (.iload_n 2, 1) := by decide +kernel
theorem d_A_placeOf_26 : decode b_A_placeOf 26 = .ok (.iaload, 1) := by decide +kernel
theorem d_A_placeOf_27 : decode b_A_placeOf 27 = .ok (.iload_n 1, 1) := by decide +kernel
theorem d_A_placeOf_28 : decode b_A_placeOf 28 = .ok (.if_icmp .ne 7, 3) := by decide +kernel
theorem d_A_placeOf_31 : decode b_A_placeOf 31 = .ok (.iload_n 2, 1) := by decide +kernel
theorem d_A_placeOf_32 : decode b_A_placeOf 32 = .ok (.goto 4, 3) := by decide +kernel
theorem d_A_placeOf_35 : decode b_A_placeOf 35 = .ok (.iconst (-1), 1) := by decide +kernel
theorem d_A_placeOf_36 : decode b_A_placeOf 36 = .ok (.ireturn, 1) := by decide +kernel
theorem d_A_placeOf_37 : decode b_A_placeOf 37 = .ok (.iinc 2 (-1), 3) := by decide +kernel
theorem d_A_placeOf_40 : decode b_A_placeOf 40 = .ok (.goto (-33), 3) := by decide +kernel
theorem d_A_placeOf_43 : decode b_A_placeOf 43 = .ok (.iconst (-1), 1) := by decide +kernel
theorem d_A_placeOf_44 : decode b_A_placeOf 44 = .ok (.ireturn, 1) := by decide +kernel
abbrev b_A_drop : ByteArray := prog_1_method_15_code
def y_A_drop : MethodName := ⟨"AgedMarks", "drop", "(I)V"⟩
theorem d_A_drop_0 : decode b_A_drop 0 = .ok (.iload_n 1, 1) := by decide +kernel
theorem d_A_drop_1 : decode b_A_drop 1 = .ok (.ifCond .lt 11, 3) := by decide +kernel
theorem d_A_drop_4 : decode b_A_drop 4 = .ok (.iload_n 1, 1) := by decide +kernel
theorem d_A_drop_5 : decode b_A_drop 5 = .ok (.aload_n 0, 1) := by decide +kernel
theorem d_A_drop_6 : decode b_A_drop 6 = .ok (.getfield 43, 3) := by decide +kernel
theorem d_A_drop_9 : decode b_A_drop 9 = .ok (.if_icmp .lt 4, 3) := by decide +kernel
theorem d_A_drop_12 : decode b_A_drop 12 = .ok (.return_, 1) := by decide +kernel
theorem d_A_drop_13 : decode b_A_drop 13 = .ok (.aload_n 0, 1) := by decide +kernel
theorem d_A_drop_14 : decode b_A_drop 14 = .ok (.getfield 19, 3) := by decide +kernel
theorem d_A_drop_17 : decode b_A_drop 17 = .ok (.aload_n 0, 1) := by decide +kernel
theorem d_A_drop_18 : decode b_A_drop 18 = .ok (.getfield 13, 3) := by decide +kernel
theorem d_A_drop_21 : decode b_A_drop 21 = .ok (.iload_n 1, 1) := by decide +kernel
theorem d_A_drop_22 : decode b_A_drop 22 = .ok (.iaload, 1) := by decide +kernel
theorem d_A_drop_23 : decode b_A_drop 23 = .ok (.invokevirtual 124, 3) := by decide +kernel
theorem d_A_drop_26 : decode b_A_drop 26 = .ok (.aload_n 0, 1) := by decide +kernel
theorem d_A_drop_27 : decode b_A_drop 27 = .ok (.getfield 43, 3) := by decide +kernel
theorem d_A_drop_30 : decode b_A_drop 30 = .ok (.iconst 1, 1) := by decide +kernel
theorem d_A_drop_31 : decode b_A_drop 31 = .ok (.isub, 1) := by decide +kernel
theorem d_A_drop_32 : decode b_A_drop 32 = .ok (.iload_n 1, 1) := by decide +kernel
theorem d_A_drop_33 : decode b_A_drop 33 = .ok (.isub, 1) := by decide +kernel
theorem d_A_drop_34 : decode b_A_drop 34 = .ok (.istore_n 2, 1) := by decide +kernel
theorem d_A_drop_35 : decode b_A_drop 35 = .ok (.aload_n 0, 1) := by decide +kernel
theorem d_A_drop_36 : decode b_A_drop 36 = .ok (.getfield 9, 3) := by decide +kernel
theorem d_A_drop_39 : decode b_A_drop 39 = .ok (.iload_n 1, 1) := by decide +kernel
theorem d_A_drop_40 : decode b_A_drop 40 = .ok (.iconst 1, 1) := by decide +kernel
theorem d_A_drop_41 : decode b_A_drop 41 = .ok (.iadd, 1) := by decide +kernel
theorem d_A_drop_42 : decode b_A_drop 42 = .ok (.aload_n 0, 1) := by decide +kernel
theorem d_A_drop_43 : decode b_A_drop 43 = .ok (.getfield 9, 3) := by decide +kernel
theorem d_A_drop_46 : decode b_A_drop 46 = .ok (.iload_n 1, 1) := by decide +kernel
theorem d_A_drop_47 : decode b_A_drop 47 = .ok (.iload_n 2, 1) := by decide +kernel
theorem d_A_drop_48 : decode b_A_drop 48 = .ok (.invokestatic 127, 3) := by decide +kernel
theorem d_A_drop_51 : decode b_A_drop 51 = .ok (.aload_n 0, 1) := by decide +kernel
theorem d_A_drop_52 : decode b_A_drop 52 = .ok (.getfield 13, 3) := by decide +kernel
theorem d_A_drop_55 : decode b_A_drop 55 = .ok (.iload_n 1, 1) := by decide +kernel
theorem d_A_drop_56 : decode b_A_drop 56 = .ok (.iconst 1, 1) := by decide +kernel
theorem d_A_drop_57 : decode b_A_drop 57 = .ok (.iadd, 1) := by decide +kernel
theorem d_A_drop_58 : decode b_A_drop 58 = .ok (.aload_n 0, 1) := by decide +kernel
theorem d_A_drop_59 : decode b_A_drop 59 = .ok (.getfield 13, 3) := by decide +kernel
theorem d_A_drop_62 : decode b_A_drop 62 = .ok (.iload_n 1, 1) := by decide +kernel
theorem d_A_drop_63 : decode b_A_drop 63 = .ok (.iload_n 2, 1) := by decide +kernel
theorem d_A_drop_64 : decode b_A_drop 64 = .ok (.invokestatic 127, 3) := by decide +kernel
theorem d_A_drop_67 : decode b_A_drop 67 = .ok (.aload_n 0, 1) := by decide +kernel
theorem d_A_drop_68 : decode b_A_drop 68 = .ok (.dup, 1) := by decide +kernel
theorem d_A_drop_69 : decode b_A_drop 69 = .ok (.getfield 43, 3) := by decide +kernel
theorem d_A_drop_72 : decode b_A_drop 72 = .ok (.iconst 1, 1) := by decide +kernel
theorem d_A_drop_73 : decode b_A_drop 73 = .ok (.isub, 1) := by decide +kernel
theorem d_A_drop_74 : decode b_A_drop 74 = .ok (.putfield 43, 3) := by decide +kernel
theorem d_A_drop_77 : decode b_A_drop 77 = .ok (.aload_n 0, 1) := by decide +kernel
theorem d_A_drop_78 : decode b_A_drop 78 = .ok (.dup, 1) := by decide +kernel
theorem d_A_drop_79 : decode b_A_drop 79 = .ok (.getfield 103, 3) := by decide +kernel
theorem d_A_drop_82 : decode b_A_drop 82 = .ok (.lconst 1, 1) := by decide +kernel
theorem d_A_drop_83 : decode b_A_drop 83 = .ok (.ladd, 1) := by decide +kernel
theorem d_A_drop_84 : decode b_A_drop 84 = .ok (.putfield 103, 3) := by decide +kernel
theorem d_A_drop_87 : decode b_A_drop 87 = .ok (.return_, 1) := by decide +kernel
abbrev b_A_moveTo : ByteArray := prog_1_method_16_code
def y_A_moveTo : MethodName := ⟨"AgedMarks", "moveTo", "(J)J"⟩
theorem d_A_moveTo_0 : decode b_A_moveTo 0 = .ok (.aload_n 0, 1) := by decide +kernel
theorem d_A_moveTo_1 : decode b_A_moveTo 1 = .ok (.lload_n 1, 1) := by decide +kernel
theorem d_A_moveTo_2 : decode b_A_moveTo 2 = .ok (.invokevirtual 133, 3) := by decide +kernel
theorem d_A_moveTo_5 : decode b_A_moveTo 5 = .ok (.lstore_n 3, 1) := by decide +kernel
theorem d_A_moveTo_6 : decode b_A_moveTo 6 = .ok (.aload_n 0, 1) := by decide +kernel
theorem d_A_moveTo_7 : decode b_A_moveTo 7 = .ok (.lload_n 1, 1) := by decide +kernel
theorem d_A_moveTo_8 : decode b_A_moveTo 8 = .ok (.putfield 56, 3) := by decide +kernel
theorem d_A_moveTo_11 : decode b_A_moveTo 11 = .ok (.aload_n 0, 1) := by decide +kernel
theorem d_A_moveTo_12 : decode b_A_moveTo 12 = .ok (.dup, 1) := by decide +kernel
theorem d_A_moveTo_13 : decode b_A_moveTo 13 = .ok (.getfield 106, 3) := by decide +kernel
theorem d_A_moveTo_16 : decode b_A_moveTo 16 = .ok (.lload_n 3, 1) := by decide +kernel
theorem d_A_moveTo_17 : decode b_A_moveTo 17 = .ok (.ladd, 1) := by decide +kernel
theorem d_A_moveTo_18 : decode b_A_moveTo 18 = .ok (.putfield 106, 3) := by decide +kernel
theorem d_A_moveTo_21 : decode b_A_moveTo 21 = .ok (.lload_n 3, 1) := by decide +kernel
theorem d_A_moveTo_22 : decode b_A_moveTo 22 = .ok (.lreturn, 1) := by decide +kernel
abbrev b_A_costOf : ByteArray := prog_1_method_17_code
def y_A_costOf : MethodName := ⟨"AgedMarks", "costOf", "(J)J"⟩
theorem d_A_costOf_0 : decode b_A_costOf 0 = .ok (.aload_n 0, 1) := by decide +kernel
theorem d_A_costOf_1 : decode b_A_costOf 1 = .ok (.getfield 43, 3) := by decide +kernel
theorem d_A_costOf_4 : decode b_A_costOf 4 = .ok (.iconst 1, 1) := by decide +kernel
theorem d_A_costOf_5 : decode b_A_costOf 5 = .ok (.isub, 1) := by decide +kernel
theorem d_A_costOf_6 : decode b_A_costOf 6 = .ok (.istore_n 3, 1) := by decide +kernel
theorem d_A_costOf_7 : decode b_A_costOf 7 = .ok (.iload_n 3, 1) := by decide +kernel
theorem d_A_costOf_8 : decode b_A_costOf 8 = .ok (.ifCond .le 27, 3) := by decide +kernel
theorem d_A_costOf_11 : decode b_A_costOf 11 = .ok (.aload_n 0, 1) := by decide +kernel
theorem d_A_costOf_12 : decode b_A_costOf 12 = .ok (.iload_n 3, 1) := by decide +kernel
theorem d_A_costOf_13 : decode b_A_costOf 13 = .ok (.invokevirtual 82, 3) := by decide +kernel
theorem d_A_costOf_16 : decode b_A_costOf 16 = .ok (.lload_n 1, 1) := by decide +kernel
theorem d_A_costOf_17 : decode b_A_costOf 17 = .ok (.lcmp, 1) := by decide +kernel
theorem d_A_costOf_18 : decode b_A_costOf 18 = .ok (.ifCond .gt 11, 3) := by decide +kernel
theorem d_A_costOf_21 : decode b_A_costOf 21 = .ok (.lload_n 1, 1) := by decide +kernel
theorem d_A_costOf_22 : decode b_A_costOf 22 = .ok (.aload_n 0, 1) := by decide +kernel
theorem d_A_costOf_23 : decode b_A_costOf 23 = .ok (.iload_n 3, 1) := by decide +kernel
theorem d_A_costOf_24 : decode b_A_costOf 24 = .ok (.invokevirtual 82, 3) := by decide +kernel
theorem d_A_costOf_27 : decode b_A_costOf 27 = .ok (.lsub, 1) := by decide +kernel
theorem d_A_costOf_28 : decode b_A_costOf 28 = .ok (.lreturn, 1) := by decide +kernel
theorem d_A_costOf_29 : decode b_A_costOf 29 = .ok (.iinc 3 (-1), 3) := by decide +kernel
theorem d_A_costOf_32 : decode b_A_costOf 32 = .ok (.goto (-25), 3) := by decide +kernel
theorem d_A_costOf_35 : decode b_A_costOf 35 = .ok (.lload_n 1, 1) := by decide +kernel
theorem d_A_costOf_36 : decode b_A_costOf 36 = .ok (.lreturn, 1) := by decide +kernel
abbrev b_A_countAt : ByteArray := prog_1_method_18_code
def y_A_countAt : MethodName := ⟨"AgedMarks", "countAt", "(I)J"⟩
theorem d_A_countAt_0 : decode b_A_countAt 0 = .ok (.iload_n 1, 1) := by decide +kernel
theorem d_A_countAt_1 : decode b_A_countAt 1 = .ok (.ifCond .lt 26, 3) := by decide +kernel
theorem d_A_countAt_4 : decode b_A_countAt 4 = .ok (.iload_n 1, 1) := by decide +kernel
theorem d_A_countAt_5 : decode b_A_countAt 5 = .ok (.sipush 320, 3) := by decide +kernel
theorem d_A_countAt_8 : decode b_A_countAt 8 = .ok (.if_icmp .ge 19, 3) := by decide +kernel
theorem d_A_countAt_11 : decode b_A_countAt 11 = .ok (.aload_n 0, 1) := by decide +kernel
theorem d_A_countAt_12 : decode b_A_countAt 12 = .ok (.getfield 9, 3) := by decide +kernel
theorem d_A_countAt_15 : decode b_A_countAt 15 = .ok (.iload_n 1, 1) := by decide +kernel
theorem d_A_countAt_16 : decode b_A_countAt 16 = .ok (.iaload, 1) := by decide +kernel
theorem d_A_countAt_17 : decode b_A_countAt 17 = .ok (.i2l, 1) := by decide +kernel
theorem d_A_countAt_18 : decode b_A_countAt 18 = .ok (.aload_n 0, 1) := by decide +kernel
theorem d_A_countAt_19 : decode b_A_countAt 19 = .ok (.getfield 32, 3) := by decide +kernel
theorem d_A_countAt_22 : decode b_A_countAt 22 = .ok (.i2l, 1) := by decide +kernel
theorem d_A_countAt_23 : decode b_A_countAt 23 = .ok (.lmul, 1) := by decide +kernel
theorem d_A_countAt_24 : decode b_A_countAt 24 = .ok (.goto 4, 3) := by decide +kernel
theorem d_A_countAt_27 : decode b_A_countAt 27 = .ok (.lconst 0, 1) := by decide +kernel
theorem d_A_countAt_28 : decode b_A_countAt 28 = .ok (.lreturn, 1) := by decide +kernel
