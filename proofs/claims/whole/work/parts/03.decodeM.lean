abbrev b_M_init : ByteArray := prog_4_method_1_code
def y_M_init : MethodName := ⟨"AgedMarksModel", "<init>", "(II)V"⟩
theorem d_M_init_0 : decode b_M_init 0 = .ok (.aload_n 0, 1) := by decide +kernel
theorem d_M_init_1 : decode b_M_init 1 = .ok (.invokespecial 1, 3) := by decide +kernel
theorem d_M_init_4 : decode b_M_init 4 = .ok (.aload_n 0, 1) := by decide +kernel
theorem d_M_init_5 : decode b_M_init 5 = .ok (.iconst 1, 1) := by decide +kernel
theorem d_M_init_6 : decode b_M_init 6 = .ok (.putfield 7, 3) := by decide +kernel
theorem d_M_init_9 : decode b_M_init 9 = .ok (.aload_n 0, 1) := by decide +kernel
theorem d_M_init_10 : decode b_M_init 10 = .ok (.sipush 1200, 3) := by decide +kernel
theorem d_M_init_13 : decode b_M_init 13 = .ok (.newarray .int, 2) := by decide +kernel
theorem d_M_init_15 : decode b_M_init 15 = .ok (.putfield 13, 3) := by decide +kernel
theorem d_M_init_18 : decode b_M_init 18 = .ok (.aload_n 0, 1) := by decide +kernel
theorem d_M_init_19 : decode b_M_init 19 = .ok (.sipush 1200, 3) := by decide +kernel
theorem d_M_init_22 : decode b_M_init 22 = .ok (.newarray .int, 2) := by decide +kernel
theorem d_M_init_24 : decode b_M_init 24 = .ok (.putfield 17, 3) := by decide +kernel
theorem d_M_init_27 : decode b_M_init 27 = .ok (.aload_n 0, 1) := by decide +kernel
theorem d_M_init_28 : decode b_M_init 28 = .ok (.iconst 1, 1) := by decide +kernel
theorem d_M_init_29 : decode b_M_init 29 = .ok (.putfield 20, 3) := by decide +kernel
theorem d_M_init_32 : decode b_M_init 32 = .ok (.aload_n 0, 1) := by decide +kernel
theorem d_M_init_33 : decode b_M_init 33 = .ok (.iload_n 1, 1) := by decide +kernel
theorem d_M_init_34 : decode b_M_init 34 = .ok (.iconst 1, 1) := by decide +kernel
theorem d_M_init_35 : decode b_M_init 35 = .ok (.if_icmp .ge 7, 3) := by decide +kernel
theorem d_M_init_38 : decode b_M_init 38 = .ok (.iconst 1, 1) := by decide +kernel
theorem d_M_init_39 : decode b_M_init 39 = .ok (.goto 17, 3) := by decide +kernel
theorem d_M_init_42 : decode b_M_init 42 = .ok (.iload_n 1, 1) := by decide +kernel
theorem d_M_init_43 : decode b_M_init 43 = .ok (.sipush 1000, 3) := by decide +kernel
theorem d_M_init_46 : decode b_M_init 46 = .ok (.if_icmp .le 9, 3) := by decide +kernel
theorem d_M_init_49 : decode b_M_init 49 = .ok (.sipush 1000, 3) := by decide +kernel
theorem d_M_init_52 : decode b_M_init 52 = .ok (.goto 4, 3) := by decide +kernel
theorem d_M_init_55 : decode b_M_init 55 = .ok (.iload_n 1, 1) := by decide +kernel
theorem d_M_init_56 : decode b_M_init 56 = .ok (.putfield 23, 3) := by decide +kernel
theorem d_M_init_59 : decode b_M_init 59 = .ok (.aload_n 0, 1) := by decide +kernel
theorem d_M_init_60 : decode b_M_init 60 = .ok (.iload_n 2, 1) := by decide +kernel
theorem d_M_init_61 : decode b_M_init 61 = .ok (.iconst 2, 1) := by decide +kernel
theorem d_M_init_62 : decode b_M_init 62 = .ok (.if_icmp .ge 7, 3) := by decide +kernel
theorem d_M_init_65 : decode b_M_init 65 = .ok (.iconst 2, 1) := by decide +kernel
theorem d_M_init_66 : decode b_M_init 66 = .ok (.goto 15, 3) := by decide +kernel
theorem d_M_init_69 : decode b_M_init 69 = .ok (.iload_n 2, 1) := by decide +kernel
theorem d_M_init_70 : decode b_M_init 70 = .ok (.bipush 16, 2) := by decide +kernel
theorem d_M_init_72 : decode b_M_init 72 = .ok (.if_icmp .le 8, 3) := by decide +kernel
theorem d_M_init_75 : decode b_M_init 75 = .ok (.bipush 16, 2) := by decide +kernel
theorem d_M_init_77 : decode b_M_init 77 = .ok (.goto 4, 3) := by decide +kernel
theorem d_M_init_80 : decode b_M_init 80 = .ok (.iload_n 2, 1) := by decide +kernel
theorem d_M_init_81 : decode b_M_init 81 = .ok (.putfield 26, 3) := by decide +kernel
theorem d_M_init_84 : decode b_M_init 84 = .ok (.return_, 1) := by decide +kernel
abbrev b_M_thrown : ByteArray := prog_4_method_2_code
def y_M_thrown : MethodName := ⟨"AgedMarksModel", "thrown", "()I"⟩
theorem d_M_thrown_0 : decode b_M_thrown 0 = .ok (.aload_n 0, 1) := by decide +kernel
theorem d_M_thrown_1 : decode b_M_thrown 1 = .ok (.getfield 29, 3) := by decide +kernel
theorem d_M_thrown_4 : decode b_M_thrown 4 = .ok (.ireturn, 1) := by decide +kernel
abbrev b_M_fails : ByteArray := prog_4_method_3_code
def y_M_fails : MethodName := ⟨"AgedMarksModel", "fails", "(ZZ)Z"⟩
theorem d_M_fails_0 : decode b_M_fails 0 = .ok (.aload_n 0, 1) := by decide +kernel
theorem d_M_fails_1 : decode b_M_fails 1 = .ok (.iload_n 1, 1) := by decide +kernel
theorem d_M_fails_2 : decode b_M_fails 2 = .ok (.ifCond .eq 7, 3) := by decide +kernel
theorem d_M_fails_5 : decode b_M_fails 5 = .ok (.iconst 1, 1) := by decide +kernel
theorem d_M_fails_6 : decode b_M_fails 6 = .ok (.goto 12, 3) := by decide +kernel
theorem d_M_fails_9 : decode b_M_fails 9 = .ok (.iload_n 2, 1) := by decide +kernel
theorem d_M_fails_10 : decode b_M_fails 10 = .ok (.ifCond .eq 7, 3) := by decide +kernel
theorem d_M_fails_13 : decode b_M_fails 13 = .ok (.iconst 2, 1) := by decide +kernel
theorem d_M_fails_14 : decode b_M_fails 14 = .ok (.goto 4, 3) := by decide +kernel
theorem d_M_fails_17 : decode b_M_fails 17 = .ok (.iconst 0, 1) := by decide +kernel
theorem d_M_fails_18 : decode b_M_fails 18 = .ok (.putfield 29, 3) := by decide +kernel
theorem d_M_fails_21 : decode b_M_fails 21 = .ok (.aload_n 0, 1) := by decide +kernel
theorem d_M_fails_22 : decode b_M_fails 22 = .ok (.getfield 29, 3) := by decide +kernel
theorem d_M_fails_25 : decode b_M_fails 25 = .ok (.ifCond .le 7, 3) := by decide +kernel
theorem d_M_fails_28 : decode b_M_fails 28 = .ok (.iconst 1, 1) := by decide +kernel
theorem d_M_fails_29 : decode b_M_fails 29 = .ok (.goto 4, 3) := by decide +kernel
theorem d_M_fails_32 : decode b_M_fails 32 = .ok (.iconst 0, 1) := by decide +kernel
theorem d_M_fails_33 : decode b_M_fails 33 = .ok (.ireturn, 1) := by decide +kernel
abbrev b_M_freeSlot : ByteArray := prog_4_method_4_code
def y_M_freeSlot : MethodName := ⟨"AgedMarksModel", "freeSlot", "()I"⟩
theorem d_M_freeSlot_0 : decode b_M_freeSlot 0 = .ok (.iconst 0, 1) := by decide +kernel
theorem d_M_freeSlot_1 : decode b_M_freeSlot 1 = .ok (.istore_n 1, 1) := by decide +kernel
theorem d_M_freeSlot_2 : decode b_M_freeSlot 2 = .ok (.iconst 1, 1) := by decide +kernel
theorem d_M_freeSlot_3 : decode b_M_freeSlot 3 = .ok (.istore_n 2, 1) := by decide +kernel
theorem d_M_freeSlot_4 : decode b_M_freeSlot 4 = .ok (.iload_n 2, 1) := by decide +kernel
theorem d_M_freeSlot_5 : decode b_M_freeSlot 5 = .ok (.ifCond .eq 47, 3) := by decide +kernel
theorem d_M_freeSlot_8 : decode b_M_freeSlot 8 = .ok (.iconst 0, 1) := by decide +kernel
theorem d_M_freeSlot_9 : decode b_M_freeSlot 9 = .ok (.istore_n 2, 1) := by decide +kernel
theorem d_M_freeSlot_10 : decode b_M_freeSlot 10 = .ok (.iconst 0, 1) := by decide +kernel
theorem d_M_freeSlot_11 : decode b_M_freeSlot 11 = .ok (.istore_n 3, 1) := by decide +kernel
theorem d_M_freeSlot_12 : decode b_M_freeSlot 12 = .ok (.iload_n 3, 1) := by decide +kernel
theorem d_M_freeSlot_13 : decode b_M_freeSlot 13 = .ok (.aload_n 0, 1) := by decide +kernel
theorem d_M_freeSlot_14 : decode b_M_freeSlot 14 = .ok (.getfield 7, 3) := by decide +kernel
theorem d_M_freeSlot_17 : decode b_M_freeSlot 17 = .ok (.if_icmp .ge 29, 3) := by decide +kernel
theorem d_M_freeSlot_20 : decode b_M_freeSlot 20 = .ok (.iload_n 2, 1) := by decide +kernel
theorem d_M_freeSlot_21 : decode b_M_freeSlot 21 = .ok (.ifCond .ne 13, 3) := by decide +kernel
theorem d_M_freeSlot_24 : decode b_M_freeSlot 24 = .ok (.aload_n 0, 1) := by decide +kernel
theorem d_M_freeSlot_25 : decode b_M_freeSlot 25 = .ok (.getfield 17, 3) := by decide +kernel
theorem d_M_freeSlot_28 : decode b_M_freeSlot 28 = .ok (.iload_n 3, 1) := by decide +kernel
theorem d_M_freeSlot_29 : decode b_M_freeSlot 29 = .ok (.iaload, 1) := by decide +kernel
theorem d_M_freeSlot_30 : decode b_M_freeSlot 30 = .ok (.iload_n 1, 1) := by decide +kernel
theorem d_M_freeSlot_31 : decode b_M_freeSlot 31 = .ok (.if_icmp .ne 7, 3) := by decide +kernel
theorem d_M_freeSlot_34 : decode b_M_freeSlot 34 = .ok (.iconst 1, 1) := by decide +kernel
theorem d_M_freeSlot_35 : decode b_M_freeSlot 35 = .ok (.goto 4, 3) := by decide +kernel
theorem d_M_freeSlot_38 : decode b_M_freeSlot 38 = .ok (.iconst 0, 1) := by decide +kernel
theorem d_M_freeSlot_39 : decode b_M_freeSlot 39 = .ok (.istore_n 2, 1) := by decide +kernel
theorem d_M_freeSlot_40 : decode b_M_freeSlot 40 = .ok (.iinc 3 1, 3) := by decide +kernel
theorem d_M_freeSlot_43 : decode b_M_freeSlot 43 = .ok (.goto (-31), 3) := by decide +kernel
theorem d_M_freeSlot_46 : decode b_M_freeSlot 46 = .ok (.iinc 1 1, 3) := by decide +kernel
theorem d_M_freeSlot_49 : decode b_M_freeSlot 49 = .ok (.goto (-45), 3) := by decide +kernel
theorem d_M_freeSlot_52 : decode b_M_freeSlot 52 = .ok (.iload_n 1, 1) := by decide +kernel
theorem d_M_freeSlot_53 : decode b_M_freeSlot 53 = .ok (.iconst 1, 1) := by decide +kernel
theorem d_M_freeSlot_54 : decode b_M_freeSlot 54 = .ok (.isub, 1) := by decide +kernel
theorem d_M_freeSlot_55 : decode b_M_freeSlot 55 = .ok (.ireturn, 1) := by decide +kernel
abbrev b_M_stays : ByteArray := prog_4_method_5_code
def y_M_stays : MethodName := ⟨"AgedMarksModel", "stays", "(II)Z"⟩
theorem d_M_stays_0 : decode b_M_stays 0 = .ok (.iconst 1, 1) := by decide +kernel
theorem d_M_stays_1 : decode b_M_stays 1 = .ok (.istore_n 3, 1) := by decide +kernel
theorem d_M_stays_2 : decode b_M_stays 2 = .ok (.aload_n 0, 1) := by decide +kernel
theorem d_M_stays_3 : decode b_M_stays 3 = .ok (.getfield 26, 3) := by decide +kernel
theorem d_M_stays_6 : decode b_M_stays 6 = .ok (.i2l, 1) := by decide +kernel
theorem d_M_stays_7 : decode b_M_stays 7 = .ok (.iload_n 3, 1) := by decide +kernel
theorem d_M_stays_8 : decode b_M_stays 8 = .ok (.i2l, 1) := by decide +kernel
theorem d_M_stays_9 : decode b_M_stays 9 = .ok (.lmul, 1) := by decide +kernel
theorem d_M_stays_10 : decode b_M_stays 10 = .ok (.ldc2_w 32, 3) := by decide +kernel
theorem d_M_stays_13 : decode b_M_stays 13 = .ok (.lmul, 1) := by decide +kernel
theorem d_M_stays_14 : decode b_M_stays 14 = .ok (.iload_n 2, 1) := by decide +kernel
theorem d_M_stays_15 : decode b_M_stays 15 = .ok (.iload_n 1, 1) := by decide +kernel
theorem d_M_stays_16 : decode b_M_stays 16 = .ok (.isub, 1) := by decide +kernel
theorem d_M_stays_17 : decode b_M_stays 17 = .ok (.i2l, 1) := by decide +kernel
theorem d_M_stays_18 : decode b_M_stays 18 = .ok (.lcmp, 1) := by decide +kernel
theorem d_M_stays_19 : decode b_M_stays 19 = .ok (.ifCond .gt 10, 3) := by decide +kernel
theorem d_M_stays_22 : decode b_M_stays 22 = .ok (.iload_n 3, 1) := by decide +kernel
theorem d_M_stays_23 : decode b_M_stays 23 = .ok (.iconst 2, 1) := by decide +kernel
theorem d_M_stays_24 : decode b_M_stays 24 = .ok (.imul, 1) := by decide +kernel
theorem d_M_stays_25 : decode b_M_stays 25 = .ok (.istore_n 3, 1) := by decide +kernel
theorem d_M_stays_26 : decode b_M_stays 26 = .ok (.goto (-24), 3) := by decide +kernel
theorem d_M_stays_29 : decode b_M_stays 29 = .ok (.iload_n 1, 1) := by decide +kernel
theorem d_M_stays_30 : decode b_M_stays 30 = .ok (.iload_n 3, 1) := by decide +kernel
theorem d_M_stays_31 : decode b_M_stays 31 = .ok (.irem, 1) := by decide +kernel
theorem d_M_stays_32 : decode b_M_stays 32 = .ok (.ifCond .ne 7, 3) := by decide +kernel
theorem d_M_stays_35 : decode b_M_stays 35 = .ok (.iconst 1, 1) := by decide +kernel
theorem d_M_stays_36 : decode b_M_stays 36 = .ok (.goto 4, 3) := by decide +kernel
theorem d_M_stays_39 : decode b_M_stays 39 = .ok (.iconst 0, 1) := by decide +kernel
theorem d_M_stays_40 : decode b_M_stays 40 = .ok (.ireturn, 1) := by decide +kernel
abbrev b_M_lay : ByteArray := prog_4_method_6_code
def y_M_lay : MethodName := ⟨"AgedMarksModel", "lay", "(I)V"⟩
theorem d_M_lay_0 : decode b_M_lay 0 = .ok (.aload_n 0, 1) := by decide +kernel
theorem d_M_lay_1 : decode b_M_lay 1 = .ok (.invokevirtual 34, 3) := by decide +kernel
theorem d_M_lay_4 : decode b_M_lay 4 = .ok (.istore_n 2, 1) := by decide +kernel
theorem d_M_lay_5 : decode b_M_lay 5 = .ok (.iconst 0, 1) := by decide +kernel
theorem d_M_lay_6 : decode b_M_lay 6 = .ok (.istore_n 3, 1) := by decide +kernel
theorem d_M_lay_7 : decode b_M_lay 7 = .ok (.iconst 0, 1) := by decide +kernel
theorem d_M_lay_8 : decode b_M_lay 8 = .ok (.istore 4, 2) := by decide +kernel
theorem d_M_lay_10 : decode b_M_lay 10 = .ok (.iload 4, 2) := by decide +kernel
theorem d_M_lay_12 : decode b_M_lay 12 = .ok (.aload_n 0, 1) := by decide +kernel
theorem d_M_lay_13 : decode b_M_lay 13 = .ok (.getfield 7, 3) := by decide +kernel
theorem d_M_lay_16 : decode b_M_lay 16 = .ok (.if_icmp .ge 56, 3) := by decide +kernel
theorem d_M_lay_19 : decode b_M_lay 19 = .ok (.aload_n 0, 1) := by decide +kernel
theorem d_M_lay_20 : decode b_M_lay 20 = .ok (.aload_n 0, 1) := by decide +kernel
theorem d_M_lay_21 : decode b_M_lay 21 = .ok (.getfield 13, 3) := by decide +kernel
theorem d_M_lay_24 : decode b_M_lay 24 = .ok (.iload 4, 2) := by decide +kernel
theorem d_M_lay_26 : decode b_M_lay 26 = .ok (.iaload, 1) := by decide +kernel
theorem d_M_lay_27 : decode b_M_lay 27 = .ok (.iload_n 1, 1) := by decide +kernel
theorem d_M_lay_28 : decode b_M_lay 28 = .ok (.invokevirtual 38, 3) := by decide +kernel
theorem d_M_lay_31 : decode b_M_lay 31 = .ok (.ifCond .ne 6, 3) := by decide +kernel
theorem d_M_lay_34 : decode b_M_lay 34 = .ok (.goto 32, 3) := by decide +kernel
theorem d_M_lay_37 : decode b_M_lay 37 = .ok (.aload_n 0, 1) := by decide +kernel
theorem d_M_lay_38 : decode b_M_lay 38 = .ok (.getfield 13, 3) := by decide +kernel
theorem d_M_lay_41 : decode b_M_lay 41 = .ok (.iload_n 3, 1) := by decide +kernel
theorem d_M_lay_42 : decode b_M_lay 42 = .ok (.aload_n 0, 1) := by decide +kernel
theorem d_M_lay_43 : decode b_M_lay 43 = .ok (.getfield 13, 3) := by decide +kernel
theorem d_M_lay_46 : decode b_M_lay 46 = .ok (.iload 4, 2) := by decide +kernel
theorem d_M_lay_48 : decode b_M_lay 48 = .ok (.iaload, 1) := by decide +kernel
theorem d_M_lay_49 : decode b_M_lay 49 = .ok (.iastore, 1) := by decide +kernel
theorem d_M_lay_50 : decode b_M_lay 50 = .ok (.aload_n 0, 1) := by decide +kernel
theorem d_M_lay_51 : decode b_M_lay 51 = .ok (.getfield 17, 3) := by decide +kernel
theorem d_M_lay_54 : decode b_M_lay 54 = .ok (.iload_n 3, 1) := by decide +kernel
theorem d_M_lay_55 : decode b_M_lay 55 = .ok (.aload_n 0, 1) := by decide +kernel
theorem d_M_lay_56 : decode b_M_lay 56 = .ok (.getfield 17, 3) := by decide +kernel
theorem d_M_lay_59 : decode b_M_lay 59 = .ok (.iload 4, 2) := by decide +kernel
theorem d_M_lay_61 : decode b_M_lay 61 = .ok (.iaload, 1) := by decide +kernel
theorem d_M_lay_62 : decode b_M_lay 62 = .ok (.iastore, 1) := by decide +kernel
theorem d_M_lay_63 : decode b_M_lay 63 = .ok (.iinc 3 1, 3) := by decide +kernel
theorem d_M_lay_66 : decode b_M_lay 66 = .ok (.iinc 4 1, 3) := by decide +kernel
theorem d_M_lay_69 : decode b_M_lay 69 = .ok (.goto (-59), 3) := by decide +kernel
theorem d_M_lay_72 : decode b_M_lay 72 = .ok (.aload_n 0, 1) := by decide +kernel
theorem d_M_lay_73 : decode b_M_lay 73 = .ok (.dup, 1) := by decide +kernel
theorem d_M_lay_74 : decode b_M_lay 74 = .ok (.getfield 42, 3) := by decide +kernel
theorem d_M_lay_77 : decode b_M_lay 77 = .ok (.aload_n 0, 1) := by decide +kernel
theorem d_M_lay_78 : decode b_M_lay 78 = .ok (.getfield 7, 3) := by decide +kernel
theorem d_M_lay_81 : decode b_M_lay 81 = .ok (.iload_n 3, 1) := by decide +kernel
theorem d_M_lay_82 : decode b_M_lay 82 = .ok (.isub, 1) := by decide +kernel
theorem d_M_lay_83 : decode b_M_lay 83 = .ok (.i2l, 1) := by decide +kernel
theorem d_M_lay_84 : decode b_M_lay 84 = .ok (.ladd, 1) := by decide +kernel
theorem d_M_lay_85 : decode b_M_lay 85 = .ok (.putfield 42, 3) := by decide +kernel
theorem d_M_lay_88 : decode b_M_lay 88 = .ok (.aload_n 0, 1) := by decide +kernel
theorem d_M_lay_89 : decode b_M_lay 89 = .ok (.getfield 13, 3) := by decide +kernel
theorem d_M_lay_92 : decode b_M_lay 92 = .ok (.iload_n 3, 1) := by decide +kernel
theorem d_M_lay_93 : decode b_M_lay 93 = .ok (.iload_n 1, 1) := by decide +kernel
theorem d_M_lay_94 : decode b_M_lay 94 = .ok (.iastore, 1) := by decide +kernel
theorem d_M_lay_95 : decode b_M_lay 95 = .ok (.aload_n 0, 1) := by decide +kernel
theorem d_M_lay_96 : decode b_M_lay 96 = .ok (.getfield 17, 3) := by decide +kernel
theorem d_M_lay_99 : decode b_M_lay 99 = .ok (.iload_n 3, 1) := by decide +kernel
theorem d_M_lay_100 : decode b_M_lay 100 = .ok (.iload_n 2, 1) := by decide +kernel
theorem d_M_lay_101 : decode b_M_lay 101 = .ok (.iastore, 1) := by decide +kernel
theorem d_M_lay_102 : decode b_M_lay 102 = .ok (.aload_n 0, 1) := by decide +kernel
theorem d_M_lay_103 : decode b_M_lay 103 = .ok (.iload_n 3, 1) := by decide +kernel
theorem d_M_lay_104 : decode b_M_lay 104 = .ok (.iconst 1, 1) := by decide +kernel
theorem d_M_lay_105 : decode b_M_lay 105 = .ok (.iadd, 1) := by decide +kernel
theorem d_M_lay_106 : decode b_M_lay 106 = .ok (.putfield 7, 3) := by decide +kernel
theorem d_M_lay_109 : decode b_M_lay 109 = .ok (.aload_n 0, 1) := by decide +kernel
theorem d_M_lay_110 : decode b_M_lay 110 = .ok (.dup, 1) := by decide +kernel
theorem d_M_lay_111 : decode b_M_lay 111 = .ok (.getfield 46, 3) := by decide +kernel
theorem d_M_lay_114 : decode b_M_lay 114 = .ok (.lconst 1, 1) := by decide +kernel
theorem d_M_lay_115 : decode b_M_lay 115 = .ok (.ladd, 1) := by decide +kernel
theorem d_M_lay_116 : decode b_M_lay 116 = .ok (.putfield 46, 3) := by decide +kernel
theorem d_M_lay_119 : decode b_M_lay 119 = .ok (.aload_n 0, 1) := by decide +kernel
theorem d_M_lay_120 : decode b_M_lay 120 = .ok (.aload_n 0, 1) := by decide +kernel
theorem d_M_lay_121 : decode b_M_lay 121 = .ok (.getfield 7, 3) := by decide +kernel
theorem d_M_lay_124 : decode b_M_lay 124 = .ok (.aload_n 0, 1) := by decide +kernel
theorem d_M_lay_125 : decode b_M_lay 125 = .ok (.getfield 20, 3) := by decide +kernel
theorem d_M_lay_128 : decode b_M_lay 128 = .ok (.if_icmp .le 10, 3) := by decide +kernel
theorem d_M_lay_131 : decode b_M_lay 131 = .ok (.aload_n 0, 1) := by decide +kernel
theorem d_M_lay_132 : decode b_M_lay 132 = .ok (.getfield 7, 3) := by decide +kernel
theorem d_M_lay_135 : decode b_M_lay 135 = .ok (.goto 7, 3) := by decide +kernel
theorem d_M_lay_138 : decode b_M_lay 138 = .ok (.aload_n 0, 1) := by decide +kernel
theorem d_M_lay_139 : decode b_M_lay 139 = .ok (.getfield 20, 3) := by decide +kernel
theorem d_M_lay_142 : decode b_M_lay 142 = .ok (.putfield 20, 3) := by decide +kernel
theorem d_M_lay_145 : decode b_M_lay 145 = .ok (.return_, 1) := by decide +kernel
abbrev b_M_run : ByteArray := prog_4_method_7_code
def y_M_run : MethodName := ⟨"AgedMarksModel", "run", "(I)I"⟩
theorem d_M_run_0 : decode b_M_run 0 = .ok (.aload_n 0, 1) := by decide +kernel
theorem d_M_run_1 : decode b_M_run 1 = .ok (.iload_n 1, 1) := by decide +kernel
theorem d_M_run_2 : decode b_M_run 2 = .ok (.ifCond .lt 10, 3) := by decide +kernel
theorem d_M_run_5 : decode b_M_run 5 = .ok (.iload_n 1, 1) := by decide +kernel
theorem d_M_run_6 : decode b_M_run 6 = .ok (.sipush 4000, 3) := by decide +kernel
theorem d_M_run_9 : decode b_M_run 9 = .ok (.if_icmp .le 7, 3) := by decide +kernel
theorem d_M_run_12 : decode b_M_run 12 = .ok (.iconst 1, 1) := by decide +kernel
theorem d_M_run_13 : decode b_M_run 13 = .ok (.goto 4, 3) := by decide +kernel
theorem d_M_run_16 : decode b_M_run 16 = .ok (.iconst 0, 1) := by decide +kernel
theorem d_M_run_17 : decode b_M_run 17 = .ok (.iload_n 1, 1) := by decide +kernel
theorem d_M_run_18 : decode b_M_run 18 = .ok (.ifCond .lt 34, 3) := by decide +kernel
theorem d_M_run_21 : decode b_M_run 21 = .ok (.iload_n 1, 1) := by decide +kernel
theorem d_M_run_22 : decode b_M_run 22 = .ok (.sipush 4000, 3) := by decide +kernel
theorem d_M_run_25 : decode b_M_run 25 = .ok (.if_icmp .gt 27, 3) := by decide +kernel
theorem d_M_run_28 : decode b_M_run 28 = .ok (.aload_n 0, 1) := by decide +kernel
theorem d_M_run_29 : decode b_M_run 29 = .ok (.getfield 49, 3) := by decide +kernel
theorem d_M_run_32 : decode b_M_run 32 = .ok (.iload_n 1, 1) := by decide +kernel
theorem d_M_run_33 : decode b_M_run 33 = .ok (.i2l, 1) := by decide +kernel
theorem d_M_run_34 : decode b_M_run 34 = .ok (.ladd, 1) := by decide +kernel
theorem d_M_run_35 : decode b_M_run 35 = .ok (.ldc2_w 52, 3) := by decide +kernel
theorem d_M_run_38 : decode b_M_run 38 = .ok (.aload_n 0, 1) := by decide +kernel
theorem d_M_run_39 : decode b_M_run 39 = .ok (.getfield 23, 3) := by decide +kernel
theorem d_M_run_42 : decode b_M_run 42 = .ok (.i2l, 1) := by decide +kernel
theorem d_M_run_43 : decode b_M_run 43 = .ok (.lmul, 1) := by decide +kernel
theorem d_M_run_44 : decode b_M_run 44 = .ok (.lcmp, 1) := by decide +kernel
theorem d_M_run_45 : decode b_M_run 45 = .ok (.ifCond .le 7, 3) := by decide +kernel
theorem d_M_run_48 : decode b_M_run 48 = .ok (.iconst 1, 1) := by decide +kernel
theorem d_M_run_49 : decode b_M_run 49 = .ok (.goto 4, 3) := by decide +kernel
theorem d_M_run_52 : decode b_M_run 52 = .ok (.iconst 0, 1) := by decide +kernel
theorem d_M_run_53 : decode b_M_run 53 = .ok (.invokevirtual 54, 3) := by decide +kernel
theorem d_M_run_56 : decode b_M_run 56 = .ok (.ifCond .eq 5, 3) := by decide +kernel
theorem d_M_run_59 : decode b_M_run 59 = .ok (.iconst 0, 1) := by decide +kernel
theorem d_M_run_60 : decode b_M_run 60 = .ok (.ireturn, 1) := by decide +kernel
theorem d_M_run_61 : decode b_M_run 61 = .ok (.aload_n 0, 1) := by decide +kernel
theorem d_M_run_62 : decode b_M_run 62 = .ok (.dup, 1) := by decide +kernel
theorem d_M_run_63 : decode b_M_run 63 = .ok (.getfield 49, 3) := by decide +kernel
theorem d_M_run_66 : decode b_M_run 66 = .ok (.iload_n 1, 1) := by decide +kernel
theorem d_M_run_67 : decode b_M_run 67 = .ok (.i2l, 1) := by decide +kernel
theorem d_M_run_68 : decode b_M_run 68 = .ok (.ladd, 1) := by decide +kernel
theorem d_M_run_69 : decode b_M_run 69 = .ok (.putfield 49, 3) := by decide +kernel
theorem d_M_run_72 : decode b_M_run 72 = .ok (.iconst 0, 1) := by decide +kernel
theorem d_M_run_73 : decode b_M_run 73 = .ok (.istore_n 2, 1) := by decide +kernel
theorem d_M_run_74 : decode b_M_run 74 = .ok (.aload_n 0, 1) := by decide +kernel
theorem d_M_run_75 : decode b_M_run 75 = .ok (.getfield 58, 3) := by decide +kernel
theorem d_M_run_78 : decode b_M_run 78 = .ok (.aload_n 0, 1) := by decide +kernel
theorem d_M_run_79 : decode b_M_run 79 = .ok (.getfield 49, 3) := by decide +kernel
theorem d_M_run_82 : decode b_M_run 82 = .ok (.lcmp, 1) := by decide +kernel
theorem d_M_run_83 : decode b_M_run 83 = .ok (.ifCond .ge 52, 3) := by decide +kernel
theorem d_M_run_86 : decode b_M_run 86 = .ok (.aload_n 0, 1) := by decide +kernel
theorem d_M_run_87 : decode b_M_run 87 = .ok (.dup, 1) := by decide +kernel
theorem d_M_run_88 : decode b_M_run 88 = .ok (.getfield 58, 3) := by decide +kernel
theorem d_M_run_91 : decode b_M_run 91 = .ok (.lconst 1, 1) := by decide +kernel
theorem d_M_run_92 : decode b_M_run 92 = .ok (.ladd, 1) := by decide +kernel
theorem d_M_run_93 : decode b_M_run 93 = .ok (.putfield 58, 3) := by decide +kernel
theorem d_M_run_96 : decode b_M_run 96 = .ok (.aload_n 0, 1) := by decide +kernel
theorem d_M_run_97 : decode b_M_run 97 = .ok (.getfield 58, 3) := by decide +kernel
theorem d_M_run_100 : decode b_M_run 100 = .ok (.aload_n 0, 1) := by decide +kernel
theorem d_M_run_101 : decode b_M_run 101 = .ok (.getfield 23, 3) := by decide +kernel
theorem d_M_run_104 : decode b_M_run 104 = .ok (.i2l, 1) := by decide +kernel
theorem d_M_run_105 : decode b_M_run 105 = .ok (.lrem, 1) := by decide +kernel
theorem d_M_run_106 : decode b_M_run 106 = .ok (.lconst 0, 1) := by decide +kernel
theorem d_M_run_107 : decode b_M_run 107 = .ok (.lcmp, 1) := by decide +kernel
theorem d_M_run_108 : decode b_M_run 108 = .ok (.ifCond .eq 6, 3) := by decide +kernel
theorem d_M_run_111 : decode b_M_run 111 = .ok (.goto (-37), 3) := by decide +kernel
theorem d_M_run_114 : decode b_M_run 114 = .ok (.aload_n 0, 1) := by decide +kernel
theorem d_M_run_115 : decode b_M_run 115 = .ok (.aload_n 0, 1) := by decide +kernel
theorem d_M_run_116 : decode b_M_run 116 = .ok (.getfield 58, 3) := by decide +kernel
theorem d_M_run_119 : decode b_M_run 119 = .ok (.aload_n 0, 1) := by decide +kernel
theorem d_M_run_120 : decode b_M_run 120 = .ok (.getfield 23, 3) := by decide +kernel
theorem d_M_run_123 : decode b_M_run 123 = .ok (.i2l, 1) := by decide +kernel
theorem d_M_run_124 : decode b_M_run 124 = .ok (.ldiv, 1) := by decide +kernel
theorem d_M_run_125 : decode b_M_run 125 = .ok (.l2i, 1) := by decide +kernel
theorem d_M_run_126 : decode b_M_run 126 = .ok (.invokevirtual 61, 3) := by decide +kernel
theorem d_M_run_129 : decode b_M_run 129 = .ok (.iinc 2 1, 3) := by decide +kernel
theorem d_M_run_132 : decode b_M_run 132 = .ok (.goto (-58), 3) := by decide +kernel
theorem d_M_run_135 : decode b_M_run 135 = .ok (.iload_n 2, 1) := by decide +kernel
theorem d_M_run_136 : decode b_M_run 136 = .ok (.ireturn, 1) := by decide +kernel
abbrev b_M_cost : ByteArray := prog_4_method_8_code
def y_M_cost : MethodName := ⟨"AgedMarksModel", "cost", "(J)J"⟩
theorem d_M_cost_0 : decode b_M_cost 0 = .ok (.aload_n 0, 1) := by decide +kernel
theorem d_M_cost_1 : decode b_M_cost 1 = .ok (.getfield 7, 3) := by decide +kernel
theorem d_M_cost_4 : decode b_M_cost 4 = .ok (.iconst 1, 1) := by decide +kernel
theorem d_M_cost_5 : decode b_M_cost 5 = .ok (.isub, 1) := by decide +kernel
theorem d_M_cost_6 : decode b_M_cost 6 = .ok (.istore_n 3, 1) := by decide +kernel
theorem d_M_cost_7 : decode b_M_cost 7 = .ok (.aload_n 0, 1) := by decide +kernel
theorem d_M_cost_8 : decode b_M_cost 8 = .ok (.getfield 13, 3) := by decide +kernel
theorem d_M_cost_11 : decode b_M_cost 11 = .ok (.iload_n 3, 1) := by decide +kernel
theorem d_M_cost_12 : decode b_M_cost 12 = .ok (.iaload, 1) := by decide +kernel
theorem d_M_cost_13 : decode b_M_cost 13 = .ok (.i2l, 1) := by decide +kernel
theorem d_M_cost_14 : decode b_M_cost 14 = .ok (.aload_n 0, 1) := by decide +kernel
theorem d_M_cost_15 : decode b_M_cost 15 = .ok (.getfield 23, 3) := by decide +kernel
theorem d_M_cost_18 : decode b_M_cost 18 = .ok (.i2l, 1) := by decide +kernel
theorem d_M_cost_19 : decode b_M_cost 19 = .ok (.lmul, 1) := by decide +kernel
theorem d_M_cost_20 : decode b_M_cost 20 = .ok (.lload_n 1, 1) := by decide +kernel
theorem d_M_cost_21 : decode b_M_cost 21 = .ok (.lcmp, 1) := by decide +kernel
theorem d_M_cost_22 : decode b_M_cost 22 = .ok (.ifCond .le 9, 3) := by decide +kernel
theorem d_M_cost_25 : decode b_M_cost 25 = .ok (.iinc 3 (-1), 3) := by decide +kernel
theorem d_M_cost_28 : decode b_M_cost 28 = .ok (.goto (-21), 3) := by decide +kernel
theorem d_M_cost_31 : decode b_M_cost 31 = .ok (.lload_n 1, 1) := by decide +kernel
theorem d_M_cost_32 : decode b_M_cost 32 = .ok (.aload_n 0, 1) := by decide +kernel
theorem d_M_cost_33 : decode b_M_cost 33 = .ok (.getfield 13, 3) := by decide +kernel
theorem d_M_cost_36 : decode b_M_cost 36 = .ok (.iload_n 3, 1) := by decide +kernel
theorem d_M_cost_37 : decode b_M_cost 37 = .ok (.iaload, 1) := by decide +kernel
theorem d_M_cost_38 : decode b_M_cost 38 = .ok (.i2l, 1) := by decide +kernel
theorem d_M_cost_39 : decode b_M_cost 39 = .ok (.aload_n 0, 1) := by decide +kernel
theorem d_M_cost_40 : decode b_M_cost 40 = .ok (.getfield 23, 3) := by decide +kernel
theorem d_M_cost_43 : decode b_M_cost 43 = .ok (.i2l, 1) := by decide +kernel
theorem d_M_cost_44 : decode b_M_cost 44 = .ok (.lmul, 1) := by decide +kernel
theorem d_M_cost_45 : decode b_M_cost 45 = .ok (.lsub, 1) := by decide +kernel
theorem d_M_cost_46 : decode b_M_cost 46 = .ok (.lreturn, 1) := by decide +kernel
abbrev b_M_to : ByteArray := prog_4_method_9_code
def y_M_to : MethodName := ⟨"AgedMarksModel", "to", "(J)J"⟩
theorem d_M_to_0 : decode b_M_to 0 = .ok (.aload_n 0, 1) := by decide +kernel
theorem d_M_to_1 : decode b_M_to 1 = .ok (.lload_n 1, 1) := by decide +kernel
theorem d_M_to_2 : decode b_M_to 2 = .ok (.putfield 49, 3) := by decide +kernel
theorem d_M_to_5 : decode b_M_to 5 = .ok (.aload_n 0, 1) := by decide +kernel
theorem d_M_to_6 : decode b_M_to 6 = .ok (.lload_n 1, 1) := by decide +kernel
theorem d_M_to_7 : decode b_M_to 7 = .ok (.invokevirtual 65, 3) := by decide +kernel
theorem d_M_to_10 : decode b_M_to 10 = .ok (.lstore_n 3, 1) := by decide +kernel
theorem d_M_to_11 : decode b_M_to 11 = .ok (.aload_n 0, 1) := by decide +kernel
theorem d_M_to_12 : decode b_M_to 12 = .ok (.dup, 1) := by decide +kernel
theorem d_M_to_13 : decode b_M_to 13 = .ok (.getfield 69, 3) := by decide +kernel
theorem d_M_to_16 : decode b_M_to 16 = .ok (.lload_n 3, 1) := by decide +kernel
theorem d_M_to_17 : decode b_M_to 17 = .ok (.ladd, 1) := by decide +kernel
theorem d_M_to_18 : decode b_M_to 18 = .ok (.putfield 69, 3) := by decide +kernel
theorem d_M_to_21 : decode b_M_to 21 = .ok (.lload_n 3, 1) := by decide +kernel
theorem d_M_to_22 : decode b_M_to 22 = .ok (.lreturn, 1) := by decide +kernel
abbrev b_M_go : ByteArray := prog_4_method_10_code
def y_M_go : MethodName := ⟨"AgedMarksModel", "go", "(J)J"⟩
theorem d_M_go_0 : decode b_M_go 0 = .ok (.aload_n 0, 1) := by decide +kernel
theorem d_M_go_1 : decode b_M_go 1 = .ok (.lload_n 1, 1) := by decide +kernel
theorem d_M_go_2 : decode b_M_go 2 = .ok (.lconst 0, 1) := by decide +kernel
theorem d_M_go_3 : decode b_M_go 3 = .ok (.lcmp, 1) := by decide +kernel
theorem d_M_go_4 : decode b_M_go 4 = .ok (.ifCond .lt 12, 3) := by decide +kernel
theorem d_M_go_7 : decode b_M_go 7 = .ok (.lload_n 1, 1) := by decide +kernel
theorem d_M_go_8 : decode b_M_go 8 = .ok (.aload_n 0, 1) := by decide +kernel
theorem d_M_go_9 : decode b_M_go 9 = .ok (.getfield 58, 3) := by decide +kernel
theorem d_M_go_12 : decode b_M_go 12 = .ok (.lcmp, 1) := by decide +kernel
theorem d_M_go_13 : decode b_M_go 13 = .ok (.ifCond .le 7, 3) := by decide +kernel
theorem d_M_go_16 : decode b_M_go 16 = .ok (.iconst 1, 1) := by decide +kernel
theorem d_M_go_17 : decode b_M_go 17 = .ok (.goto 4, 3) := by decide +kernel
theorem d_M_go_20 : decode b_M_go 20 = .ok (.iconst 0, 1) := by decide +kernel
theorem d_M_go_21 : decode b_M_go 21 = .ok (.iconst 0, 1) := by decide +kernel
theorem d_M_go_22 : decode b_M_go 22 = .ok (.invokevirtual 54, 3) := by decide +kernel
theorem d_M_go_25 : decode b_M_go 25 = .ok (.ifCond .eq 7, 3) := by decide +kernel
theorem d_M_go_28 : decode b_M_go 28 = .ok (.lconst 0, 1) := by decide +kernel
theorem d_M_go_29 : decode b_M_go 29 = .ok (.goto 8, 3) := by decide +kernel
theorem d_M_go_32 : decode b_M_go 32 = .ok (.aload_n 0, 1) := by decide +kernel
theorem d_M_go_33 : decode b_M_go 33 = .ok (.lload_n 1, 1) := by decide +kernel
theorem d_M_go_34 : decode b_M_go 34 = .ok (.invokevirtual 72, 3) := by decide +kernel
theorem d_M_go_37 : decode b_M_go 37 = .ok (.lreturn, 1) := by decide +kernel
abbrev b_M_back : ByteArray := prog_4_method_11_code
def y_M_back : MethodName := ⟨"AgedMarksModel", "back", "(J)J"⟩
theorem d_M_back_0 : decode b_M_back 0 = .ok (.aload_n 0, 1) := by decide +kernel
theorem d_M_back_1 : decode b_M_back 1 = .ok (.lload_n 1, 1) := by decide +kernel
theorem d_M_back_2 : decode b_M_back 2 = .ok (.lconst 0, 1) := by decide +kernel
theorem d_M_back_3 : decode b_M_back 3 = .ok (.lcmp, 1) := by decide +kernel
theorem d_M_back_4 : decode b_M_back 4 = .ok (.ifCond .ge 7, 3) := by decide +kernel
theorem d_M_back_7 : decode b_M_back 7 = .ok (.iconst 1, 1) := by decide +kernel
theorem d_M_back_8 : decode b_M_back 8 = .ok (.goto 4, 3) := by decide +kernel
theorem d_M_back_11 : decode b_M_back 11 = .ok (.iconst 0, 1) := by decide +kernel
theorem d_M_back_12 : decode b_M_back 12 = .ok (.iconst 0, 1) := by decide +kernel
theorem d_M_back_13 : decode b_M_back 13 = .ok (.invokevirtual 54, 3) := by decide +kernel
theorem d_M_back_16 : decode b_M_back 16 = .ok (.ifCond .eq 7, 3) := by decide +kernel
theorem d_M_back_19 : decode b_M_back 19 = .ok (.lconst 0, 1) := by decide +kernel
theorem d_M_back_20 : decode b_M_back 20 = .ok (.goto 26, 3) := by decide +kernel
theorem d_M_back_23 : decode b_M_back 23 = .ok (.aload_n 0, 1) := by decide +kernel
theorem d_M_back_24 : decode b_M_back 24 = .ok (.lload_n 1, 1) := by decide +kernel
theorem d_M_back_25 : decode b_M_back 25 = .ok (.aload_n 0, 1) := by decide +kernel
theorem d_M_back_26 : decode b_M_back 26 = .ok (.getfield 49, 3) := by decide +kernel
theorem d_M_back_29 : decode b_M_back 29 = .ok (.lcmp, 1) := by decide +kernel
theorem d_M_back_30 : decode b_M_back 30 = .ok (.ifCond .le 7, 3) := by decide +kernel
theorem d_M_back_33 : decode b_M_back 33 = .ok (.lconst 0, 1) := by decide +kernel
theorem d_M_back_34 : decode b_M_back 34 = .ok (.goto 9, 3) := by decide +kernel
theorem d_M_back_37 : decode b_M_back 37 = .ok (.aload_n 0, 1) := by decide +kernel
theorem d_M_back_38 : decode b_M_back 38 = .ok (.getfield 49, 3) := by decide +kernel
theorem d_M_back_41 : decode b_M_back 41 = .ok (.lload_n 1, 1) := by decide +kernel
theorem d_M_back_42 : decode b_M_back 42 = .ok (.lsub, 1) := by decide +kernel
theorem d_M_back_43 : decode b_M_back 43 = .ok (.invokevirtual 72, 3) := by decide +kernel
theorem d_M_back_46 : decode b_M_back 46 = .ok (.lreturn, 1) := by decide +kernel
abbrev b_M_cut : ByteArray := prog_4_method_12_code
def y_M_cut : MethodName := ⟨"AgedMarksModel", "cut", "()I"⟩
theorem d_M_cut_0 : decode b_M_cut 0 = .ok (.aload_n 0, 1) := by decide +kernel
theorem d_M_cut_1 : decode b_M_cut 1 = .ok (.iconst 0, 1) := by decide +kernel
theorem d_M_cut_2 : decode b_M_cut 2 = .ok (.putfield 29, 3) := by decide +kernel
theorem d_M_cut_5 : decode b_M_cut 5 = .ok (.aload_n 0, 1) := by decide +kernel
theorem d_M_cut_6 : decode b_M_cut 6 = .ok (.aload_n 0, 1) := by decide +kernel
theorem d_M_cut_7 : decode b_M_cut 7 = .ok (.getfield 49, 3) := by decide +kernel
theorem d_M_cut_10 : decode b_M_cut 10 = .ok (.putfield 58, 3) := by decide +kernel
theorem d_M_cut_13 : decode b_M_cut 13 = .ok (.aload_n 0, 1) := by decide +kernel
theorem d_M_cut_14 : decode b_M_cut 14 = .ok (.getfield 7, 3) := by decide +kernel
theorem d_M_cut_17 : decode b_M_cut 17 = .ok (.istore_n 1, 1) := by decide +kernel
theorem d_M_cut_18 : decode b_M_cut 18 = .ok (.aload_n 0, 1) := by decide +kernel
theorem d_M_cut_19 : decode b_M_cut 19 = .ok (.getfield 13, 3) := by decide +kernel
theorem d_M_cut_22 : decode b_M_cut 22 = .ok (.aload_n 0, 1) := by decide +kernel
theorem d_M_cut_23 : decode b_M_cut 23 = .ok (.getfield 7, 3) := by decide +kernel
theorem d_M_cut_26 : decode b_M_cut 26 = .ok (.iconst 1, 1) := by decide +kernel
theorem d_M_cut_27 : decode b_M_cut 27 = .ok (.isub, 1) := by decide +kernel
theorem d_M_cut_28 : decode b_M_cut 28 = .ok (.iaload, 1) := by decide +kernel
theorem d_M_cut_29 : decode b_M_cut 29 = .ok (.i2l, 1) := by decide +kernel
theorem d_M_cut_30 : decode b_M_cut 30 = .ok (.aload_n 0, 1) := by decide +kernel
theorem d_M_cut_31 : decode b_M_cut 31 = .ok (.getfield 23, 3) := by decide +kernel
theorem d_M_cut_34 : decode b_M_cut 34 = .ok (.i2l, 1) := by decide +kernel
theorem d_M_cut_35 : decode b_M_cut 35 = .ok (.lmul, 1) := by decide +kernel
theorem d_M_cut_36 : decode b_M_cut 36 = .ok (.aload_n 0, 1) := by decide +kernel
theorem d_M_cut_37 : decode b_M_cut 37 = .ok (.getfield 58, 3) := by decide +kernel
theorem d_M_cut_40 : decode b_M_cut 40 = .ok (.lcmp, 1) := by decide +kernel
theorem d_M_cut_41 : decode b_M_cut 41 = .ok (.ifCond .le 16, 3) := by decide +kernel
theorem d_M_cut_44 : decode b_M_cut 44 = .ok (.aload_n 0, 1) := by decide +kernel
theorem d_M_cut_45 : decode b_M_cut 45 = .ok (.dup, 1) := by decide +kernel
theorem d_M_cut_46 : decode b_M_cut 46 = .ok (.getfield 7, 3) := by decide +kernel
theorem d_M_cut_49 : decode b_M_cut 49 = .ok (.iconst 1, 1) := by decide +kernel
theorem d_M_cut_50 : decode b_M_cut 50 = .ok (.isub, 1) := by decide +kernel
theorem d_M_cut_51 : decode b_M_cut 51 = .ok (.putfield 7, 3) := by decide +kernel
theorem d_M_cut_54 : decode b_M_cut 54 = .ok (.goto (-36), 3) := by decide +kernel
theorem d_M_cut_57 : decode b_M_cut 57 = .ok (.aload_n 0, 1) := by decide +kernel
theorem d_M_cut_58 : decode b_M_cut 58 = .ok (.dup, 1) := by decide +kernel
theorem d_M_cut_59 : decode b_M_cut 59 = .ok (.getfield 42, 3) := by decide +kernel
theorem d_M_cut_62 : decode b_M_cut 62 = .ok (.iload_n 1, 1) := by decide +kernel
theorem d_M_cut_63 : decode b_M_cut 63 = .ok (.aload_n 0, 1) := by decide +kernel
theorem d_M_cut_64 : decode b_M_cut 64 = .ok (.getfield 7, 3) := by decide +kernel
theorem d_M_cut_67 : decode b_M_cut 67 = .ok (.isub, 1) := by decide +kernel
theorem d_M_cut_68 : decode b_M_cut 68 = .ok (.i2l, 1) := by decide +kernel
theorem d_M_cut_69 : decode b_M_cut 69 = .ok (.ladd, 1) := by decide +kernel
theorem d_M_cut_70 : decode b_M_cut 70 = .ok (.putfield 42, 3) := by decide +kernel
theorem d_M_cut_73 : decode b_M_cut 73 = .ok (.iload_n 1, 1) := by decide +kernel
theorem d_M_cut_74 : decode b_M_cut 74 = .ok (.aload_n 0, 1) := by decide +kernel
theorem d_M_cut_75 : decode b_M_cut 75 = .ok (.getfield 7, 3) := by decide +kernel
theorem d_M_cut_78 : decode b_M_cut 78 = .ok (.isub, 1) := by decide +kernel
theorem d_M_cut_79 : decode b_M_cut 79 = .ok (.ireturn, 1) := by decide +kernel
abbrev b_M_mark : ByteArray := prog_4_method_13_code
def y_M_mark : MethodName := ⟨"AgedMarksModel", "mark", "(II)J"⟩
theorem d_M_mark_0 : decode b_M_mark 0 = .ok (.aload_n 0, 1) := by decide +kernel
theorem d_M_mark_1 : decode b_M_mark 1 = .ok (.iload_n 1, 1) := by decide +kernel
theorem d_M_mark_2 : decode b_M_mark 2 = .ok (.ifCond .lt 11, 3) := by decide +kernel
theorem d_M_mark_5 : decode b_M_mark 5 = .ok (.iload_n 1, 1) := by decide +kernel
theorem d_M_mark_6 : decode b_M_mark 6 = .ok (.aload_n 0, 1) := by decide +kernel
theorem d_M_mark_7 : decode b_M_mark 7 = .ok (.getfield 7, 3) := by decide +kernel
theorem d_M_mark_10 : decode b_M_mark 10 = .ok (.if_icmp .lt 7, 3) := by decide +kernel
theorem d_M_mark_13 : decode b_M_mark 13 = .ok (.iconst 1, 1) := by decide +kernel
theorem d_M_mark_14 : decode b_M_mark 14 = .ok (.goto 4, 3) := by decide +kernel
theorem d_M_mark_17 : decode b_M_mark 17 = .ok (.iconst 0, 1) := by decide +kernel
theorem d_M_mark_18 : decode b_M_mark 18 = .ok (.iload_n 2, 1) := by decide +kernel
theorem d_M_mark_19 : decode b_M_mark 19 = .ok (.ifCond .lt 8, 3) := by decide +kernel
theorem d_M_mark_22 : decode b_M_mark 22 = .ok (.iload_n 2, 1) := by decide +kernel
theorem d_M_mark_23 : decode b_M_mark 23 = .ok (.iconst 2, 1) := by decide +kernel
theorem d_M_mark_24 : decode b_M_mark 24 = .ok (.if_icmp .le 7, 3) := by decide +kernel
theorem d_M_mark_27 : decode b_M_mark 27 = .ok (.iconst 1, 1) := by decide +kernel
theorem d_M_mark_28 : decode b_M_mark 28 = .ok (.goto 4, 3) := by decide +kernel
theorem d_M_mark_31 : decode b_M_mark 31 = .ok (.iconst 0, 1) := by decide +kernel
theorem d_M_mark_32 : decode b_M_mark 32 = .ok (.invokevirtual 54, 3) := by decide +kernel
theorem d_M_mark_35 : decode b_M_mark 35 = .ok (.ifCond .eq 5, 3) := by decide +kernel
theorem d_M_mark_38 : decode b_M_mark 38 = .ok (.lconst 0, 1) := by decide +kernel
theorem d_M_mark_39 : decode b_M_mark 39 = .ok (.lreturn, 1) := by decide +kernel
theorem d_M_mark_40 : decode b_M_mark 40 = .ok (.iload_n 2, 1) := by decide +kernel
theorem d_M_mark_41 : decode b_M_mark 41 = .ok (.ifCond .ne 19, 3) := by decide +kernel
theorem d_M_mark_44 : decode b_M_mark 44 = .ok (.aload_n 0, 1) := by decide +kernel
theorem d_M_mark_45 : decode b_M_mark 45 = .ok (.getfield 13, 3) := by decide +kernel
theorem d_M_mark_48 : decode b_M_mark 48 = .ok (.iload_n 1, 1) := by decide +kernel
theorem d_M_mark_49 : decode b_M_mark 49 = .ok (.iaload, 1) := by decide +kernel
theorem d_M_mark_50 : decode b_M_mark 50 = .ok (.i2l, 1) := by decide +kernel
theorem d_M_mark_51 : decode b_M_mark 51 = .ok (.aload_n 0, 1) := by decide +kernel
theorem d_M_mark_52 : decode b_M_mark 52 = .ok (.getfield 23, 3) := by decide +kernel
theorem d_M_mark_55 : decode b_M_mark 55 = .ok (.i2l, 1) := by decide +kernel
theorem d_M_mark_56 : decode b_M_mark 56 = .ok (.lmul, 1) := by decide +kernel
theorem d_M_mark_57 : decode b_M_mark 57 = .ok (.goto 37, 3) := by decide +kernel
theorem d_M_mark_60 : decode b_M_mark 60 = .ok (.iload_n 2, 1) := by decide +kernel
theorem d_M_mark_61 : decode b_M_mark 61 = .ok (.iconst 1, 1) := by decide +kernel
theorem d_M_mark_62 : decode b_M_mark 62 = .ok (.if_icmp .ne 13, 3) := by decide +kernel
theorem d_M_mark_65 : decode b_M_mark 65 = .ok (.aload_n 0, 1) := by decide +kernel
theorem d_M_mark_66 : decode b_M_mark 66 = .ok (.getfield 17, 3) := by decide +kernel
theorem d_M_mark_69 : decode b_M_mark 69 = .ok (.iload_n 1, 1) := by decide +kernel
theorem d_M_mark_70 : decode b_M_mark 70 = .ok (.iaload, 1) := by decide +kernel
theorem d_M_mark_71 : decode b_M_mark 71 = .ok (.i2l, 1) := by decide +kernel
theorem d_M_mark_72 : decode b_M_mark 72 = .ok (.goto 22, 3) := by decide +kernel
theorem d_M_mark_75 : decode b_M_mark 75 = .ok (.aload_n 0, 1) := by decide +kernel
theorem d_M_mark_76 : decode b_M_mark 76 = .ok (.getfield 13, 3) := by decide +kernel
theorem d_M_mark_79 : decode b_M_mark 79 = .ok (.aload_n 0, 1) := by decide +kernel
theorem d_M_mark_80 : decode b_M_mark 80 = .ok (.getfield 7, 3) := by decide +kernel
theorem d_M_mark_83 : decode b_M_mark 83 = .ok (.iconst 1, 1) := by decide +kernel
theorem d_M_mark_84 : decode b_M_mark 84 = .ok (.isub, 1) := by decide +kernel
theorem d_M_mark_85 : decode b_M_mark 85 = .ok (.iaload, 1) := by decide +kernel
theorem d_M_mark_86 : decode b_M_mark 86 = .ok (.aload_n 0, 1) := by decide +kernel
theorem d_M_mark_87 : decode b_M_mark 87 = .ok (.getfield 13, 3) := by decide +kernel
theorem d_M_mark_90 : decode b_M_mark 90 = .ok (.iload_n 1, 1) := by decide +kernel
theorem d_M_mark_91 : decode b_M_mark 91 = .ok (.iaload, 1) := by decide +kernel
theorem d_M_mark_92 : decode b_M_mark 92 = .ok (.isub, 1) := by decide +kernel
theorem d_M_mark_93 : decode b_M_mark 93 = .ok (.i2l, 1) := by decide +kernel
theorem d_M_mark_94 : decode b_M_mark 94 = .ok (.lreturn, 1) := by decide +kernel
abbrev b_M_holder : ByteArray := prog_4_method_14_code
def y_M_holder : MethodName := ⟨"AgedMarksModel", "holder", "(I)I"⟩
theorem d_M_holder_0 : decode b_M_holder 0 = .ok (.aload_n 0, 1) := by decide +kernel
theorem d_M_holder_1 : decode b_M_holder 1 = .ok (.iconst 0, 1) := by decide +kernel
theorem d_M_holder_2 : decode b_M_holder 2 = .ok (.putfield 29, 3) := by decide +kernel
theorem d_M_holder_5 : decode b_M_holder 5 = .ok (.iconst 0, 1) := by decide +kernel
theorem d_M_holder_6 : decode b_M_holder 6 = .ok (.istore_n 2, 1) := by decide +kernel
theorem d_M_holder_7 : decode b_M_holder 7 = .ok (.iload_n 2, 1) := by decide +kernel
theorem d_M_holder_8 : decode b_M_holder 8 = .ok (.aload_n 0, 1) := by decide +kernel
theorem d_M_holder_9 : decode b_M_holder 9 = .ok (.getfield 7, 3) := by decide +kernel
theorem d_M_holder_12 : decode b_M_holder 12 = .ok (.if_icmp .ge 21, 3) := by decide +kernel
theorem d_M_holder_15 : decode b_M_holder 15 = .ok (.aload_n 0, 1) := by decide +kernel
theorem d_M_holder_16 : decode b_M_holder 16 = .ok (.getfield 17, 3) := by decide +kernel
theorem d_M_holder_19 : decode b_M_holder 19 = .ok (.iload_n 2, 1) := by decide +kernel
theorem d_M_holder_20 : decode b_M_holder 20 = .ok (.iaload, 1) := by decide +kernel
theorem d_M_holder_21 : decode b_M_holder 21 = .ok (.iload_n 1, 1) := by decide +kernel
theorem d_M_holder_22 : decode b_M_holder 22 = .ok (.if_icmp .ne 5, 3) := by decide +kernel
theorem d_M_holder_25 : decode b_M_holder 25 = .ok (.iload_n 2, 1) := by decide +kernel
theorem d_M_holder_26 : decode b_M_holder 26 = .ok (.ireturn, 1) := by decide +kernel
theorem d_M_holder_27 : decode b_M_holder 27 = .ok (.iinc 2 1, 3) := by decide +kernel
theorem d_M_holder_30 : decode b_M_holder 30 = .ok (.goto (-23), 3) := by decide +kernel
theorem d_M_holder_33 : decode b_M_holder 33 = .ok (.iconst (-1), 1) := by decide +kernel
theorem d_M_holder_34 : decode b_M_holder 34 = .ok (.ireturn, 1) := by decide +kernel
abbrev b_M_worst : ByteArray := prog_4_method_15_code
def y_M_worst : MethodName := ⟨"AgedMarksModel", "worst", "()J"⟩
theorem d_M_worst_0 : decode b_M_worst 0 = .ok (.aload_n 0, 1) := by decide +kernel
theorem d_M_worst_1 : decode b_M_worst 1 = .ok (.iconst 0, 1) := by decide +kernel
theorem d_M_worst_2 : decode b_M_worst 2 = .ok (.putfield 29, 3) := by decide +kernel
theorem d_M_worst_5 : decode b_M_worst 5 = .ok (.aload_n 0, 1) := by decide +kernel
theorem d_M_worst_6 : decode b_M_worst 6 = .ok (.getfield 58, 3) := by decide +kernel
theorem d_M_worst_9 : decode b_M_worst 9 = .ok (.aload_n 0, 1) := by decide +kernel
theorem d_M_worst_10 : decode b_M_worst 10 = .ok (.getfield 13, 3) := by decide +kernel
theorem d_M_worst_13 : decode b_M_worst 13 = .ok (.aload_n 0, 1) := by decide +kernel
theorem d_M_worst_14 : decode b_M_worst 14 = .ok (.getfield 7, 3) := by decide +kernel
theorem d_M_worst_17 : decode b_M_worst 17 = .ok (.iconst 1, 1) := by decide +kernel
theorem d_M_worst_18 : decode b_M_worst 18 = .ok (.isub, 1) := by decide +kernel
theorem d_M_worst_19 : decode b_M_worst 19 = .ok (.iaload, 1) := by decide +kernel
theorem d_M_worst_20 : decode b_M_worst 20 = .ok (.i2l, 1) := by decide +kernel
theorem d_M_worst_21 : decode b_M_worst 21 = .ok (.aload_n 0, 1) := by decide +kernel
theorem d_M_worst_22 : decode b_M_worst 22 = .ok (.getfield 23, 3) := by decide +kernel
theorem d_M_worst_25 : decode b_M_worst 25 = .ok (.i2l, 1) := by decide +kernel
theorem d_M_worst_26 : decode b_M_worst 26 = .ok (.lmul, 1) := by decide +kernel
theorem d_M_worst_27 : decode b_M_worst 27 = .ok (.lsub, 1) := by decide +kernel
theorem d_M_worst_28 : decode b_M_worst 28 = .ok (.lstore_n 1, 1) := by decide +kernel
theorem d_M_worst_29 : decode b_M_worst 29 = .ok (.iconst 1, 1) := by decide +kernel
theorem d_M_worst_30 : decode b_M_worst 30 = .ok (.istore_n 3, 1) := by decide +kernel
theorem d_M_worst_31 : decode b_M_worst 31 = .ok (.iload_n 3, 1) := by decide +kernel
theorem d_M_worst_32 : decode b_M_worst 32 = .ok (.aload_n 0, 1) := by decide +kernel
theorem d_M_worst_33 : decode b_M_worst 33 = .ok (.getfield 7, 3) := by decide +kernel
theorem d_M_worst_36 : decode b_M_worst 36 = .ok (.if_icmp .ge 44, 3) := by decide +kernel
theorem d_M_worst_39 : decode b_M_worst 39 = .ok (.aload_n 0, 1) := by decide +kernel
theorem d_M_worst_40 : decode b_M_worst 40 = .ok (.aload_n 0, 1) := by decide +kernel
theorem d_M_worst_41 : decode b_M_worst 41 = .ok (.getfield 13, 3) := by decide +kernel
theorem d_M_worst_44 : decode b_M_worst 44 = .ok (.iload_n 3, 1) := by decide +kernel
theorem d_M_worst_45 : decode b_M_worst 45 = .ok (.iaload, 1) := by decide +kernel
theorem d_M_worst_46 : decode b_M_worst 46 = .ok (.i2l, 1) := by decide +kernel
theorem d_M_worst_47 : decode b_M_worst 47 = .ok (.aload_n 0, 1) := by decide +kernel
theorem d_M_worst_48 : decode b_M_worst 48 = .ok (.getfield 23, 3) := by decide +kernel
theorem d_M_worst_51 : decode b_M_worst 51 = .ok (.i2l, 1) := by decide +kernel
theorem d_M_worst_52 : decode b_M_worst 52 = .ok (.lmul, 1) := by decide +kernel
theorem d_M_worst_53 : decode b_M_worst 53 = .ok (.lconst 1, 1) := by decide +kernel
theorem d_M_worst_54 : decode b_M_worst 54 = .ok (.lsub, 1) := by decide +kernel
theorem d_M_worst_55 : decode b_M_worst 55 = .ok (.invokevirtual 65, 3) := by decide +kernel
theorem d_M_worst_58 : decode b_M_worst 58 = .ok (.lstore 4, 2) := by decide +kernel
theorem d_M_worst_60 : decode b_M_worst 60 = .ok (.lload 4, 2) := by decide +kernel
theorem d_M_worst_62 : decode b_M_worst 62 = .ok (.lload_n 1, 1) := by decide +kernel
theorem d_M_worst_63 : decode b_M_worst 63 = .ok (.lcmp, 1) := by decide +kernel
theorem d_M_worst_64 : decode b_M_worst 64 = .ok (.ifCond .le 8, 3) := by decide +kernel
theorem d_M_worst_67 : decode b_M_worst 67 = .ok (.lload 4, 2) := by decide +kernel
theorem d_M_worst_69 : decode b_M_worst 69 = .ok (.goto 4, 3) := by decide +kernel
theorem d_M_worst_72 : decode b_M_worst 72 = .ok (.lload_n 1, 1) := by decide +kernel
theorem d_M_worst_73 : decode b_M_worst 73 = .ok (.lstore_n 1, 1) := by decide +kernel
theorem d_M_worst_74 : decode b_M_worst 74 = .ok (.iinc 3 1, 3) := by decide +kernel
theorem d_M_worst_77 : decode b_M_worst 77 = .ok (.goto (-46), 3) := by decide +kernel
theorem d_M_worst_80 : decode b_M_worst 80 = .ok (.lload_n 1, 1) := by decide +kernel
theorem d_M_worst_81 : decode b_M_worst 81 = .ok (.lreturn, 1) := by decide +kernel
abbrev b_M_count : ByteArray := prog_4_method_16_code
def y_M_count : MethodName := ⟨"AgedMarksModel", "count", "(I)J"⟩
theorem d_M_count_0 : decode b_M_count 0 = .ok (.aload_n 0, 1) := by decide +kernel
theorem d_M_count_1 : decode b_M_count 1 = .ok (.iconst 0, 1) := by decide +kernel
theorem d_M_count_2 : decode b_M_count 2 = .ok (.putfield 29, 3) := by decide +kernel
theorem d_M_count_5 : decode b_M_count 5 = .ok (.iload_n 1, 1) := by decide +kernel
theorem d_M_count_6 : decode b_M_count 6 = .ok (.tableswitch 79 0 6 #[42, 47, 52, 58, 64, 69, 74], 42) := by decide +kernel
theorem d_M_count_48 : decode b_M_count 48 = .ok (.aload_n 0, 1) := by decide +kernel
theorem d_M_count_49 : decode b_M_count 49 = .ok (.getfield 49, 3) := by decide +kernel
theorem d_M_count_52 : decode b_M_count 52 = .ok (.lreturn, 1) := by decide +kernel
theorem d_M_count_53 : decode b_M_count 53 = .ok (.aload_n 0, 1) := by decide +kernel
theorem d_M_count_54 : decode b_M_count 54 = .ok (.getfield 58, 3) := by decide +kernel
theorem d_M_count_57 : decode b_M_count 57 = .ok (.lreturn, 1) := by decide +kernel
theorem d_M_count_58 : decode b_M_count 58 = .ok (.aload_n 0, 1) := by decide +kernel
theorem d_M_count_59 : decode b_M_count 59 = .ok (.getfield 7, 3) := by decide +kernel
theorem d_M_count_62 : decode b_M_count 62 = .ok (.i2l, 1) := by decide +kernel
theorem d_M_count_63 : decode b_M_count 63 = .ok (.lreturn, 1) := by decide +kernel
theorem d_M_count_64 : decode b_M_count 64 = .ok (.aload_n 0, 1) := by decide +kernel
theorem d_M_count_65 : decode b_M_count 65 = .ok (.getfield 20, 3) := by decide +kernel
theorem d_M_count_68 : decode b_M_count 68 = .ok (.i2l, 1) := by decide +kernel
theorem d_M_count_69 : decode b_M_count 69 = .ok (.lreturn, 1) := by decide +kernel
theorem d_M_count_70 : decode b_M_count 70 = .ok (.aload_n 0, 1) := by decide +kernel
theorem d_M_count_71 : decode b_M_count 71 = .ok (.getfield 46, 3) := by decide +kernel
theorem d_M_count_74 : decode b_M_count 74 = .ok (.lreturn, 1) := by decide +kernel
theorem d_M_count_75 : decode b_M_count 75 = .ok (.aload_n 0, 1) := by decide +kernel
theorem d_M_count_76 : decode b_M_count 76 = .ok (.getfield 42, 3) := by decide +kernel
theorem d_M_count_79 : decode b_M_count 79 = .ok (.lreturn, 1) := by decide +kernel
theorem d_M_count_80 : decode b_M_count 80 = .ok (.aload_n 0, 1) := by decide +kernel
theorem d_M_count_81 : decode b_M_count 81 = .ok (.getfield 69, 3) := by decide +kernel
theorem d_M_count_84 : decode b_M_count 84 = .ok (.lreturn, 1) := by decide +kernel
theorem d_M_count_85 : decode b_M_count 85 = .ok (.ldc2_w 75, 3) := by decide +kernel
theorem d_M_count_88 : decode b_M_count 88 = .ok (.lreturn, 1) := by decide +kernel
