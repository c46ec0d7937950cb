theorem dX10_init_0 : decode cX10_init 0 = .ok (.aload_n 0, 1) := by decide +kernel
theorem dX10_init_1 : decode cX10_init 1 = .ok (.invokespecial 1, 3) := by decide +kernel
theorem dX10_init_4 : decode cX10_init 4 = .ok (.aload_n 0, 1) := by decide +kernel
theorem dX10_init_5 : decode cX10_init 5 = .ok (.bipush 108, 2) := by decide +kernel
theorem dX10_init_7 : decode cX10_init 7 = .ok (.newarray .long, 2) := by decide +kernel
theorem dX10_init_9 : decode cX10_init 9 = .ok (.putfield 7, 3) := by decide +kernel
theorem dX10_init_12 : decode cX10_init 12 = .ok (.aload_n 0, 1) := by decide +kernel
theorem dX10_init_13 : decode cX10_init 13 = .ok (.sipush 540, 3) := by decide +kernel
theorem dX10_init_16 : decode cX10_init 16 = .ok (.newarray .long, 2) := by decide +kernel
theorem dX10_init_18 : decode cX10_init 18 = .ok (.putfield 13, 3) := by decide +kernel
theorem dX10_init_21 : decode cX10_init 21 = .ok (.aload_n 0, 1) := by decide +kernel
theorem dX10_init_22 : decode cX10_init 22 = .ok (.bipush 108, 2) := by decide +kernel
theorem dX10_init_24 : decode cX10_init 24 = .ok (.newarray .long, 2) := by decide +kernel
theorem dX10_init_26 : decode cX10_init 26 = .ok (.putfield 16, 3) := by decide +kernel
theorem dX10_init_29 : decode cX10_init 29 = .ok (.aload_n 0, 1) := by decide +kernel
theorem dX10_init_30 : decode cX10_init 30 = .ok (.bipush 108, 2) := by decide +kernel
theorem dX10_init_32 : decode cX10_init 32 = .ok (.newarray .long, 2) := by decide +kernel
theorem dX10_init_34 : decode cX10_init 34 = .ok (.putfield 19, 3) := by decide +kernel
theorem dX10_init_37 : decode cX10_init 37 = .ok (.aload_n 0, 1) := by decide +kernel
theorem dX10_init_38 : decode cX10_init 38 = .ok (.bipush 33, 2) := by decide +kernel
theorem dX10_init_40 : decode cX10_init 40 = .ok (.newarray .double, 2) := by decide +kernel
theorem dX10_init_42 : decode cX10_init 42 = .ok (.putfield 22, 3) := by decide +kernel
theorem dX10_init_45 : decode cX10_init 45 = .ok (.aload_n 0, 1) := by decide +kernel
theorem dX10_init_46 : decode cX10_init 46 = .ok (.sipush 165, 3) := by decide +kernel
theorem dX10_init_49 : decode cX10_init 49 = .ok (.newarray .double, 2) := by decide +kernel
theorem dX10_init_51 : decode cX10_init 51 = .ok (.putfield 26, 3) := by decide +kernel
theorem dX10_init_54 : decode cX10_init 54 = .ok (.aload_n 0, 1) := by decide +kernel
theorem dX10_init_55 : decode cX10_init 55 = .ok (.bipush 33, 2) := by decide +kernel
theorem dX10_init_57 : decode cX10_init 57 = .ok (.newarray .double, 2) := by decide +kernel
theorem dX10_init_59 : decode cX10_init 59 = .ok (.putfield 29, 3) := by decide +kernel
theorem dX10_init_62 : decode cX10_init 62 = .ok (.aload_n 0, 1) := by decide +kernel
theorem dX10_init_63 : decode cX10_init 63 = .ok (.bipush 60, 2) := by decide +kernel
theorem dX10_init_65 : decode cX10_init 65 = .ok (.newarray .char, 2) := by decide +kernel
theorem dX10_init_67 : decode cX10_init 67 = .ok (.putfield 32, 3) := by decide +kernel
theorem dX10_init_70 : decode cX10_init 70 = .ok (.aload_n 0, 1) := by decide +kernel
theorem dX10_init_71 : decode cX10_init 71 = .ok (.bipush 17, 2) := by decide +kernel
theorem dX10_init_73 : decode cX10_init 73 = .ok (.newarray .int, 2) := by decide +kernel
theorem dX10_init_75 : decode cX10_init 75 = .ok (.putfield 36, 3) := by decide +kernel
theorem dX10_init_78 : decode cX10_init 78 = .ok (.aload_n 0, 1) := by decide +kernel
theorem dX10_init_79 : decode cX10_init 79 = .ok (.getfield 7, 3) := by decide +kernel
theorem dX10_init_82 : decode cX10_init 82 = .ok (.iconst 5, 1) := by decide +kernel
theorem dX10_init_83 : decode cX10_init 83 = .ok (.ldc2_w 40, 3) := by decide +kernel
theorem dX10_init_86 : decode cX10_init 86 = .ok (.lastore, 1) := by decide +kernel
theorem dX10_init_87 : decode cX10_init 87 = .ok (.aload_n 0, 1) := by decide +kernel
theorem dX10_init_88 : decode cX10_init 88 = .ok (.getfield 7, 3) := by decide +kernel
theorem dX10_init_91 : decode cX10_init 91 = .ok (.bipush 6, 2) := by decide +kernel
theorem dX10_init_93 : decode cX10_init 93 = .ok (.ldc2_w 42, 3) := by decide +kernel
theorem dX10_init_96 : decode cX10_init 96 = .ok (.lastore, 1) := by decide +kernel
theorem dX10_init_97 : decode cX10_init 97 = .ok (.aload_n 0, 1) := by decide +kernel
theorem dX10_init_98 : decode cX10_init 98 = .ok (.getfield 22, 3) := by decide +kernel
theorem dX10_init_101 : decode cX10_init 101 = .ok (.iconst 0, 1) := by decide +kernel
theorem dX10_init_102 : decode cX10_init 102 = .ok (.ldc2_w 44, 3) := by decide +kernel
theorem dX10_init_105 : decode cX10_init 105 = .ok (.dastore, 1) := by decide +kernel
theorem dX10_init_106 : decode cX10_init 106 = .ok (.return_, 1) := by decide +kernel
theorem dX10_in_0 : decode cX10_in 0 = .ok (.lload_n 0, 1) := by decide +kernel
theorem dX10_in_1 : decode cX10_in 1 = .ok (.lload_n 2, 1) := by decide +kernel
theorem dX10_in_2 : decode cX10_in 2 = .ok (.lcmp, 1) := by decide +kernel
theorem dX10_in_3 : decode cX10_in 3 = .ok (.ifCond .lt 14, 3) := by decide +kernel
theorem dX10_in_6 : decode cX10_in 6 = .ok (.lload_n 0, 1) := by decide +kernel
theorem dX10_in_7 : decode cX10_in 7 = .ok (.lload 4, 2) := by decide +kernel
theorem dX10_in_9 : decode cX10_in 9 = .ok (.lcmp, 1) := by decide +kernel
theorem dX10_in_10 : decode cX10_in 10 = .ok (.ifCond .gt 7, 3) := by decide +kernel
theorem dX10_in_13 : decode cX10_in 13 = .ok (.iconst 1, 1) := by decide +kernel
theorem dX10_in_14 : decode cX10_in 14 = .ok (.goto 4, 3) := by decide +kernel
theorem dX10_in_17 : decode cX10_in 17 = .ok (.iconst 0, 1) := by decide +kernel
theorem dX10_in_18 : decode cX10_in 18 = .ok (.ireturn, 1) := by decide +kernel
theorem dX10_record_0 : decode cX10_record 0 = .ok (.aload_n 0, 1) := by decide +kernel
theorem dX10_record_1 : decode cX10_record 1 = .ok (.getfield 46, 3) := by decide +kernel
theorem dX10_record_4 : decode cX10_record 4 = .ok (.iconst 5, 1) := by decide +kernel
theorem dX10_record_5 : decode cX10_record 5 = .ok (.if_icmp .ne 73, 3) := by decide +kernel
theorem dX10_record_8 : decode cX10_record 8 = .ok (.iconst 0, 1) := by decide +kernel
theorem dX10_record_9 : decode cX10_record 9 = .ok (.istore_n 1, 1) := by decide +kernel
theorem dX10_record_10 : decode cX10_record 10 = .ok (.iload_n 1, 1) := by decide +kernel
theorem dX10_record_11 : decode cX10_record 11 = .ok (.sipush 432, 3) := by decide +kernel
theorem dX10_record_14 : decode cX10_record 14 = .ok (.if_icmp .ge 24, 3) := by decide +kernel
theorem dX10_record_17 : decode cX10_record 17 = .ok (.aload_n 0, 1) := by decide +kernel
theorem dX10_record_18 : decode cX10_record 18 = .ok (.getfield 13, 3) := by decide +kernel
theorem dX10_record_21 : decode cX10_record 21 = .ok (.iload_n 1, 1) := by decide +kernel
theorem dX10_record_22 : decode cX10_record 22 = .ok (.aload_n 0, 1) := by decide +kernel
theorem dX10_record_23 : decode cX10_record 23 = .ok (.getfield 13, 3) := by decide +kernel
theorem dX10_record_26 : decode cX10_record 26 = .ok (.iload_n 1, 1) := by decide +kernel
theorem dX10_record_27 : decode cX10_record 27 = .ok (.bipush 108, 2) := by decide +kernel
theorem dX10_record_29 : decode cX10_record 29 = .ok (.iadd, 1) := by decide +kernel
theorem dX10_record_30 : decode cX10_record 30 = .ok (.laload, 1) := by decide +kernel
theorem dX10_record_31 : decode cX10_record 31 = .ok (.lastore, 1) := by decide +kernel
theorem dX10_record_32 : decode cX10_record 32 = .ok (.iinc 1 1, 3) := by decide +kernel
theorem dX10_record_35 : decode cX10_record 35 = .ok (.goto (-25), 3) := by decide +kernel
theorem dX10_record_38 : decode cX10_record 38 = .ok (.iconst 0, 1) := by decide +kernel
theorem dX10_record_39 : decode cX10_record 39 = .ok (.istore_n 1, 1) := by decide +kernel
theorem dX10_record_40 : decode cX10_record 40 = .ok (.iload_n 1, 1) := by decide +kernel
theorem dX10_record_41 : decode cX10_record 41 = .ok (.sipush 132, 3) := by decide +kernel
theorem dX10_record_44 : decode cX10_record 44 = .ok (.if_icmp .ge 24, 3) := by decide +kernel
theorem dX10_record_47 : decode cX10_record 47 = .ok (.aload_n 0, 1) := by decide +kernel
theorem dX10_record_48 : decode cX10_record 48 = .ok (.getfield 26, 3) := by decide +kernel
theorem dX10_record_51 : decode cX10_record 51 = .ok (.iload_n 1, 1) := by decide +kernel
theorem dX10_record_52 : decode cX10_record 52 = .ok (.aload_n 0, 1) := by decide +kernel
theorem dX10_record_53 : decode cX10_record 53 = .ok (.getfield 26, 3) := by decide +kernel
theorem dX10_record_56 : decode cX10_record 56 = .ok (.iload_n 1, 1) := by decide +kernel
theorem dX10_record_57 : decode cX10_record 57 = .ok (.bipush 33, 2) := by decide +kernel
theorem dX10_record_59 : decode cX10_record 59 = .ok (.iadd, 1) := by decide +kernel
theorem dX10_record_60 : decode cX10_record 60 = .ok (.daload, 1) := by decide +kernel
theorem dX10_record_61 : decode cX10_record 61 = .ok (.dastore, 1) := by decide +kernel
theorem dX10_record_62 : decode cX10_record 62 = .ok (.iinc 1 1, 3) := by decide +kernel
theorem dX10_record_65 : decode cX10_record 65 = .ok (.goto (-25), 3) := by decide +kernel
theorem dX10_record_68 : decode cX10_record 68 = .ok (.aload_n 0, 1) := by decide +kernel
theorem dX10_record_69 : decode cX10_record 69 = .ok (.dup, 1) := by decide +kernel
theorem dX10_record_70 : decode cX10_record 70 = .ok (.getfield 46, 3) := by decide +kernel
theorem dX10_record_73 : decode cX10_record 73 = .ok (.iconst 1, 1) := by decide +kernel
theorem dX10_record_74 : decode cX10_record 74 = .ok (.isub, 1) := by decide +kernel
theorem dX10_record_75 : decode cX10_record 75 = .ok (.putfield 46, 3) := by decide +kernel
theorem dX10_record_78 : decode cX10_record 78 = .ok (.iconst 0, 1) := by decide +kernel
theorem dX10_record_79 : decode cX10_record 79 = .ok (.istore_n 1, 1) := by decide +kernel
theorem dX10_record_80 : decode cX10_record 80 = .ok (.iload_n 1, 1) := by decide +kernel
theorem dX10_record_81 : decode cX10_record 81 = .ok (.bipush 108, 2) := by decide +kernel
theorem dX10_record_83 : decode cX10_record 83 = .ok (.if_icmp .ge 29, 3) := by decide +kernel
theorem dX10_record_86 : decode cX10_record 86 = .ok (.aload_n 0, 1) := by decide +kernel
theorem dX10_record_87 : decode cX10_record 87 = .ok (.getfield 13, 3) := by decide +kernel
theorem dX10_record_90 : decode cX10_record 90 = .ok (.bipush 108, 2) := by decide +kernel
theorem dX10_record_92 : decode cX10_record 92 = .ok (.aload_n 0, 1) := by decide +kernel
theorem dX10_record_93 : decode cX10_record 93 = .ok (.getfield 46, 3) := by decide +kernel
theorem dX10_record_96 : decode cX10_record 96 = .ok (.imul, 1) := by decide +kernel
theorem dX10_record_97 : decode cX10_record 97 = .ok (.iload_n 1, 1) := by decide +kernel
theorem dX10_record_98 : decode cX10_record 98 = .ok (.iadd, 1) := by decide +kernel
theorem dX10_record_99 : decode cX10_record 99 = .ok (.aload_n 0, 1) := by decide +kernel
theorem dX10_record_100 : decode cX10_record 100 = .ok (.getfield 7, 3) := by decide +kernel
theorem dX10_record_103 : decode cX10_record 103 = .ok (.iload_n 1, 1) := by decide +kernel
theorem dX10_record_104 : decode cX10_record 104 = .ok (.laload, 1) := by decide +kernel
theorem dX10_record_105 : decode cX10_record 105 = .ok (.lastore, 1) := by decide +kernel
theorem dX10_record_106 : decode cX10_record 106 = .ok (.iinc 1 1, 3) := by decide +kernel
theorem dX10_record_109 : decode cX10_record 109 = .ok (.goto (-29), 3) := by decide +kernel
theorem dX10_record_112 : decode cX10_record 112 = .ok (.iconst 0, 1) := by decide +kernel
theorem dX10_record_113 : decode cX10_record 113 = .ok (.istore_n 1, 1) := by decide +kernel
theorem dX10_record_114 : decode cX10_record 114 = .ok (.iload_n 1, 1) := by decide +kernel
theorem dX10_record_115 : decode cX10_record 115 = .ok (.bipush 33, 2) := by decide +kernel
theorem dX10_record_117 : decode cX10_record 117 = .ok (.if_icmp .ge 29, 3) := by decide +kernel
theorem dX10_record_120 : decode cX10_record 120 = .ok (.aload_n 0, 1) := by decide +kernel
theorem dX10_record_121 : decode cX10_record 121 = .ok (.getfield 26, 3) := by decide +kernel
theorem dX10_record_124 : decode cX10_record 124 = .ok (.bipush 33, 2) := by decide +kernel
theorem dX10_record_126 : decode cX10_record 126 = .ok (.aload_n 0, 1) := by decide +kernel
theorem dX10_record_127 : decode cX10_record 127 = .ok (.getfield 46, 3) := by decide +kernel
theorem dX10_record_130 : decode cX10_record 130 = .ok (.imul, 1) := by decide +kernel
theorem dX10_record_131 : decode cX10_record 131 = .ok (.iload_n 1, 1) := by decide +kernel
theorem dX10_record_132 : decode cX10_record 132 = .ok (.iadd, 1) := by decide +kernel
theorem dX10_record_133 : decode cX10_record 133 = .ok (.aload_n 0, 1) := by decide +kernel
theorem dX10_record_134 : decode cX10_record 134 = .ok (.getfield 22, 3) := by decide +kernel
theorem dX10_record_137 : decode cX10_record 137 = .ok (.iload_n 1, 1) := by decide +kernel
theorem dX10_record_138 : decode cX10_record 138 = .ok (.daload, 1) := by decide +kernel
theorem dX10_record_139 : decode cX10_record 139 = .ok (.dastore, 1) := by decide +kernel
theorem dX10_record_140 : decode cX10_record 140 = .ok (.iinc 1 1, 3) := by decide +kernel
theorem dX10_record_143 : decode cX10_record 143 = .ok (.goto (-29), 3) := by decide +kernel
theorem dX10_record_146 : decode cX10_record 146 = .ok (.aload_n 0, 1) := by decide +kernel
theorem dX10_record_147 : decode cX10_record 147 = .ok (.dup, 1) := by decide +kernel
theorem dX10_record_148 : decode cX10_record 148 = .ok (.getfield 46, 3) := by decide +kernel
theorem dX10_record_151 : decode cX10_record 151 = .ok (.iconst 1, 1) := by decide +kernel
theorem dX10_record_152 : decode cX10_record 152 = .ok (.iadd, 1) := by decide +kernel
theorem dX10_record_153 : decode cX10_record 153 = .ok (.putfield 46, 3) := by decide +kernel
theorem dX10_record_156 : decode cX10_record 156 = .ok (.return_, 1) := by decide +kernel
theorem dX10_cell_0 : decode cX10_cell 0 = .ok (.aload_n 0, 1) := by decide +kernel
theorem dX10_cell_1 : decode cX10_cell 1 = .ok (.getfield 7, 3) := by decide +kernel
theorem dX10_cell_4 : decode cX10_cell 4 = .ok (.iload_n 1, 1) := by decide +kernel
theorem dX10_cell_5 : decode cX10_cell 5 = .ok (.laload, 1) := by decide +kernel
theorem dX10_cell_6 : decode cX10_cell 6 = .ok (.l2i, 1) := by decide +kernel
theorem dX10_cell_7 : decode cX10_cell 7 = .ok (.ireturn, 1) := by decide +kernel
theorem dX10_of_0 : decode cX10_of 0 = .ok (.aload_n 0, 1) := by decide +kernel
theorem dX10_of_1 : decode cX10_of 1 = .ok (.bipush 20, 2) := by decide +kernel
theorem dX10_of_3 : decode cX10_of 3 = .ok (.bipush 6, 2) := by decide +kernel
theorem dX10_of_5 : decode cX10_of 5 = .ok (.iload_n 1, 1) := by decide +kernel
theorem dX10_of_6 : decode cX10_of 6 = .ok (.imul, 1) := by decide +kernel
theorem dX10_of_7 : decode cX10_of 7 = .ok (.iadd, 1) := by decide +kernel
theorem dX10_of_8 : decode cX10_of 8 = .ok (.iload_n 2, 1) := by decide +kernel
theorem dX10_of_9 : decode cX10_of 9 = .ok (.iadd, 1) := by decide +kernel
theorem dX10_of_10 : decode cX10_of 10 = .ok (.invokevirtual 50, 3) := by decide +kernel
theorem dX10_of_13 : decode cX10_of 13 = .ok (.ireturn, 1) := by decide +kernel
theorem dX10_to_0 : decode cX10_to 0 = .ok (.aload_n 0, 1) := by decide +kernel
theorem dX10_to_1 : decode cX10_to 1 = .ok (.getfield 7, 3) := by decide +kernel
theorem dX10_to_4 : decode cX10_to 4 = .ok (.bipush 20, 2) := by decide +kernel
theorem dX10_to_6 : decode cX10_to 6 = .ok (.bipush 6, 2) := by decide +kernel
theorem dX10_to_8 : decode cX10_to 8 = .ok (.iload_n 1, 1) := by decide +kernel
theorem dX10_to_9 : decode cX10_to 9 = .ok (.imul, 1) := by decide +kernel
theorem dX10_to_10 : decode cX10_to 10 = .ok (.iadd, 1) := by decide +kernel
theorem dX10_to_11 : decode cX10_to 11 = .ok (.iload_n 2, 1) := by decide +kernel
theorem dX10_to_12 : decode cX10_to 12 = .ok (.iadd, 1) := by decide +kernel
theorem dX10_to_13 : decode cX10_to 13 = .ok (.iload_n 3, 1) := by decide +kernel
theorem dX10_to_14 : decode cX10_to 14 = .ok (.i2l, 1) := by decide +kernel
theorem dX10_to_15 : decode cX10_to 15 = .ok (.lastore, 1) := by decide +kernel
theorem dX10_to_16 : decode cX10_to 16 = .ok (.return_, 1) := by decide +kernel
theorem dX10_ofPump_0 : decode cX10_ofPump 0 = .ok (.aload_n 0, 1) := by decide +kernel
theorem dX10_ofPump_1 : decode cX10_ofPump 1 = .ok (.bipush 84, 2) := by decide +kernel
theorem dX10_ofPump_3 : decode cX10_ofPump 3 = .ok (.iconst 4, 1) := by decide +kernel
theorem dX10_ofPump_4 : decode cX10_ofPump 4 = .ok (.iload_n 1, 1) := by decide +kernel
theorem dX10_ofPump_5 : decode cX10_ofPump 5 = .ok (.imul, 1) := by decide +kernel
theorem dX10_ofPump_6 : decode cX10_ofPump 6 = .ok (.iadd, 1) := by decide +kernel
theorem dX10_ofPump_7 : decode cX10_ofPump 7 = .ok (.iload_n 2, 1) := by decide +kernel
theorem dX10_ofPump_8 : decode cX10_ofPump 8 = .ok (.iadd, 1) := by decide +kernel
theorem dX10_ofPump_9 : decode cX10_ofPump 9 = .ok (.invokevirtual 50, 3) := by decide +kernel
theorem dX10_ofPump_12 : decode cX10_ofPump 12 = .ok (.ireturn, 1) := by decide +kernel
theorem dX10_isNone_0 : decode cX10_isNone 0 = .ok (.iload_n 1, 1) := by decide +kernel
theorem dX10_isNone_1 : decode cX10_isNone 1 = .ok (.i2l, 1) := by decide +kernel
theorem dX10_isNone_2 : decode cX10_isNone 2 = .ok (.lconst 0, 1) := by decide +kernel
theorem dX10_isNone_3 : decode cX10_isNone 3 = .ok (.aload_n 0, 1) := by decide +kernel
theorem dX10_isNone_4 : decode cX10_isNone 4 = .ok (.getfield 7, 3) := by decide +kernel
theorem dX10_isNone_7 : decode cX10_isNone 7 = .ok (.iload_n 2, 1) := by decide +kernel
theorem dX10_isNone_8 : decode cX10_isNone 8 = .ok (.laload, 1) := by decide +kernel
theorem dX10_isNone_9 : decode cX10_isNone 9 = .ok (.lconst 1, 1) := by decide +kernel
theorem dX10_isNone_10 : decode cX10_isNone 10 = .ok (.lsub, 1) := by decide +kernel
theorem dX10_isNone_11 : decode cX10_isNone 11 = .ok (.invokestatic 54, 3) := by decide +kernel
theorem dX10_isNone_14 : decode cX10_isNone 14 = .ok (.ifCond .ne 7, 3) := by decide +kernel
theorem dX10_isNone_17 : decode cX10_isNone 17 = .ok (.iconst 1, 1) := by decide +kernel
theorem dX10_isNone_18 : decode cX10_isNone 18 = .ok (.goto 4, 3) := by decide +kernel
theorem dX10_isNone_21 : decode cX10_isNone 21 = .ok (.iconst 0, 1) := by decide +kernel
theorem dX10_isNone_22 : decode cX10_isNone 22 = .ok (.ireturn, 1) := by decide +kernel
theorem dX10_isLevel_0 : decode cX10_isLevel 0 = .ok (.lload_n 0, 1) := by decide +kernel
theorem dX10_isLevel_1 : decode cX10_isLevel 1 = .ok (.ldc2_w 58, 3) := by decide +kernel
theorem dX10_isLevel_4 : decode cX10_isLevel 4 = .ok (.land, 1) := by decide +kernel
theorem dX10_isLevel_5 : decode cX10_isLevel 5 = .ok (.ldc2_w 60, 3) := by decide +kernel
theorem dX10_isLevel_8 : decode cX10_isLevel 8 = .ok (.lcmp, 1) := by decide +kernel
theorem dX10_isLevel_9 : decode cX10_isLevel 9 = .ok (.ifCond .le 5, 3) := by decide +kernel
theorem dX10_isLevel_12 : decode cX10_isLevel 12 = .ok (.iconst 0, 1) := by decide +kernel
theorem dX10_isLevel_13 : decode cX10_isLevel 13 = .ok (.ireturn, 1) := by decide +kernel
theorem dX10_isLevel_14 : decode cX10_isLevel 14 = .ok (.lload_n 0, 1) := by decide +kernel
theorem dX10_isLevel_15 : decode cX10_isLevel 15 = .ok (.invokestatic 62, 3) := by decide +kernel
theorem dX10_isLevel_18 : decode cX10_isLevel 18 = .ok (.dstore 6, 2) := by decide +kernel
theorem dX10_isLevel_20 : decode cX10_isLevel 20 = .ok (.dload 6, 2) := by decide +kernel
theorem dX10_isLevel_22 : decode cX10_isLevel 22 = .ok (.dload_n 2, 1) := by decide +kernel
theorem dX10_isLevel_23 : decode cX10_isLevel 23 = .ok (.dcmp .l, 1) := by decide +kernel
theorem dX10_isLevel_24 : decode cX10_isLevel 24 = .ok (.ifCond .lt 15, 3) := by decide +kernel
theorem dX10_isLevel_27 : decode cX10_isLevel 27 = .ok (.dload 6, 2) := by decide +kernel
theorem dX10_isLevel_29 : decode cX10_isLevel 29 = .ok (.dload 4, 2) := by decide +kernel
theorem dX10_isLevel_31 : decode cX10_isLevel 31 = .ok (.dcmp .g, 1) := by decide +kernel
theorem dX10_isLevel_32 : decode cX10_isLevel 32 = .ok (.ifCond .gt 7, 3) := by decide +kernel
theorem dX10_isLevel_35 : decode cX10_isLevel 35 = .ok (.iconst 1, 1) := by decide +kernel
theorem dX10_isLevel_36 : decode cX10_isLevel 36 = .ok (.goto 4, 3) := by decide +kernel
theorem dX10_isLevel_39 : decode cX10_isLevel 39 = .ok (.iconst 0, 1) := by decide +kernel
theorem dX10_isLevel_40 : decode cX10_isLevel 40 = .ok (.ireturn, 1) := by decide +kernel
theorem dX10_addSection_0 : decode cX10_addSection 0 = .ok (.iload_n 1, 1) := by decide +kernel
theorem dX10_addSection_1 : decode cX10_addSection 1 = .ok (.i2l, 1) := by decide +kernel
theorem dX10_addSection_2 : decode cX10_addSection 2 = .ok (.lconst 1, 1) := by decide +kernel
theorem dX10_addSection_3 : decode cX10_addSection 3 = .ok (.ldc2_w 68, 3) := by decide +kernel
theorem dX10_addSection_6 : decode cX10_addSection 6 = .ok (.invokestatic 54, 3) := by decide +kernel
theorem dX10_addSection_9 : decode cX10_addSection 9 = .ok (.ifCond .eq 46, 3) := by decide +kernel
theorem dX10_addSection_12 : decode cX10_addSection 12 = .ok (.lload_n 2, 1) := by decide +kernel
theorem dX10_addSection_13 : decode cX10_addSection 13 = .ok (.lconst 0, 1) := by decide +kernel
theorem dX10_addSection_14 : decode cX10_addSection 14 = .ok (.lcmp, 1) := by decide +kernel
theorem dX10_addSection_15 : decode cX10_addSection 15 = .ok (.ifCond .lt 40, 3) := by decide +kernel
theorem dX10_addSection_18 : decode cX10_addSection 18 = .ok (.lload_n 2, 1) := by decide +kernel
theorem dX10_addSection_19 : decode cX10_addSection 19 = .ok (.dconst 0, 1) := by decide +kernel
theorem dX10_addSection_20 : decode cX10_addSection 20 = .ok (.ldc2_w 70, 3) := by decide +kernel
theorem dX10_addSection_23 : decode cX10_addSection 23 = .ok (.invokestatic 72, 3) := by decide +kernel
theorem dX10_addSection_26 : decode cX10_addSection 26 = .ok (.ifCond .eq 29, 3) := by decide +kernel
theorem dX10_addSection_29 : decode cX10_addSection 29 = .ok (.iload 4, 2) := by decide +kernel
theorem dX10_addSection_31 : decode cX10_addSection 31 = .ok (.i2l, 1) := by decide +kernel
theorem dX10_addSection_32 : decode cX10_addSection 32 = .ok (.lconst 1, 1) := by decide +kernel
theorem dX10_addSection_33 : decode cX10_addSection 33 = .ok (.ldc2_w 76, 3) := by decide +kernel
theorem dX10_addSection_36 : decode cX10_addSection 36 = .ok (.invokestatic 54, 3) := by decide +kernel
theorem dX10_addSection_39 : decode cX10_addSection 39 = .ok (.ifCond .eq 16, 3) := by decide +kernel
theorem dX10_addSection_42 : decode cX10_addSection 42 = .ok (.iload 5, 2) := by decide +kernel
theorem dX10_addSection_44 : decode cX10_addSection 44 = .ok (.i2l, 1) := by decide +kernel
theorem dX10_addSection_45 : decode cX10_addSection 45 = .ok (.lconst 1, 1) := by decide +kernel
theorem dX10_addSection_46 : decode cX10_addSection 46 = .ok (.ldc2_w 78, 3) := by decide +kernel
theorem dX10_addSection_49 : decode cX10_addSection 49 = .ok (.invokestatic 54, 3) := by decide +kernel
theorem dX10_addSection_52 : decode cX10_addSection 52 = .ok (.ifCond .ne 6, 3) := by decide +kernel
theorem dX10_addSection_55 : decode cX10_addSection 55 = .ok (.bipush (-2), 2) := by decide +kernel
theorem dX10_addSection_57 : decode cX10_addSection 57 = .ok (.ireturn, 1) := by decide +kernel
theorem dX10_addSection_58 : decode cX10_addSection 58 = .ok (.aload_n 0, 1) := by decide +kernel
theorem dX10_addSection_59 : decode cX10_addSection 59 = .ok (.getfield 7, 3) := by decide +kernel
theorem dX10_addSection_62 : decode cX10_addSection 62 = .ok (.bipush 7, 2) := by decide +kernel
theorem dX10_addSection_64 : decode cX10_addSection 64 = .ok (.laload, 1) := by decide +kernel
theorem dX10_addSection_65 : decode cX10_addSection 65 = .ok (.ldc2_w 80, 3) := by decide +kernel
theorem dX10_addSection_68 : decode cX10_addSection 68 = .ok (.lcmp, 1) := by decide +kernel
theorem dX10_addSection_69 : decode cX10_addSection 69 = .ok (.ifCond .ne 6, 3) := by decide +kernel
theorem dX10_addSection_72 : decode cX10_addSection 72 = .ok (.bipush (-3), 2) := by decide +kernel
theorem dX10_addSection_74 : decode cX10_addSection 74 = .ok (.ireturn, 1) := by decide +kernel
theorem dX10_addSection_75 : decode cX10_addSection 75 = .ok (.aload_n 0, 1) := by decide +kernel
theorem dX10_addSection_76 : decode cX10_addSection 76 = .ok (.invokevirtual 82, 3) := by decide +kernel
theorem dX10_addSection_79 : decode cX10_addSection 79 = .ok (.aload_n 0, 1) := by decide +kernel
theorem dX10_addSection_80 : decode cX10_addSection 80 = .ok (.bipush 7, 2) := by decide +kernel
theorem dX10_addSection_82 : decode cX10_addSection 82 = .ok (.invokevirtual 50, 3) := by decide +kernel
theorem dX10_addSection_85 : decode cX10_addSection 85 = .ok (.istore 6, 2) := by decide +kernel
theorem dX10_addSection_87 : decode cX10_addSection 87 = .ok (.aload_n 0, 1) := by decide +kernel
theorem dX10_addSection_88 : decode cX10_addSection 88 = .ok (.getfield 7, 3) := by decide +kernel
theorem dX10_addSection_91 : decode cX10_addSection 91 = .ok (.bipush 7, 2) := by decide +kernel
theorem dX10_addSection_93 : decode cX10_addSection 93 = .ok (.dup2, 1) := by decide +kernel
theorem dX10_addSection_94 : decode cX10_addSection 94 = .ok (.laload, 1) := by decide +kernel
theorem dX10_addSection_95 : decode cX10_addSection 95 = .ok (.lconst 1, 1) := by decide +kernel
theorem dX10_addSection_96 : decode cX10_addSection 96 = .ok (.ladd, 1) := by decide +kernel
theorem dX10_addSection_97 : decode cX10_addSection 97 = .ok (.lastore, 1) := by decide +kernel
theorem dX10_addSection_98 : decode cX10_addSection 98 = .ok (.aload_n 0, 1) := by decide +kernel
theorem dX10_addSection_99 : decode cX10_addSection 99 = .ok (.iload 6, 2) := by decide +kernel
theorem dX10_addSection_101 : decode cX10_addSection 101 = .ok (.iconst 0, 1) := by decide +kernel
theorem dX10_addSection_102 : decode cX10_addSection 102 = .ok (.iload_n 1, 1) := by decide +kernel
theorem dX10_addSection_103 : decode cX10_addSection 103 = .ok (.invokevirtual 85, 3) := by decide +kernel
theorem dX10_addSection_106 : decode cX10_addSection 106 = .ok (.aload_n 0, 1) := by decide +kernel
theorem dX10_addSection_107 : decode cX10_addSection 107 = .ok (.iload 6, 2) := by decide +kernel
theorem dX10_addSection_109 : decode cX10_addSection 109 = .ok (.iconst 1, 1) := by decide +kernel
theorem dX10_addSection_110 : decode cX10_addSection 110 = .ok (.iload 4, 2) := by decide +kernel
theorem dX10_addSection_112 : decode cX10_addSection 112 = .ok (.invokevirtual 85, 3) := by decide +kernel
theorem dX10_addSection_115 : decode cX10_addSection 115 = .ok (.aload_n 0, 1) := by decide +kernel
theorem dX10_addSection_116 : decode cX10_addSection 116 = .ok (.iload 6, 2) := by decide +kernel
theorem dX10_addSection_118 : decode cX10_addSection 118 = .ok (.iconst 2, 1) := by decide +kernel
theorem dX10_addSection_119 : decode cX10_addSection 119 = .ok (.iload 5, 2) := by decide +kernel
theorem dX10_addSection_121 : decode cX10_addSection 121 = .ok (.invokevirtual 85, 3) := by decide +kernel
theorem dX10_addSection_124 : decode cX10_addSection 124 = .ok (.aload_n 0, 1) := by decide +kernel
theorem dX10_addSection_125 : decode cX10_addSection 125 = .ok (.iload 6, 2) := by decide +kernel
theorem dX10_addSection_127 : decode cX10_addSection 127 = .ok (.iconst 3, 1) := by decide +kernel
theorem dX10_addSection_128 : decode cX10_addSection 128 = .ok (.iconst 0, 1) := by decide +kernel
theorem dX10_addSection_129 : decode cX10_addSection 129 = .ok (.invokevirtual 85, 3) := by decide +kernel
theorem dX10_addSection_132 : decode cX10_addSection 132 = .ok (.aload_n 0, 1) := by decide +kernel
theorem dX10_addSection_133 : decode cX10_addSection 133 = .ok (.iload 6, 2) := by decide +kernel
theorem dX10_addSection_135 : decode cX10_addSection 135 = .ok (.iconst 4, 1) := by decide +kernel
theorem dX10_addSection_136 : decode cX10_addSection 136 = .ok (.iconst 0, 1) := by decide +kernel
theorem dX10_addSection_137 : decode cX10_addSection 137 = .ok (.invokevirtual 85, 3) := by decide +kernel
theorem dX10_addSection_140 : decode cX10_addSection 140 = .ok (.aload_n 0, 1) := by decide +kernel
theorem dX10_addSection_141 : decode cX10_addSection 141 = .ok (.iload 6, 2) := by decide +kernel
theorem dX10_addSection_143 : decode cX10_addSection 143 = .ok (.iconst 5, 1) := by decide +kernel
theorem dX10_addSection_144 : decode cX10_addSection 144 = .ok (.iconst 0, 1) := by decide +kernel
theorem dX10_addSection_145 : decode cX10_addSection 145 = .ok (.invokevirtual 85, 3) := by decide +kernel
theorem dX10_addSection_148 : decode cX10_addSection 148 = .ok (.aload_n 0, 1) := by decide +kernel
theorem dX10_addSection_149 : decode cX10_addSection 149 = .ok (.getfield 22, 3) := by decide +kernel
theorem dX10_addSection_152 : decode cX10_addSection 152 = .ok (.bipush 25, 2) := by decide +kernel
theorem dX10_addSection_154 : decode cX10_addSection 154 = .ok (.iload 6, 2) := by decide +kernel
theorem dX10_addSection_156 : decode cX10_addSection 156 = .ok (.iadd, 1) := by decide +kernel
theorem dX10_addSection_157 : decode cX10_addSection 157 = .ok (.lload_n 2, 1) := by decide +kernel
theorem dX10_addSection_158 : decode cX10_addSection 158 = .ok (.invokestatic 62, 3) := by decide +kernel
theorem dX10_addSection_161 : decode cX10_addSection 161 = .ok (.dastore, 1) := by decide +kernel
theorem dX10_addSection_162 : decode cX10_addSection 162 = .ok (.iload 6, 2) := by decide +kernel
theorem dX10_addSection_164 : decode cX10_addSection 164 = .ok (.ireturn, 1) := by decide +kernel
theorem dX10_addDistrict_0 : decode cX10_addDistrict 0 = .ok (.iload_n 1, 1) := by decide +kernel
theorem dX10_addDistrict_1 : decode cX10_addDistrict 1 = .ok (.i2l, 1) := by decide +kernel
theorem dX10_addDistrict_2 : decode cX10_addDistrict 2 = .ok (.lconst 1, 1) := by decide +kernel
theorem dX10_addDistrict_3 : decode cX10_addDistrict 3 = .ok (.ldc2_w 89, 3) := by decide +kernel
theorem dX10_addDistrict_6 : decode cX10_addDistrict 6 = .ok (.invokestatic 54, 3) := by decide +kernel
theorem dX10_addDistrict_9 : decode cX10_addDistrict 9 = .ok (.ifCond .ne 6, 3) := by decide +kernel
theorem dX10_addDistrict_12 : decode cX10_addDistrict 12 = .ok (.bipush (-2), 2) := by decide +kernel
theorem dX10_addDistrict_14 : decode cX10_addDistrict 14 = .ok (.ireturn, 1) := by decide +kernel
theorem dX10_addDistrict_15 : decode cX10_addDistrict 15 = .ok (.aload_n 0, 1) := by decide +kernel
theorem dX10_addDistrict_16 : decode cX10_addDistrict 16 = .ok (.getfield 7, 3) := by decide +kernel
theorem dX10_addDistrict_19 : decode cX10_addDistrict 19 = .ok (.bipush 8, 2) := by decide +kernel
theorem dX10_addDistrict_21 : decode cX10_addDistrict 21 = .ok (.laload, 1) := by decide +kernel
theorem dX10_addDistrict_22 : decode cX10_addDistrict 22 = .ok (.ldc2_w 76, 3) := by decide +kernel
theorem dX10_addDistrict_25 : decode cX10_addDistrict 25 = .ok (.lcmp, 1) := by decide +kernel
theorem dX10_addDistrict_26 : decode cX10_addDistrict 26 = .ok (.ifCond .ne 6, 3) := by decide +kernel
theorem dX10_addDistrict_29 : decode cX10_addDistrict 29 = .ok (.bipush (-3), 2) := by decide +kernel
theorem dX10_addDistrict_31 : decode cX10_addDistrict 31 = .ok (.ireturn, 1) := by decide +kernel
theorem dX10_addDistrict_32 : decode cX10_addDistrict 32 = .ok (.aload_n 0, 1) := by decide +kernel
theorem dX10_addDistrict_33 : decode cX10_addDistrict 33 = .ok (.invokevirtual 82, 3) := by decide +kernel
theorem dX10_addDistrict_36 : decode cX10_addDistrict 36 = .ok (.aload_n 0, 1) := by decide +kernel
theorem dX10_addDistrict_37 : decode cX10_addDistrict 37 = .ok (.bipush 8, 2) := by decide +kernel
theorem dX10_addDistrict_39 : decode cX10_addDistrict 39 = .ok (.invokevirtual 50, 3) := by decide +kernel
theorem dX10_addDistrict_42 : decode cX10_addDistrict 42 = .ok (.istore_n 2, 1) := by decide +kernel
theorem dX10_addDistrict_43 : decode cX10_addDistrict 43 = .ok (.aload_n 0, 1) := by decide +kernel
theorem dX10_addDistrict_44 : decode cX10_addDistrict 44 = .ok (.getfield 7, 3) := by decide +kernel
theorem dX10_addDistrict_47 : decode cX10_addDistrict 47 = .ok (.bipush 8, 2) := by decide +kernel
theorem dX10_addDistrict_49 : decode cX10_addDistrict 49 = .ok (.dup2, 1) := by decide +kernel
theorem dX10_addDistrict_50 : decode cX10_addDistrict 50 = .ok (.laload, 1) := by decide +kernel
theorem dX10_addDistrict_51 : decode cX10_addDistrict 51 = .ok (.lconst 1, 1) := by decide +kernel
theorem dX10_addDistrict_52 : decode cX10_addDistrict 52 = .ok (.ladd, 1) := by decide +kernel
theorem dX10_addDistrict_53 : decode cX10_addDistrict 53 = .ok (.lastore, 1) := by decide +kernel
theorem dX10_addDistrict_54 : decode cX10_addDistrict 54 = .ok (.aload_n 0, 1) := by decide +kernel
theorem dX10_addDistrict_55 : decode cX10_addDistrict 55 = .ok (.getfield 7, 3) := by decide +kernel
theorem dX10_addDistrict_58 : decode cX10_addDistrict 58 = .ok (.bipush 68, 2) := by decide +kernel
theorem dX10_addDistrict_60 : decode cX10_addDistrict 60 = .ok (.iconst 2, 1) := by decide +kernel
theorem dX10_addDistrict_61 : decode cX10_addDistrict 61 = .ok (.iload_n 2, 1) := by decide +kernel
theorem dX10_addDistrict_62 : decode cX10_addDistrict 62 = .ok (.imul, 1) := by decide +kernel
theorem dX10_addDistrict_63 : decode cX10_addDistrict 63 = .ok (.iadd, 1) := by decide +kernel
theorem dX10_addDistrict_64 : decode cX10_addDistrict 64 = .ok (.iload_n 1, 1) := by decide +kernel
theorem dX10_addDistrict_65 : decode cX10_addDistrict 65 = .ok (.i2l, 1) := by decide +kernel
theorem dX10_addDistrict_66 : decode cX10_addDistrict 66 = .ok (.lastore, 1) := by decide +kernel
theorem dX10_addDistrict_67 : decode cX10_addDistrict 67 = .ok (.aload_n 0, 1) := by decide +kernel
theorem dX10_addDistrict_68 : decode cX10_addDistrict 68 = .ok (.getfield 7, 3) := by decide +kernel
theorem dX10_addDistrict_71 : decode cX10_addDistrict 71 = .ok (.bipush 68, 2) := by decide +kernel
theorem dX10_addDistrict_73 : decode cX10_addDistrict 73 = .ok (.iconst 2, 1) := by decide +kernel
theorem dX10_addDistrict_74 : decode cX10_addDistrict 74 = .ok (.iload_n 2, 1) := by decide +kernel
theorem dX10_addDistrict_75 : decode cX10_addDistrict 75 = .ok (.imul, 1) := by decide +kernel
theorem dX10_addDistrict_76 : decode cX10_addDistrict 76 = .ok (.iadd, 1) := by decide +kernel
theorem dX10_addDistrict_77 : decode cX10_addDistrict 77 = .ok (.iconst 1, 1) := by decide +kernel
theorem dX10_addDistrict_78 : decode cX10_addDistrict 78 = .ok (.iadd, 1) := by decide +kernel
theorem dX10_addDistrict_79 : decode cX10_addDistrict 79 = .ok (.lconst 0, 1) := by decide +kernel
theorem dX10_addDistrict_80 : decode cX10_addDistrict 80 = .ok (.lastore, 1) := by decide +kernel
theorem dX10_addDistrict_81 : decode cX10_addDistrict 81 = .ok (.iload_n 2, 1) := by decide +kernel
theorem dX10_addDistrict_82 : decode cX10_addDistrict 82 = .ok (.ireturn, 1) := by decide +kernel
theorem dX10_addStream_0 : decode cX10_addStream 0 = .ok (.iload_n 1, 1) := by decide +kernel
theorem dX10_addStream_1 : decode cX10_addStream 1 = .ok (.i2l, 1) := by decide +kernel
theorem dX10_addStream_2 : decode cX10_addStream 2 = .ok (.lconst 0, 1) := by decide +kernel
theorem dX10_addStream_3 : decode cX10_addStream 3 = .ok (.ldc2_w 91, 3) := by decide +kernel
theorem dX10_addStream_6 : decode cX10_addStream 6 = .ok (.invokestatic 54, 3) := by decide +kernel
theorem dX10_addStream_9 : decode cX10_addStream 9 = .ok (.ifCond .ne 6, 3) := by decide +kernel
theorem dX10_addStream_12 : decode cX10_addStream 12 = .ok (.bipush (-2), 2) := by decide +kernel
theorem dX10_addStream_14 : decode cX10_addStream 14 = .ok (.ireturn, 1) := by decide +kernel
theorem dX10_addStream_15 : decode cX10_addStream 15 = .ok (.aload_n 0, 1) := by decide +kernel
theorem dX10_addStream_16 : decode cX10_addStream 16 = .ok (.getfield 7, 3) := by decide +kernel
theorem dX10_addStream_19 : decode cX10_addStream 19 = .ok (.bipush 9, 2) := by decide +kernel
theorem dX10_addStream_21 : decode cX10_addStream 21 = .ok (.laload, 1) := by decide +kernel
theorem dX10_addStream_22 : decode cX10_addStream 22 = .ok (.ldc2_w 93, 3) := by decide +kernel
theorem dX10_addStream_25 : decode cX10_addStream 25 = .ok (.lcmp, 1) := by decide +kernel
theorem dX10_addStream_26 : decode cX10_addStream 26 = .ok (.ifCond .ne 6, 3) := by decide +kernel
theorem dX10_addStream_29 : decode cX10_addStream 29 = .ok (.bipush (-3), 2) := by decide +kernel
theorem dX10_addStream_31 : decode cX10_addStream 31 = .ok (.ireturn, 1) := by decide +kernel
theorem dX10_addStream_32 : decode cX10_addStream 32 = .ok (.aload_n 0, 1) := by decide +kernel
theorem dX10_addStream_33 : decode cX10_addStream 33 = .ok (.invokevirtual 82, 3) := by decide +kernel
theorem dX10_addStream_36 : decode cX10_addStream 36 = .ok (.aload_n 0, 1) := by decide +kernel
theorem dX10_addStream_37 : decode cX10_addStream 37 = .ok (.getfield 7, 3) := by decide +kernel
theorem dX10_addStream_40 : decode cX10_addStream 40 = .ok (.bipush 80, 2) := by decide +kernel
theorem dX10_addStream_42 : decode cX10_addStream 42 = .ok (.aload_n 0, 1) := by decide +kernel
theorem dX10_addStream_43 : decode cX10_addStream 43 = .ok (.bipush 9, 2) := by decide +kernel
theorem dX10_addStream_45 : decode cX10_addStream 45 = .ok (.invokevirtual 50, 3) := by decide +kernel
theorem dX10_addStream_48 : decode cX10_addStream 48 = .ok (.iadd, 1) := by decide +kernel
theorem dX10_addStream_49 : decode cX10_addStream 49 = .ok (.iload_n 1, 1) := by decide +kernel
theorem dX10_addStream_50 : decode cX10_addStream 50 = .ok (.i2l, 1) := by decide +kernel
theorem dX10_addStream_51 : decode cX10_addStream 51 = .ok (.lastore, 1) := by decide +kernel
theorem dX10_addStream_52 : decode cX10_addStream 52 = .ok (.aload_n 0, 1) := by decide +kernel
theorem dX10_addStream_53 : decode cX10_addStream 53 = .ok (.getfield 7, 3) := by decide +kernel
theorem dX10_addStream_56 : decode cX10_addStream 56 = .ok (.bipush 9, 2) := by decide +kernel
theorem dX10_addStream_58 : decode cX10_addStream 58 = .ok (.dup2, 1) := by decide +kernel
theorem dX10_addStream_59 : decode cX10_addStream 59 = .ok (.laload, 1) := by decide +kernel
theorem dX10_addStream_60 : decode cX10_addStream 60 = .ok (.lconst 1, 1) := by decide +kernel
theorem dX10_addStream_61 : decode cX10_addStream 61 = .ok (.ladd, 1) := by decide +kernel
theorem dX10_addStream_62 : decode cX10_addStream 62 = .ok (.lastore, 1) := by decide +kernel
theorem dX10_addStream_63 : decode cX10_addStream 63 = .ok (.aload_n 0, 1) := by decide +kernel
theorem dX10_addStream_64 : decode cX10_addStream 64 = .ok (.bipush 9, 2) := by decide +kernel
theorem dX10_addStream_66 : decode cX10_addStream 66 = .ok (.invokevirtual 50, 3) := by decide +kernel
theorem dX10_addStream_69 : decode cX10_addStream 69 = .ok (.iconst 1, 1) := by decide +kernel
theorem dX10_addStream_70 : decode cX10_addStream 70 = .ok (.isub, 1) := by decide +kernel
theorem dX10_addStream_71 : decode cX10_addStream 71 = .ok (.ireturn, 1) := by decide +kernel
theorem dX10_addPump_0 : decode cX10_addPump 0 = .ok (.iload_n 1, 1) := by decide +kernel
theorem dX10_addPump_1 : decode cX10_addPump 1 = .ok (.i2l, 1) := by decide +kernel
theorem dX10_addPump_2 : decode cX10_addPump 2 = .ok (.lconst 1, 1) := by decide +kernel
theorem dX10_addPump_3 : decode cX10_addPump 3 = .ok (.ldc2_w 89, 3) := by decide +kernel
theorem dX10_addPump_6 : decode cX10_addPump 6 = .ok (.invokestatic 54, 3) := by decide +kernel
theorem dX10_addPump_9 : decode cX10_addPump 9 = .ok (.ifCond .eq 15, 3) := by decide +kernel
theorem dX10_addPump_12 : decode cX10_addPump 12 = .ok (.iload_n 2, 1) := by decide +kernel
theorem dX10_addPump_13 : decode cX10_addPump 13 = .ok (.i2l, 1) := by decide +kernel
theorem dX10_addPump_14 : decode cX10_addPump 14 = .ok (.lconst 1, 1) := by decide +kernel
theorem dX10_addPump_15 : decode cX10_addPump 15 = .ok (.ldc2_w 91, 3) := by decide +kernel
theorem dX10_addPump_18 : decode cX10_addPump 18 = .ok (.invokestatic 54, 3) := by decide +kernel
theorem dX10_addPump_21 : decode cX10_addPump 21 = .ok (.ifCond .ne 6, 3) := by decide +kernel
theorem dX10_addPump_24 : decode cX10_addPump 24 = .ok (.bipush (-2), 2) := by decide +kernel
theorem dX10_addPump_26 : decode cX10_addPump 26 = .ok (.ireturn, 1) := by decide +kernel
theorem dX10_addPump_27 : decode cX10_addPump 27 = .ok (.aload_n 0, 1) := by decide +kernel
theorem dX10_addPump_28 : decode cX10_addPump 28 = .ok (.getfield 7, 3) := by decide +kernel
theorem dX10_addPump_31 : decode cX10_addPump 31 = .ok (.bipush 10, 2) := by decide +kernel
theorem dX10_addPump_33 : decode cX10_addPump 33 = .ok (.laload, 1) := by decide +kernel
theorem dX10_addPump_34 : decode cX10_addPump 34 = .ok (.ldc2_w 76, 3) := by decide +kernel
theorem dX10_addPump_37 : decode cX10_addPump 37 = .ok (.lcmp, 1) := by decide +kernel
theorem dX10_addPump_38 : decode cX10_addPump 38 = .ok (.ifCond .ne 6, 3) := by decide +kernel
theorem dX10_addPump_41 : decode cX10_addPump 41 = .ok (.bipush (-3), 2) := by decide +kernel
theorem dX10_addPump_43 : decode cX10_addPump 43 = .ok (.ireturn, 1) := by decide +kernel
theorem dX10_addPump_44 : decode cX10_addPump 44 = .ok (.aload_n 0, 1) := by decide +kernel
theorem dX10_addPump_45 : decode cX10_addPump 45 = .ok (.invokevirtual 82, 3) := by decide +kernel
theorem dX10_addPump_48 : decode cX10_addPump 48 = .ok (.aload_n 0, 1) := by decide +kernel
theorem dX10_addPump_49 : decode cX10_addPump 49 = .ok (.bipush 10, 2) := by decide +kernel
theorem dX10_addPump_51 : decode cX10_addPump 51 = .ok (.invokevirtual 50, 3) := by decide +kernel
theorem dX10_addPump_54 : decode cX10_addPump 54 = .ok (.istore_n 3, 1) := by decide +kernel
theorem dX10_addPump_55 : decode cX10_addPump 55 = .ok (.aload_n 0, 1) := by decide +kernel
theorem dX10_addPump_56 : decode cX10_addPump 56 = .ok (.getfield 7, 3) := by decide +kernel
theorem dX10_addPump_59 : decode cX10_addPump 59 = .ok (.bipush 10, 2) := by decide +kernel
theorem dX10_addPump_61 : decode cX10_addPump 61 = .ok (.dup2, 1) := by decide +kernel
theorem dX10_addPump_62 : decode cX10_addPump 62 = .ok (.laload, 1) := by decide +kernel
theorem dX10_addPump_63 : decode cX10_addPump 63 = .ok (.lconst 1, 1) := by decide +kernel
theorem dX10_addPump_64 : decode cX10_addPump 64 = .ok (.ladd, 1) := by decide +kernel
theorem dX10_addPump_65 : decode cX10_addPump 65 = .ok (.lastore, 1) := by decide +kernel
theorem dX10_addPump_66 : decode cX10_addPump 66 = .ok (.aload_n 0, 1) := by decide +kernel
theorem dX10_addPump_67 : decode cX10_addPump 67 = .ok (.getfield 7, 3) := by decide +kernel
theorem dX10_addPump_70 : decode cX10_addPump 70 = .ok (.bipush 84, 2) := by decide +kernel
theorem dX10_addPump_72 : decode cX10_addPump 72 = .ok (.iconst 4, 1) := by decide +kernel
theorem dX10_addPump_73 : decode cX10_addPump 73 = .ok (.iload_n 3, 1) := by decide +kernel
theorem dX10_addPump_74 : decode cX10_addPump 74 = .ok (.imul, 1) := by decide +kernel
theorem dX10_addPump_75 : decode cX10_addPump 75 = .ok (.iadd, 1) := by decide +kernel
theorem dX10_addPump_76 : decode cX10_addPump 76 = .ok (.iconst 0, 1) := by decide +kernel
theorem dX10_addPump_77 : decode cX10_addPump 77 = .ok (.iadd, 1) := by decide +kernel
theorem dX10_addPump_78 : decode cX10_addPump 78 = .ok (.iload_n 1, 1) := by decide +kernel
theorem dX10_addPump_79 : decode cX10_addPump 79 = .ok (.i2l, 1) := by decide +kernel
theorem dX10_addPump_80 : decode cX10_addPump 80 = .ok (.lastore, 1) := by decide +kernel
theorem dX10_addPump_81 : decode cX10_addPump 81 = .ok (.aload_n 0, 1) := by decide +kernel
theorem dX10_addPump_82 : decode cX10_addPump 82 = .ok (.getfield 7, 3) := by decide +kernel
theorem dX10_addPump_85 : decode cX10_addPump 85 = .ok (.bipush 84, 2) := by decide +kernel
theorem dX10_addPump_87 : decode cX10_addPump 87 = .ok (.iconst 4, 1) := by decide +kernel
theorem dX10_addPump_88 : decode cX10_addPump 88 = .ok (.iload_n 3, 1) := by decide +kernel
theorem dX10_addPump_89 : decode cX10_addPump 89 = .ok (.imul, 1) := by decide +kernel
theorem dX10_addPump_90 : decode cX10_addPump 90 = .ok (.iadd, 1) := by decide +kernel
theorem dX10_addPump_91 : decode cX10_addPump 91 = .ok (.iconst 1, 1) := by decide +kernel
theorem dX10_addPump_92 : decode cX10_addPump 92 = .ok (.iadd, 1) := by decide +kernel
theorem dX10_addPump_93 : decode cX10_addPump 93 = .ok (.iload_n 2, 1) := by decide +kernel
theorem dX10_addPump_94 : decode cX10_addPump 94 = .ok (.i2l, 1) := by decide +kernel
theorem dX10_addPump_95 : decode cX10_addPump 95 = .ok (.lastore, 1) := by decide +kernel
theorem dX10_addPump_96 : decode cX10_addPump 96 = .ok (.aload_n 0, 1) := by decide +kernel
theorem dX10_addPump_97 : decode cX10_addPump 97 = .ok (.getfield 7, 3) := by decide +kernel
theorem dX10_addPump_100 : decode cX10_addPump 100 = .ok (.bipush 84, 2) := by decide +kernel
theorem dX10_addPump_102 : decode cX10_addPump 102 = .ok (.iconst 4, 1) := by decide +kernel
theorem dX10_addPump_103 : decode cX10_addPump 103 = .ok (.iload_n 3, 1) := by decide +kernel
theorem dX10_addPump_104 : decode cX10_addPump 104 = .ok (.imul, 1) := by decide +kernel
theorem dX10_addPump_105 : decode cX10_addPump 105 = .ok (.iadd, 1) := by decide +kernel
theorem dX10_addPump_106 : decode cX10_addPump 106 = .ok (.iconst 2, 1) := by decide +kernel
theorem dX10_addPump_107 : decode cX10_addPump 107 = .ok (.iadd, 1) := by decide +kernel
theorem dX10_addPump_108 : decode cX10_addPump 108 = .ok (.lconst 0, 1) := by decide +kernel
theorem dX10_addPump_109 : decode cX10_addPump 109 = .ok (.lastore, 1) := by decide +kernel
theorem dX10_addPump_110 : decode cX10_addPump 110 = .ok (.aload_n 0, 1) := by decide +kernel
theorem dX10_addPump_111 : decode cX10_addPump 111 = .ok (.getfield 7, 3) := by decide +kernel
theorem dX10_addPump_114 : decode cX10_addPump 114 = .ok (.bipush 84, 2) := by decide +kernel
theorem dX10_addPump_116 : decode cX10_addPump 116 = .ok (.iconst 4, 1) := by decide +kernel
theorem dX10_addPump_117 : decode cX10_addPump 117 = .ok (.iload_n 3, 1) := by decide +kernel
theorem dX10_addPump_118 : decode cX10_addPump 118 = .ok (.imul, 1) := by decide +kernel
theorem dX10_addPump_119 : decode cX10_addPump 119 = .ok (.iadd, 1) := by decide +kernel
theorem dX10_addPump_120 : decode cX10_addPump 120 = .ok (.iconst 3, 1) := by decide +kernel
theorem dX10_addPump_121 : decode cX10_addPump 121 = .ok (.iadd, 1) := by decide +kernel
theorem dX10_addPump_122 : decode cX10_addPump 122 = .ok (.lconst 0, 1) := by decide +kernel
theorem dX10_addPump_123 : decode cX10_addPump 123 = .ok (.lastore, 1) := by decide +kernel
theorem dX10_addPump_124 : decode cX10_addPump 124 = .ok (.iload_n 3, 1) := by decide +kernel
theorem dX10_addPump_125 : decode cX10_addPump 125 = .ok (.ireturn, 1) := by decide +kernel
theorem dX10_sets_0 : decode cX10_sets 0 = .ok (.aload_n 0, 1) := by decide +kernel
theorem dX10_sets_1 : decode cX10_sets 1 = .ok (.iload_n 1, 1) := by decide +kernel
theorem dX10_sets_2 : decode cX10_sets 2 = .ok (.invokevirtual 50, 3) := by decide +kernel
theorem dX10_sets_5 : decode cX10_sets 5 = .ok (.istore_n 3, 1) := by decide +kernel
theorem dX10_sets_6 : decode cX10_sets 6 = .ok (.iload_n 3, 1) := by decide +kernel
theorem dX10_sets_7 : decode cX10_sets 7 = .ok (.iload_n 2, 1) := by decide +kernel
theorem dX10_sets_8 : decode cX10_sets 8 = .ok (.if_icmp .ne 6, 3) := by decide +kernel
theorem dX10_sets_11 : decode cX10_sets 11 = .ok (.bipush (-5), 2) := by decide +kernel
theorem dX10_sets_13 : decode cX10_sets 13 = .ok (.ireturn, 1) := by decide +kernel
theorem dX10_sets_14 : decode cX10_sets 14 = .ok (.aload_n 0, 1) := by decide +kernel
theorem dX10_sets_15 : decode cX10_sets 15 = .ok (.invokevirtual 82, 3) := by decide +kernel
theorem dX10_sets_18 : decode cX10_sets 18 = .ok (.aload_n 0, 1) := by decide +kernel
theorem dX10_sets_19 : decode cX10_sets 19 = .ok (.getfield 7, 3) := by decide +kernel
theorem dX10_sets_22 : decode cX10_sets 22 = .ok (.iload_n 1, 1) := by decide +kernel
theorem dX10_sets_23 : decode cX10_sets 23 = .ok (.iload_n 2, 1) := by decide +kernel
theorem dX10_sets_24 : decode cX10_sets 24 = .ok (.i2l, 1) := by decide +kernel
theorem dX10_sets_25 : decode cX10_sets 25 = .ok (.lastore, 1) := by decide +kernel
theorem dX10_sets_26 : decode cX10_sets 26 = .ok (.iload_n 3, 1) := by decide +kernel
theorem dX10_sets_27 : decode cX10_sets 27 = .ok (.ireturn, 1) := by decide +kernel
theorem dX10_setStream_0 : decode cX10_setStream 0 = .ok (.aload_n 0, 1) := by decide +kernel
theorem dX10_setStream_1 : decode cX10_setStream 1 = .ok (.iload_n 1, 1) := by decide +kernel
theorem dX10_setStream_2 : decode cX10_setStream 2 = .ok (.bipush 9, 2) := by decide +kernel
theorem dX10_setStream_4 : decode cX10_setStream 4 = .ok (.invokevirtual 95, 3) := by decide +kernel
theorem dX10_setStream_7 : decode cX10_setStream 7 = .ok (.ifCond .eq 5, 3) := by decide +kernel
theorem dX10_setStream_10 : decode cX10_setStream 10 = .ok (.iconst (-1), 1) := by decide +kernel
theorem dX10_setStream_11 : decode cX10_setStream 11 = .ok (.ireturn, 1) := by decide +kernel
theorem dX10_setStream_12 : decode cX10_setStream 12 = .ok (.iload_n 2, 1) := by decide +kernel
theorem dX10_setStream_13 : decode cX10_setStream 13 = .ok (.i2l, 1) := by decide +kernel
theorem dX10_setStream_14 : decode cX10_setStream 14 = .ok (.lconst 0, 1) := by decide +kernel
theorem dX10_setStream_15 : decode cX10_setStream 15 = .ok (.ldc2_w 91, 3) := by decide +kernel
theorem dX10_setStream_18 : decode cX10_setStream 18 = .ok (.invokestatic 54, 3) := by decide +kernel
theorem dX10_setStream_21 : decode cX10_setStream 21 = .ok (.ifCond .eq 15, 3) := by decide +kernel
theorem dX10_setStream_24 : decode cX10_setStream 24 = .ok (.aload_n 0, 1) := by decide +kernel
theorem dX10_setStream_25 : decode cX10_setStream 25 = .ok (.bipush 80, 2) := by decide +kernel
theorem dX10_setStream_27 : decode cX10_setStream 27 = .ok (.iload_n 1, 1) := by decide +kernel
theorem dX10_setStream_28 : decode cX10_setStream 28 = .ok (.iadd, 1) := by decide +kernel
theorem dX10_setStream_29 : decode cX10_setStream 29 = .ok (.iload_n 2, 1) := by decide +kernel
theorem dX10_setStream_30 : decode cX10_setStream 30 = .ok (.invokevirtual 99, 3) := by decide +kernel
theorem dX10_setStream_33 : decode cX10_setStream 33 = .ok (.goto 5, 3) := by decide +kernel
theorem dX10_setStream_36 : decode cX10_setStream 36 = .ok (.bipush (-2), 2) := by decide +kernel
theorem dX10_setStream_38 : decode cX10_setStream 38 = .ok (.ireturn, 1) := by decide +kernel
theorem dX10_pumpsOn_0 : decode cX10_pumpsOn 0 = .ok (.iconst 0, 1) := by decide +kernel
theorem dX10_pumpsOn_1 : decode cX10_pumpsOn 1 = .ok (.istore_n 1, 1) := by decide +kernel
theorem dX10_pumpsOn_2 : decode cX10_pumpsOn 2 = .ok (.iconst 0, 1) := by decide +kernel
theorem dX10_pumpsOn_3 : decode cX10_pumpsOn 3 = .ok (.istore_n 2, 1) := by decide +kernel
theorem dX10_pumpsOn_4 : decode cX10_pumpsOn 4 = .ok (.iload_n 2, 1) := by decide +kernel
theorem dX10_pumpsOn_5 : decode cX10_pumpsOn 5 = .ok (.i2l, 1) := by decide +kernel
theorem dX10_pumpsOn_6 : decode cX10_pumpsOn 6 = .ok (.aload_n 0, 1) := by decide +kernel
theorem dX10_pumpsOn_7 : decode cX10_pumpsOn 7 = .ok (.getfield 7, 3) := by decide +kernel
theorem dX10_pumpsOn_10 : decode cX10_pumpsOn 10 = .ok (.bipush 10, 2) := by decide +kernel
theorem dX10_pumpsOn_12 : decode cX10_pumpsOn 12 = .ok (.laload, 1) := by decide +kernel
theorem dX10_pumpsOn_13 : decode cX10_pumpsOn 13 = .ok (.lcmp, 1) := by decide +kernel
theorem dX10_pumpsOn_14 : decode cX10_pumpsOn 14 = .ok (.ifCond .ge 18, 3) := by decide +kernel
theorem dX10_pumpsOn_17 : decode cX10_pumpsOn 17 = .ok (.iload_n 1, 1) := by decide +kernel
theorem dX10_pumpsOn_18 : decode cX10_pumpsOn 18 = .ok (.aload_n 0, 1) := by decide +kernel
theorem dX10_pumpsOn_19 : decode cX10_pumpsOn 19 = .ok (.iload_n 2, 1) := by decide +kernel
theorem dX10_pumpsOn_20 : decode cX10_pumpsOn 20 = .ok (.iconst 2, 1) := by decide +kernel
theorem dX10_pumpsOn_21 : decode cX10_pumpsOn 21 = .ok (.invokevirtual 103, 3) := by decide +kernel
theorem dX10_pumpsOn_24 : decode cX10_pumpsOn 24 = .ok (.iadd, 1) := by decide +kernel
theorem dX10_pumpsOn_25 : decode cX10_pumpsOn 25 = .ok (.istore_n 1, 1) := by decide +kernel
theorem dX10_pumpsOn_26 : decode cX10_pumpsOn 26 = .ok (.iinc 2 1, 3) := by decide +kernel
theorem dX10_pumpsOn_29 : decode cX10_pumpsOn 29 = .ok (.goto (-25), 3) := by decide +kernel
theorem dX10_pumpsOn_32 : decode cX10_pumpsOn 32 = .ok (.iload_n 1, 1) := by decide +kernel
theorem dX10_pumpsOn_33 : decode cX10_pumpsOn 33 = .ok (.ireturn, 1) := by decide +kernel
theorem dX10_switchPump_0 : decode cX10_switchPump 0 = .ok (.aload_n 0, 1) := by decide +kernel
theorem dX10_switchPump_1 : decode cX10_switchPump 1 = .ok (.iload_n 1, 1) := by decide +kernel
theorem dX10_switchPump_2 : decode cX10_switchPump 2 = .ok (.bipush 10, 2) := by decide +kernel
theorem dX10_switchPump_4 : decode cX10_switchPump 4 = .ok (.invokevirtual 95, 3) := by decide +kernel
theorem dX10_switchPump_7 : decode cX10_switchPump 7 = .ok (.ifCond .eq 5, 3) := by decide +kernel
theorem dX10_switchPump_10 : decode cX10_switchPump 10 = .ok (.iconst (-1), 1) := by decide +kernel
theorem dX10_switchPump_11 : decode cX10_switchPump 11 = .ok (.ireturn, 1) := by decide +kernel
theorem dX10_switchPump_12 : decode cX10_switchPump 12 = .ok (.aload_n 0, 1) := by decide +kernel
theorem dX10_switchPump_13 : decode cX10_switchPump 13 = .ok (.bipush 84, 2) := by decide +kernel
theorem dX10_switchPump_15 : decode cX10_switchPump 15 = .ok (.iconst 4, 1) := by decide +kernel
theorem dX10_switchPump_16 : decode cX10_switchPump 16 = .ok (.iload_n 1, 1) := by decide +kernel
theorem dX10_switchPump_17 : decode cX10_switchPump 17 = .ok (.imul, 1) := by decide +kernel
theorem dX10_switchPump_18 : decode cX10_switchPump 18 = .ok (.iadd, 1) := by decide +kernel
theorem dX10_switchPump_19 : decode cX10_switchPump 19 = .ok (.iconst 2, 1) := by decide +kernel
theorem dX10_switchPump_20 : decode cX10_switchPump 20 = .ok (.iadd, 1) := by decide +kernel
theorem dX10_switchPump_21 : decode cX10_switchPump 21 = .ok (.iload_n 2, 1) := by decide +kernel
theorem dX10_switchPump_22 : decode cX10_switchPump 22 = .ok (.ifCond .eq 7, 3) := by decide +kernel
theorem dX10_switchPump_25 : decode cX10_switchPump 25 = .ok (.iconst 1, 1) := by decide +kernel
theorem dX10_switchPump_26 : decode cX10_switchPump 26 = .ok (.goto 4, 3) := by decide +kernel
theorem dX10_switchPump_29 : decode cX10_switchPump 29 = .ok (.iconst 0, 1) := by decide +kernel
theorem dX10_switchPump_30 : decode cX10_switchPump 30 = .ok (.invokevirtual 99, 3) := by decide +kernel
theorem dX10_switchPump_33 : decode cX10_switchPump 33 = .ok (.bipush (-5), 2) := by decide +kernel
theorem dX10_switchPump_35 : decode cX10_switchPump 35 = .ok (.if_icmp .ne 8, 3) := by decide +kernel
theorem dX10_switchPump_38 : decode cX10_switchPump 38 = .ok (.bipush (-5), 2) := by decide +kernel
theorem dX10_switchPump_40 : decode cX10_switchPump 40 = .ok (.goto 7, 3) := by decide +kernel
theorem dX10_switchPump_43 : decode cX10_switchPump 43 = .ok (.aload_n 0, 1) := by decide +kernel
theorem dX10_switchPump_44 : decode cX10_switchPump 44 = .ok (.invokevirtual 106, 3) := by decide +kernel
theorem dX10_switchPump_47 : decode cX10_switchPump 47 = .ok (.ireturn, 1) := by decide +kernel
theorem dX10_set_0 : decode cX10_set 0 = .ok (.iload_n 1, 1) := by decide +kernel
theorem dX10_set_1 : decode cX10_set 1 = .ok (.i2l, 1) := by decide +kernel
theorem dX10_set_2 : decode cX10_set 2 = .ok (.lconst 0, 1) := by decide +kernel
theorem dX10_set_3 : decode cX10_set 3 = .ok (.lconst 1, 1) := by decide +kernel
theorem dX10_set_4 : decode cX10_set 4 = .ok (.invokestatic 54, 3) := by decide +kernel
theorem dX10_set_7 : decode cX10_set 7 = .ok (.ifCond .eq 36, 3) := by decide +kernel
theorem dX10_set_10 : decode cX10_set 10 = .ok (.iload_n 1, 1) := by decide +kernel
theorem dX10_set_11 : decode cX10_set 11 = .ok (.ifCond .ne 20, 3) := by decide +kernel
theorem dX10_set_14 : decode cX10_set 14 = .ok (.iload_n 2, 1) := by decide +kernel
theorem dX10_set_15 : decode cX10_set 15 = .ok (.i2l, 1) := by decide +kernel
theorem dX10_set_16 : decode cX10_set 16 = .ok (.ldc2_w 110, 3) := by decide +kernel
theorem dX10_set_19 : decode cX10_set 19 = .ok (.ldc2_w 112, 3) := by decide +kernel
theorem dX10_set_22 : decode cX10_set 22 = .ok (.invokestatic 54, 3) := by decide +kernel
theorem dX10_set_25 : decode cX10_set 25 = .ok (.ifCond .ne 21, 3) := by decide +kernel
theorem dX10_set_28 : decode cX10_set 28 = .ok (.goto 15, 3) := by decide +kernel
theorem dX10_set_31 : decode cX10_set 31 = .ok (.iload_n 2, 1) := by decide +kernel
theorem dX10_set_32 : decode cX10_set 32 = .ok (.i2l, 1) := by decide +kernel
theorem dX10_set_33 : decode cX10_set 33 = .ok (.lconst 0, 1) := by decide +kernel
theorem dX10_set_34 : decode cX10_set 34 = .ok (.ldc2_w 114, 3) := by decide +kernel
theorem dX10_set_37 : decode cX10_set 37 = .ok (.invokestatic 54, 3) := by decide +kernel
theorem dX10_set_40 : decode cX10_set 40 = .ok (.ifCond .ne 6, 3) := by decide +kernel
theorem dX10_set_43 : decode cX10_set 43 = .ok (.bipush (-2), 2) := by decide +kernel
theorem dX10_set_45 : decode cX10_set 45 = .ok (.ireturn, 1) := by decide +kernel
theorem dX10_set_46 : decode cX10_set 46 = .ok (.aload_n 0, 1) := by decide +kernel
theorem dX10_set_47 : decode cX10_set 47 = .ok (.iload_n 1, 1) := by decide +kernel
theorem dX10_set_48 : decode cX10_set 48 = .ok (.ifCond .ne 7, 3) := by decide +kernel
theorem dX10_set_51 : decode cX10_set 51 = .ok (.iconst 5, 1) := by decide +kernel
theorem dX10_set_52 : decode cX10_set 52 = .ok (.goto 5, 3) := by decide +kernel
theorem dX10_set_55 : decode cX10_set 55 = .ok (.bipush 6, 2) := by decide +kernel
theorem dX10_set_57 : decode cX10_set 57 = .ok (.iload_n 2, 1) := by decide +kernel
theorem dX10_set_58 : decode cX10_set 58 = .ok (.invokevirtual 99, 3) := by decide +kernel
theorem dX10_set_61 : decode cX10_set 61 = .ok (.ireturn, 1) := by decide +kernel
theorem dX10_setsLevel_0 : decode cX10_setsLevel 0 = .ok (.lload_n 2, 1) := by decide +kernel
theorem dX10_setsLevel_1 : decode cX10_setsLevel 1 = .ok (.ldc2_w 116, 3) := by decide +kernel
theorem dX10_setsLevel_4 : decode cX10_setsLevel 4 = .ok (.ldc2_w 70, 3) := by decide +kernel
theorem dX10_setsLevel_7 : decode cX10_setsLevel 7 = .ok (.invokestatic 72, 3) := by decide +kernel
theorem dX10_setsLevel_10 : decode cX10_setsLevel 10 = .ok (.ifCond .ne 6, 3) := by decide +kernel
theorem dX10_setsLevel_13 : decode cX10_setsLevel 13 = .ok (.bipush (-2), 2) := by decide +kernel
theorem dX10_setsLevel_15 : decode cX10_setsLevel 15 = .ok (.ireturn, 1) := by decide +kernel
theorem dX10_setsLevel_16 : decode cX10_setsLevel 16 = .ok (.lload_n 2, 1) := by decide +kernel
theorem dX10_setsLevel_17 : decode cX10_setsLevel 17 = .ok (.invokestatic 62, 3) := by decide +kernel
theorem dX10_setsLevel_20 : decode cX10_setsLevel 20 = .ok (.dstore 4, 2) := by decide +kernel
theorem dX10_setsLevel_22 : decode cX10_setsLevel 22 = .ok (.aload_n 0, 1) := by decide +kernel
theorem dX10_setsLevel_23 : decode cX10_setsLevel 23 = .ok (.getfield 22, 3) := by decide +kernel
theorem dX10_setsLevel_26 : decode cX10_setsLevel 26 = .ok (.iload_n 1, 1) := by decide +kernel
theorem dX10_setsLevel_27 : decode cX10_setsLevel 27 = .ok (.daload, 1) := by decide +kernel
theorem dX10_setsLevel_28 : decode cX10_setsLevel 28 = .ok (.dload 4, 2) := by decide +kernel
theorem dX10_setsLevel_30 : decode cX10_setsLevel 30 = .ok (.dcmp .l, 1) := by decide +kernel
theorem dX10_setsLevel_31 : decode cX10_setsLevel 31 = .ok (.ifCond .ne 6, 3) := by decide +kernel
theorem dX10_setsLevel_34 : decode cX10_setsLevel 34 = .ok (.bipush (-5), 2) := by decide +kernel
theorem dX10_setsLevel_36 : decode cX10_setsLevel 36 = .ok (.ireturn, 1) := by decide +kernel
theorem dX10_setsLevel_37 : decode cX10_setsLevel 37 = .ok (.aload_n 0, 1) := by decide +kernel
theorem dX10_setsLevel_38 : decode cX10_setsLevel 38 = .ok (.invokevirtual 82, 3) := by decide +kernel
theorem dX10_setsLevel_41 : decode cX10_setsLevel 41 = .ok (.aload_n 0, 1) := by decide +kernel
theorem dX10_setsLevel_42 : decode cX10_setsLevel 42 = .ok (.getfield 22, 3) := by decide +kernel
theorem dX10_setsLevel_45 : decode cX10_setsLevel 45 = .ok (.iload_n 1, 1) := by decide +kernel
theorem dX10_setsLevel_46 : decode cX10_setsLevel 46 = .ok (.dload 4, 2) := by decide +kernel
theorem dX10_setsLevel_48 : decode cX10_setsLevel 48 = .ok (.dastore, 1) := by decide +kernel
theorem dX10_setsLevel_49 : decode cX10_setsLevel 49 = .ok (.iconst 1, 1) := by decide +kernel
theorem dX10_setsLevel_50 : decode cX10_setsLevel 50 = .ok (.ireturn, 1) := by decide +kernel
theorem dX10_setAlarm_0 : decode cX10_setAlarm 0 = .ok (.aload_n 0, 1) := by decide +kernel
theorem dX10_setAlarm_1 : decode cX10_setAlarm 1 = .ok (.iconst 0, 1) := by decide +kernel
theorem dX10_setAlarm_2 : decode cX10_setAlarm 2 = .ok (.lload_n 1, 1) := by decide +kernel
theorem dX10_setAlarm_3 : decode cX10_setAlarm 3 = .ok (.invokevirtual 118, 3) := by decide +kernel
theorem dX10_setAlarm_6 : decode cX10_setAlarm 6 = .ok (.ireturn, 1) := by decide +kernel
theorem dX10_setTide_0 : decode cX10_setTide 0 = .ok (.iload_n 1, 1) := by decide +kernel
theorem dX10_setTide_1 : decode cX10_setTide 1 = .ok (.i2l, 1) := by decide +kernel
theorem dX10_setTide_2 : decode cX10_setTide 2 = .ok (.lconst 0, 1) := by decide +kernel
theorem dX10_setTide_3 : decode cX10_setTide 3 = .ok (.ldc2_w 122, 3) := by decide +kernel
theorem dX10_setTide_6 : decode cX10_setTide 6 = .ok (.invokestatic 54, 3) := by decide +kernel
theorem dX10_setTide_9 : decode cX10_setTide 9 = .ok (.ifCond .eq 14, 3) := by decide +kernel
theorem dX10_setTide_12 : decode cX10_setTide 12 = .ok (.aload_n 0, 1) := by decide +kernel
theorem dX10_setTide_13 : decode cX10_setTide 13 = .ok (.iconst 1, 1) := by decide +kernel
theorem dX10_setTide_14 : decode cX10_setTide 14 = .ok (.iload_n 1, 1) := by decide +kernel
theorem dX10_setTide_15 : decode cX10_setTide 15 = .ok (.iadd, 1) := by decide +kernel
theorem dX10_setTide_16 : decode cX10_setTide 16 = .ok (.lload_n 2, 1) := by decide +kernel
theorem dX10_setTide_17 : decode cX10_setTide 17 = .ok (.invokevirtual 118, 3) := by decide +kernel
theorem dX10_setTide_20 : decode cX10_setTide 20 = .ok (.goto 5, 3) := by decide +kernel
theorem dX10_setTide_23 : decode cX10_setTide 23 = .ok (.bipush (-2), 2) := by decide +kernel
theorem dX10_setTide_25 : decode cX10_setTide 25 = .ok (.ireturn, 1) := by decide +kernel
theorem dX10_weights_0 : decode cX10_weights 0 = .ok (.iconst 0, 1) := by decide +kernel
theorem dX10_weights_1 : decode cX10_weights 1 = .ok (.istore_n 2, 1) := by decide +kernel
theorem dX10_weights_2 : decode cX10_weights 2 = .ok (.iconst 0, 1) := by decide +kernel
theorem dX10_weights_3 : decode cX10_weights 3 = .ok (.istore_n 3, 1) := by decide +kernel
theorem dX10_weights_4 : decode cX10_weights 4 = .ok (.iload_n 3, 1) := by decide +kernel
theorem dX10_weights_5 : decode cX10_weights 5 = .ok (.i2l, 1) := by decide +kernel
theorem dX10_weights_6 : decode cX10_weights 6 = .ok (.aload_n 0, 1) := by decide +kernel
theorem dX10_weights_7 : decode cX10_weights 7 = .ok (.getfield 7, 3) := by decide +kernel
theorem dX10_weights_10 : decode cX10_weights 10 = .ok (.bipush 8, 2) := by decide +kernel
theorem dX10_weights_12 : decode cX10_weights 12 = .ok (.laload, 1) := by decide +kernel
theorem dX10_weights_13 : decode cX10_weights 13 = .ok (.lcmp, 1) := by decide +kernel
theorem dX10_weights_14 : decode cX10_weights 14 = .ok (.ifCond .ge 48, 3) := by decide +kernel
theorem dX10_weights_17 : decode cX10_weights 17 = .ok (.iload_n 2, 1) := by decide +kernel
theorem dX10_weights_18 : decode cX10_weights 18 = .ok (.iload_n 1, 1) := by decide +kernel
theorem dX10_weights_19 : decode cX10_weights 19 = .ok (.ifCond .eq 21, 3) := by decide +kernel
theorem dX10_weights_22 : decode cX10_weights 22 = .ok (.aload_n 0, 1) := by decide +kernel
theorem dX10_weights_23 : decode cX10_weights 23 = .ok (.getfield 7, 3) := by decide +kernel
theorem dX10_weights_26 : decode cX10_weights 26 = .ok (.bipush 68, 2) := by decide +kernel
theorem dX10_weights_28 : decode cX10_weights 28 = .ok (.iconst 2, 1) := by decide +kernel
theorem dX10_weights_29 : decode cX10_weights 29 = .ok (.iload_n 3, 1) := by decide +kernel
theorem dX10_weights_30 : decode cX10_weights 30 = .ok (.imul, 1) := by decide +kernel
theorem dX10_weights_31 : decode cX10_weights 31 = .ok (.iadd, 1) := by decide +kernel
theorem dX10_weights_32 : decode cX10_weights 32 = .ok (.iconst 1, 1) := by decide +kernel
theorem dX10_weights_33 : decode cX10_weights 33 = .ok (.iadd, 1) := by decide +kernel
theorem dX10_weights_34 : decode cX10_weights 34 = .ok (.laload, 1) := by decide +kernel
theorem dX10_weights_35 : decode cX10_weights 35 = .ok (.lconst 1, 1) := by decide +kernel
theorem dX10_weights_36 : decode cX10_weights 36 = .ok (.lcmp, 1) := by decide +kernel
theorem dX10_weights_37 : decode cX10_weights 37 = .ok (.ifCond .ne 16, 3) := by decide +kernel
theorem dX10_weights_40 : decode cX10_weights 40 = .ok (.aload_n 0, 1) := by decide +kernel
theorem dX10_weights_41 : decode cX10_weights 41 = .ok (.bipush 68, 2) := by decide +kernel
theorem dX10_weights_43 : decode cX10_weights 43 = .ok (.iconst 2, 1) := by decide +kernel
theorem dX10_weights_44 : decode cX10_weights 44 = .ok (.iload_n 3, 1) := by decide +kernel
theorem dX10_weights_45 : decode cX10_weights 45 = .ok (.imul, 1) := by decide +kernel
theorem dX10_weights_46 : decode cX10_weights 46 = .ok (.iadd, 1) := by decide +kernel
theorem dX10_weights_47 : decode cX10_weights 47 = .ok (.invokevirtual 50, 3) := by decide +kernel
theorem dX10_weights_50 : decode cX10_weights 50 = .ok (.goto 4, 3) := by decide +kernel
theorem dX10_weights_53 : decode cX10_weights 53 = .ok (.iconst 0, 1) := by decide +kernel
theorem dX10_weights_54 : decode cX10_weights 54 = .ok (.iadd, 1) := by decide +kernel
theorem dX10_weights_55 : decode cX10_weights 55 = .ok (.istore_n 2, 1) := by decide +kernel
theorem dX10_weights_56 : decode cX10_weights 56 = .ok (.iinc 3 1, 3) := by decide +kernel
theorem dX10_weights_59 : decode cX10_weights 59 = .ok (.goto (-55), 3) := by decide +kernel
theorem dX10_weights_62 : decode cX10_weights 62 = .ok (.iload_n 2, 1) := by decide +kernel
theorem dX10_weights_63 : decode cX10_weights 63 = .ok (.ireturn, 1) := by decide +kernel
theorem dX10_vote_0 : decode cX10_vote 0 = .ok (.aload_n 0, 1) := by decide +kernel
theorem dX10_vote_1 : decode cX10_vote 1 = .ok (.iload_n 1, 1) := by decide +kernel
theorem dX10_vote_2 : decode cX10_vote 2 = .ok (.bipush 8, 2) := by decide +kernel
theorem dX10_vote_4 : decode cX10_vote 4 = .ok (.invokevirtual 95, 3) := by decide +kernel
theorem dX10_vote_7 : decode cX10_vote 7 = .ok (.ifCond .eq 5, 3) := by decide +kernel
theorem dX10_vote_10 : decode cX10_vote 10 = .ok (.iconst (-1), 1) := by decide +kernel
theorem dX10_vote_11 : decode cX10_vote 11 = .ok (.ireturn, 1) := by decide +kernel
theorem dX10_vote_12 : decode cX10_vote 12 = .ok (.aload_n 0, 1) := by decide +kernel
theorem dX10_vote_13 : decode cX10_vote 13 = .ok (.bipush 68, 2) := by decide +kernel
theorem dX10_vote_15 : decode cX10_vote 15 = .ok (.iconst 2, 1) := by decide +kernel
theorem dX10_vote_16 : decode cX10_vote 16 = .ok (.iload_n 1, 1) := by decide +kernel
theorem dX10_vote_17 : decode cX10_vote 17 = .ok (.imul, 1) := by decide +kernel
theorem dX10_vote_18 : decode cX10_vote 18 = .ok (.iadd, 1) := by decide +kernel
theorem dX10_vote_19 : decode cX10_vote 19 = .ok (.iconst 1, 1) := by decide +kernel
theorem dX10_vote_20 : decode cX10_vote 20 = .ok (.iadd, 1) := by decide +kernel
theorem dX10_vote_21 : decode cX10_vote 21 = .ok (.iload_n 2, 1) := by decide +kernel
theorem dX10_vote_22 : decode cX10_vote 22 = .ok (.ifCond .eq 7, 3) := by decide +kernel
theorem dX10_vote_25 : decode cX10_vote 25 = .ok (.iconst 1, 1) := by decide +kernel
theorem dX10_vote_26 : decode cX10_vote 26 = .ok (.goto 4, 3) := by decide +kernel
theorem dX10_vote_29 : decode cX10_vote 29 = .ok (.iconst 0, 1) := by decide +kernel
theorem dX10_vote_30 : decode cX10_vote 30 = .ok (.invokevirtual 99, 3) := by decide +kernel
theorem dX10_vote_33 : decode cX10_vote 33 = .ok (.bipush (-5), 2) := by decide +kernel
theorem dX10_vote_35 : decode cX10_vote 35 = .ok (.if_icmp .ne 8, 3) := by decide +kernel
theorem dX10_vote_38 : decode cX10_vote 38 = .ok (.bipush (-5), 2) := by decide +kernel
theorem dX10_vote_40 : decode cX10_vote 40 = .ok (.goto 8, 3) := by decide +kernel
theorem dX10_vote_43 : decode cX10_vote 43 = .ok (.aload_n 0, 1) := by decide +kernel
theorem dX10_vote_44 : decode cX10_vote 44 = .ok (.iconst 1, 1) := by decide +kernel
theorem dX10_vote_45 : decode cX10_vote 45 = .ok (.invokevirtual 124, 3) := by decide +kernel
theorem dX10_vote_48 : decode cX10_vote 48 = .ok (.ireturn, 1) := by decide +kernel
theorem dX10_inState_0 : decode cX10_inState 0 = .ok (.iconst 0, 1) := by decide +kernel
theorem dX10_inState_1 : decode cX10_inState 1 = .ok (.istore_n 2, 1) := by decide +kernel
theorem dX10_inState_2 : decode cX10_inState 2 = .ok (.iconst 0, 1) := by decide +kernel
theorem dX10_inState_3 : decode cX10_inState 3 = .ok (.istore_n 3, 1) := by decide +kernel
theorem dX10_inState_4 : decode cX10_inState 4 = .ok (.iload_n 3, 1) := by decide +kernel
theorem dX10_inState_5 : decode cX10_inState 5 = .ok (.i2l, 1) := by decide +kernel
theorem dX10_inState_6 : decode cX10_inState 6 = .ok (.aload_n 0, 1) := by decide +kernel
theorem dX10_inState_7 : decode cX10_inState 7 = .ok (.getfield 7, 3) := by decide +kernel
theorem dX10_inState_10 : decode cX10_inState 10 = .ok (.bipush 7, 2) := by decide +kernel
theorem dX10_inState_12 : decode cX10_inState 12 = .ok (.laload, 1) := by decide +kernel
theorem dX10_inState_13 : decode cX10_inState 13 = .ok (.lcmp, 1) := by decide +kernel
theorem dX10_inState_14 : decode cX10_inState 14 = .ok (.ifCond .ge 27, 3) := by decide +kernel
theorem dX10_inState_17 : decode cX10_inState 17 = .ok (.iload_n 2, 1) := by decide +kernel
theorem dX10_inState_18 : decode cX10_inState 18 = .ok (.aload_n 0, 1) := by decide +kernel
theorem dX10_inState_19 : decode cX10_inState 19 = .ok (.iload_n 3, 1) := by decide +kernel
theorem dX10_inState_20 : decode cX10_inState 20 = .ok (.iconst 3, 1) := by decide +kernel
theorem dX10_inState_21 : decode cX10_inState 21 = .ok (.invokevirtual 128, 3) := by decide +kernel
theorem dX10_inState_24 : decode cX10_inState 24 = .ok (.iload_n 1, 1) := by decide +kernel
theorem dX10_inState_25 : decode cX10_inState 25 = .ok (.if_icmp .ne 7, 3) := by decide +kernel
theorem dX10_inState_28 : decode cX10_inState 28 = .ok (.iconst 1, 1) := by decide +kernel
theorem dX10_inState_29 : decode cX10_inState 29 = .ok (.goto 4, 3) := by decide +kernel
theorem dX10_inState_32 : decode cX10_inState 32 = .ok (.iconst 0, 1) := by decide +kernel
theorem dX10_inState_33 : decode cX10_inState 33 = .ok (.iadd, 1) := by decide +kernel
theorem dX10_inState_34 : decode cX10_inState 34 = .ok (.istore_n 2, 1) := by decide +kernel
theorem dX10_inState_35 : decode cX10_inState 35 = .ok (.iinc 3 1, 3) := by decide +kernel
theorem dX10_inState_38 : decode cX10_inState 38 = .ok (.goto (-34), 3) := by decide +kernel
theorem dX10_inState_41 : decode cX10_inState 41 = .ok (.iload_n 2, 1) := by decide +kernel
theorem dX10_inState_42 : decode cX10_inState 42 = .ok (.ireturn, 1) := by decide +kernel
theorem dX10_outer_0 : decode cX10_outer 0 = .ok (.aload_n 0, 1) := by decide +kernel
theorem dX10_outer_1 : decode cX10_outer 1 = .ok (.getfield 22, 3) := by decide +kernel
theorem dX10_outer_4 : decode cX10_outer 4 = .ok (.iconst 1, 1) := by decide +kernel
theorem dX10_outer_5 : decode cX10_outer 5 = .ok (.aload_n 0, 1) := by decide +kernel
theorem dX10_outer_6 : decode cX10_outer 6 = .ok (.iconst 0, 1) := by decide +kernel
theorem dX10_outer_7 : decode cX10_outer 7 = .ok (.invokevirtual 50, 3) := by decide +kernel
theorem dX10_outer_10 : decode cX10_outer 10 = .ok (.bipush 24, 2) := by decide +kernel
theorem dX10_outer_12 : decode cX10_outer 12 = .ok (.irem, 1) := by decide +kernel
theorem dX10_outer_13 : decode cX10_outer 13 = .ok (.iadd, 1) := by decide +kernel
theorem dX10_outer_14 : decode cX10_outer 14 = .ok (.daload, 1) := by decide +kernel
theorem dX10_outer_15 : decode cX10_outer 15 = .ok (.dreturn, 1) := by decide +kernel
theorem dX10_inner_0 : decode cX10_inner 0 = .ok (.aload_n 0, 1) := by decide +kernel
theorem dX10_inner_1 : decode cX10_inner 1 = .ok (.getfield 7, 3) := by decide +kernel
theorem dX10_inner_4 : decode cX10_inner 4 = .ok (.bipush 12, 2) := by decide +kernel
theorem dX10_inner_6 : decode cX10_inner 6 = .ok (.laload, 1) := by decide +kernel
theorem dX10_inner_7 : decode cX10_inner 7 = .ok (.l2d, 1) := by decide +kernel
theorem dX10_inner_8 : decode cX10_inner 8 = .ok (.aload_n 0, 1) := by decide +kernel
theorem dX10_inner_9 : decode cX10_inner 9 = .ok (.getfield 7, 3) := by decide +kernel
theorem dX10_inner_12 : decode cX10_inner 12 = .ok (.iconst 5, 1) := by decide +kernel
theorem dX10_inner_13 : decode cX10_inner 13 = .ok (.laload, 1) := by decide +kernel
theorem dX10_inner_14 : decode cX10_inner 14 = .ok (.l2d, 1) := by decide +kernel
theorem dX10_inner_15 : decode cX10_inner 15 = .ok (.ddiv, 1) := by decide +kernel
theorem dX10_inner_16 : decode cX10_inner 16 = .ok (.dreturn, 1) := by decide +kernel
theorem dX10_isShut_0 : decode cX10_isShut 0 = .ok (.aload_n 0, 1) := by decide +kernel
theorem dX10_isShut_1 : decode cX10_isShut 1 = .ok (.iconst 0, 1) := by decide +kernel
theorem dX10_isShut_2 : decode cX10_isShut 2 = .ok (.invokevirtual 131, 3) := by decide +kernel
theorem dX10_isShut_5 : decode cX10_isShut 5 = .ok (.aload_n 0, 1) := by decide +kernel
theorem dX10_isShut_6 : decode cX10_isShut 6 = .ok (.iconst 1, 1) := by decide +kernel
theorem dX10_isShut_7 : decode cX10_isShut 7 = .ok (.invokevirtual 131, 3) := by decide +kernel
theorem dX10_isShut_10 : decode cX10_isShut 10 = .ok (.iadd, 1) := by decide +kernel
theorem dX10_isShut_11 : decode cX10_isShut 11 = .ok (.aload_n 0, 1) := by decide +kernel
theorem dX10_isShut_12 : decode cX10_isShut 12 = .ok (.iconst 3, 1) := by decide +kernel
theorem dX10_isShut_13 : decode cX10_isShut 13 = .ok (.invokevirtual 131, 3) := by decide +kernel
theorem dX10_isShut_16 : decode cX10_isShut 16 = .ok (.iadd, 1) := by decide +kernel
theorem dX10_isShut_17 : decode cX10_isShut 17 = .ok (.ifCond .ne 7, 3) := by decide +kernel
theorem dX10_isShut_20 : decode cX10_isShut 20 = .ok (.iconst 1, 1) := by decide +kernel
theorem dX10_isShut_21 : decode cX10_isShut 21 = .ok (.goto 4, 3) := by decide +kernel
theorem dX10_isShut_24 : decode cX10_isShut 24 = .ok (.iconst 0, 1) := by decide +kernel
theorem dX10_isShut_25 : decode cX10_isShut 25 = .ok (.ireturn, 1) := by decide +kernel
theorem dX10_close_0 : decode cX10_close 0 = .ok (.iconst 2, 1) := by decide +kernel
theorem dX10_close_1 : decode cX10_close 1 = .ok (.aload_n 0, 1) := by decide +kernel
theorem dX10_close_2 : decode cX10_close 2 = .ok (.iconst 1, 1) := by decide +kernel
theorem dX10_close_3 : decode cX10_close 3 = .ok (.invokevirtual 124, 3) := by decide +kernel
theorem dX10_close_6 : decode cX10_close 6 = .ok (.imul, 1) := by decide +kernel
theorem dX10_close_7 : decode cX10_close 7 = .ok (.aload_n 0, 1) := by decide +kernel
theorem dX10_close_8 : decode cX10_close 8 = .ok (.iconst 0, 1) := by decide +kernel
theorem dX10_close_9 : decode cX10_close 9 = .ok (.invokevirtual 124, 3) := by decide +kernel
theorem dX10_close_12 : decode cX10_close 12 = .ok (.if_icmp .le 10, 3) := by decide +kernel
theorem dX10_close_15 : decode cX10_close 15 = .ok (.aload_n 0, 1) := by decide +kernel
theorem dX10_close_16 : decode cX10_close 16 = .ok (.invokevirtual 134, 3) := by decide +kernel
theorem dX10_close_19 : decode cX10_close 19 = .ok (.ifCond .eq 6, 3) := by decide +kernel
theorem dX10_close_22 : decode cX10_close 22 = .ok (.bipush (-4), 2) := by decide +kernel
theorem dX10_close_24 : decode cX10_close 24 = .ok (.ireturn, 1) := by decide +kernel
theorem dX10_close_25 : decode cX10_close 25 = .ok (.aload_n 0, 1) := by decide +kernel
theorem dX10_close_26 : decode cX10_close 26 = .ok (.getfield 7, 3) := by decide +kernel
theorem dX10_close_29 : decode cX10_close 29 = .ok (.iconst 1, 1) := by decide +kernel
theorem dX10_close_30 : decode cX10_close 30 = .ok (.laload, 1) := by decide +kernel
theorem dX10_close_31 : decode cX10_close 31 = .ok (.lconst 1, 1) := by decide +kernel
theorem dX10_close_32 : decode cX10_close 32 = .ok (.lcmp, 1) := by decide +kernel
theorem dX10_close_33 : decode cX10_close 33 = .ok (.ifCond .ne 6, 3) := by decide +kernel
theorem dX10_close_36 : decode cX10_close 36 = .ok (.bipush (-5), 2) := by decide +kernel
theorem dX10_close_38 : decode cX10_close 38 = .ok (.ireturn, 1) := by decide +kernel
theorem dX10_close_39 : decode cX10_close 39 = .ok (.aload_n 0, 1) := by decide +kernel
theorem dX10_close_40 : decode cX10_close 40 = .ok (.invokevirtual 82, 3) := by decide +kernel
theorem dX10_close_43 : decode cX10_close 43 = .ok (.aload_n 0, 1) := by decide +kernel
theorem dX10_close_44 : decode cX10_close 44 = .ok (.getfield 7, 3) := by decide +kernel
theorem dX10_close_47 : decode cX10_close 47 = .ok (.iconst 1, 1) := by decide +kernel
theorem dX10_close_48 : decode cX10_close 48 = .ok (.lconst 1, 1) := by decide +kernel
theorem dX10_close_49 : decode cX10_close 49 = .ok (.lastore, 1) := by decide +kernel
theorem dX10_close_50 : decode cX10_close 50 = .ok (.aload_n 0, 1) := by decide +kernel
theorem dX10_close_51 : decode cX10_close 51 = .ok (.getfield 7, 3) := by decide +kernel
theorem dX10_close_54 : decode cX10_close 54 = .ok (.iconst 3, 1) := by decide +kernel
theorem dX10_close_55 : decode cX10_close 55 = .ok (.dup2, 1) := by decide +kernel
theorem dX10_close_56 : decode cX10_close 56 = .ok (.laload, 1) := by decide +kernel
theorem dX10_close_57 : decode cX10_close 57 = .ok (.lconst 1, 1) := by decide +kernel
theorem dX10_close_58 : decode cX10_close 58 = .ok (.ladd, 1) := by decide +kernel
theorem dX10_close_59 : decode cX10_close 59 = .ok (.lastore, 1) := by decide +kernel
theorem dX10_close_60 : decode cX10_close 60 = .ok (.aload_n 0, 1) := by decide +kernel
theorem dX10_close_61 : decode cX10_close 61 = .ok (.invokevirtual 138, 3) := by decide +kernel
theorem dX10_close_64 : decode cX10_close 64 = .ok (.aload_n 0, 1) := by decide +kernel
theorem dX10_close_65 : decode cX10_close 65 = .ok (.getfield 22, 3) := by decide +kernel
theorem dX10_close_68 : decode cX10_close 68 = .ok (.iconst 0, 1) := by decide +kernel
theorem dX10_close_69 : decode cX10_close 69 = .ok (.daload, 1) := by decide +kernel
theorem dX10_close_70 : decode cX10_close 70 = .ok (.dcmp .g, 1) := by decide +kernel
theorem dX10_close_71 : decode cX10_close 71 = .ok (.ifCond .ge 7, 3) := by decide +kernel
theorem dX10_close_74 : decode cX10_close 74 = .ok (.iconst 1, 1) := by decide +kernel
theorem dX10_close_75 : decode cX10_close 75 = .ok (.goto 4, 3) := by decide +kernel
theorem dX10_close_78 : decode cX10_close 78 = .ok (.iconst 0, 1) := by decide +kernel
theorem dX10_close_79 : decode cX10_close 79 = .ok (.istore_n 1, 1) := by decide +kernel
theorem dX10_close_80 : decode cX10_close 80 = .ok (.aload_n 0, 1) := by decide +kernel
theorem dX10_close_81 : decode cX10_close 81 = .ok (.getfield 7, 3) := by decide +kernel
theorem dX10_close_84 : decode cX10_close 84 = .ok (.iconst 4, 1) := by decide +kernel
theorem dX10_close_85 : decode cX10_close 85 = .ok (.dup2, 1) := by decide +kernel
theorem dX10_close_86 : decode cX10_close 86 = .ok (.laload, 1) := by decide +kernel
theorem dX10_close_87 : decode cX10_close 87 = .ok (.iload_n 1, 1) := by decide +kernel
theorem dX10_close_88 : decode cX10_close 88 = .ok (.ifCond .eq 7, 3) := by decide +kernel
theorem dX10_close_91 : decode cX10_close 91 = .ok (.lconst 1, 1) := by decide +kernel
theorem dX10_close_92 : decode cX10_close 92 = .ok (.goto 4, 3) := by decide +kernel
theorem dX10_close_95 : decode cX10_close 95 = .ok (.lconst 0, 1) := by decide +kernel
theorem dX10_close_96 : decode cX10_close 96 = .ok (.ladd, 1) := by decide +kernel
theorem dX10_close_97 : decode cX10_close 97 = .ok (.lastore, 1) := by decide +kernel
theorem dX10_close_98 : decode cX10_close 98 = .ok (.iload_n 1, 1) := by decide +kernel
theorem dX10_close_99 : decode cX10_close 99 = .ok (.ifCond .eq 7, 3) := by decide +kernel
theorem dX10_close_102 : decode cX10_close 102 = .ok (.iconst 1, 1) := by decide +kernel
theorem dX10_close_103 : decode cX10_close 103 = .ok (.goto 4, 3) := by decide +kernel
theorem dX10_close_106 : decode cX10_close 106 = .ok (.iconst 0, 1) := by decide +kernel
theorem dX10_close_107 : decode cX10_close 107 = .ok (.ireturn, 1) := by decide +kernel
theorem dX10_open_0 : decode cX10_open 0 = .ok (.aload_n 0, 1) := by decide +kernel
theorem dX10_open_1 : decode cX10_open 1 = .ok (.iconst 2, 1) := by decide +kernel
theorem dX10_open_2 : decode cX10_open 2 = .ok (.invokevirtual 131, 3) := by decide +kernel
theorem dX10_open_5 : decode cX10_open 5 = .ok (.aload_n 0, 1) := by decide +kernel
theorem dX10_open_6 : decode cX10_open 6 = .ok (.iconst 1, 1) := by decide +kernel
theorem dX10_open_7 : decode cX10_open 7 = .ok (.invokevirtual 131, 3) := by decide +kernel
theorem dX10_open_10 : decode cX10_open 10 = .ok (.iadd, 1) := by decide +kernel
theorem dX10_open_11 : decode cX10_open 11 = .ok (.aload_n 0, 1) := by decide +kernel
theorem dX10_open_12 : decode cX10_open 12 = .ok (.iconst 3, 1) := by decide +kernel
theorem dX10_open_13 : decode cX10_open 13 = .ok (.invokevirtual 131, 3) := by decide +kernel
theorem dX10_open_16 : decode cX10_open 16 = .ok (.iadd, 1) := by decide +kernel
theorem dX10_open_17 : decode cX10_open 17 = .ok (.ifCond .ne 6, 3) := by decide +kernel
theorem dX10_open_20 : decode cX10_open 20 = .ok (.bipush (-4), 2) := by decide +kernel
theorem dX10_open_22 : decode cX10_open 22 = .ok (.ireturn, 1) := by decide +kernel
theorem dX10_open_23 : decode cX10_open 23 = .ok (.aload_n 0, 1) := by decide +kernel
theorem dX10_open_24 : decode cX10_open 24 = .ok (.getfield 7, 3) := by decide +kernel
theorem dX10_open_27 : decode cX10_open 27 = .ok (.iconst 1, 1) := by decide +kernel
theorem dX10_open_28 : decode cX10_open 28 = .ok (.laload, 1) := by decide +kernel
theorem dX10_open_29 : decode cX10_open 29 = .ok (.ldc2_w 142, 3) := by decide +kernel
theorem dX10_open_32 : decode cX10_open 32 = .ok (.lcmp, 1) := by decide +kernel
theorem dX10_open_33 : decode cX10_open 33 = .ok (.ifCond .ne 6, 3) := by decide +kernel
theorem dX10_open_36 : decode cX10_open 36 = .ok (.bipush (-5), 2) := by decide +kernel
theorem dX10_open_38 : decode cX10_open 38 = .ok (.ireturn, 1) := by decide +kernel
theorem dX10_open_39 : decode cX10_open 39 = .ok (.aload_n 0, 1) := by decide +kernel
theorem dX10_open_40 : decode cX10_open 40 = .ok (.invokevirtual 82, 3) := by decide +kernel
theorem dX10_open_43 : decode cX10_open 43 = .ok (.aload_n 0, 1) := by decide +kernel
theorem dX10_open_44 : decode cX10_open 44 = .ok (.getfield 7, 3) := by decide +kernel
theorem dX10_open_47 : decode cX10_open 47 = .ok (.iconst 1, 1) := by decide +kernel
theorem dX10_open_48 : decode cX10_open 48 = .ok (.ldc2_w 142, 3) := by decide +kernel
theorem dX10_open_51 : decode cX10_open 51 = .ok (.lastore, 1) := by decide +kernel
theorem dX10_open_52 : decode cX10_open 52 = .ok (.aload_n 0, 1) := by decide +kernel
theorem dX10_open_53 : decode cX10_open 53 = .ok (.iconst 2, 1) := by decide +kernel
theorem dX10_open_54 : decode cX10_open 54 = .ok (.invokevirtual 131, 3) := by decide +kernel
theorem dX10_open_57 : decode cX10_open 57 = .ok (.ireturn, 1) := by decide +kernel
theorem dX10_service_0 : decode cX10_service 0 = .ok (.aload_n 0, 1) := by decide +kernel
theorem dX10_service_1 : decode cX10_service 1 = .ok (.iload_n 1, 1) := by decide +kernel
theorem dX10_service_2 : decode cX10_service 2 = .ok (.bipush 7, 2) := by decide +kernel
theorem dX10_service_4 : decode cX10_service 4 = .ok (.invokevirtual 95, 3) := by decide +kernel
theorem dX10_service_7 : decode cX10_service 7 = .ok (.ifCond .eq 5, 3) := by decide +kernel
theorem dX10_service_10 : decode cX10_service 10 = .ok (.iconst (-1), 1) := by decide +kernel
theorem dX10_service_11 : decode cX10_service 11 = .ok (.ireturn, 1) := by decide +kernel
theorem dX10_service_12 : decode cX10_service 12 = .ok (.aload_n 0, 1) := by decide +kernel
theorem dX10_service_13 : decode cX10_service 13 = .ok (.iload_n 1, 1) := by decide +kernel
theorem dX10_service_14 : decode cX10_service 14 = .ok (.iconst 3, 1) := by decide +kernel
theorem dX10_service_15 : decode cX10_service 15 = .ok (.invokevirtual 128, 3) := by decide +kernel
theorem dX10_service_18 : decode cX10_service 18 = .ok (.istore_n 2, 1) := by decide +kernel
theorem dX10_service_19 : decode cX10_service 19 = .ok (.iload_n 2, 1) := by decide +kernel
theorem dX10_service_20 : decode cX10_service 20 = .ok (.ifCond .eq 11, 3) := by decide +kernel
theorem dX10_service_23 : decode cX10_service 23 = .ok (.iload_n 2, 1) := by decide +kernel
theorem dX10_service_24 : decode cX10_service 24 = .ok (.iconst 4, 1) := by decide +kernel
theorem dX10_service_25 : decode cX10_service 25 = .ok (.if_icmp .eq 6, 3) := by decide +kernel
theorem dX10_service_28 : decode cX10_service 28 = .ok (.bipush (-4), 2) := by decide +kernel
theorem dX10_service_30 : decode cX10_service 30 = .ok (.ireturn, 1) := by decide +kernel
theorem dX10_service_31 : decode cX10_service 31 = .ok (.aload_n 0, 1) := by decide +kernel
theorem dX10_service_32 : decode cX10_service 32 = .ok (.iload_n 1, 1) := by decide +kernel
theorem dX10_service_33 : decode cX10_service 33 = .ok (.iconst 5, 1) := by decide +kernel
theorem dX10_service_34 : decode cX10_service 34 = .ok (.invokevirtual 128, 3) := by decide +kernel
theorem dX10_service_37 : decode cX10_service 37 = .ok (.istore_n 3, 1) := by decide +kernel
theorem dX10_service_38 : decode cX10_service 38 = .ok (.iload_n 2, 1) := by decide +kernel
theorem dX10_service_39 : decode cX10_service 39 = .ok (.ifCond .ne 10, 3) := by decide +kernel
theorem dX10_service_42 : decode cX10_service 42 = .ok (.iload_n 3, 1) := by decide +kernel
theorem dX10_service_43 : decode cX10_service 43 = .ok (.ifCond .ne 6, 3) := by decide +kernel
theorem dX10_service_46 : decode cX10_service 46 = .ok (.bipush (-5), 2) := by decide +kernel
theorem dX10_service_48 : decode cX10_service 48 = .ok (.ireturn, 1) := by decide +kernel
theorem dX10_service_49 : decode cX10_service 49 = .ok (.aload_n 0, 1) := by decide +kernel
theorem dX10_service_50 : decode cX10_service 50 = .ok (.invokevirtual 82, 3) := by decide +kernel
theorem dX10_service_53 : decode cX10_service 53 = .ok (.aload_n 0, 1) := by decide +kernel
theorem dX10_service_54 : decode cX10_service 54 = .ok (.iload_n 1, 1) := by decide +kernel
theorem dX10_service_55 : decode cX10_service 55 = .ok (.iconst 3, 1) := by decide +kernel
theorem dX10_service_56 : decode cX10_service 56 = .ok (.iconst 0, 1) := by decide +kernel
theorem dX10_service_57 : decode cX10_service 57 = .ok (.invokevirtual 85, 3) := by decide +kernel
theorem dX10_service_60 : decode cX10_service 60 = .ok (.aload_n 0, 1) := by decide +kernel
theorem dX10_service_61 : decode cX10_service 61 = .ok (.iload_n 1, 1) := by decide +kernel
theorem dX10_service_62 : decode cX10_service 62 = .ok (.iconst 5, 1) := by decide +kernel
theorem dX10_service_63 : decode cX10_service 63 = .ok (.iconst 0, 1) := by decide +kernel
theorem dX10_service_64 : decode cX10_service 64 = .ok (.invokevirtual 85, 3) := by decide +kernel
theorem dX10_service_67 : decode cX10_service 67 = .ok (.iload_n 3, 1) := by decide +kernel
theorem dX10_service_68 : decode cX10_service 68 = .ok (.ireturn, 1) := by decide +kernel
theorem dX10_moves_0 : decode cX10_moves 0 = .ok (.aload_n 0, 1) := by decide +kernel
theorem dX10_moves_1 : decode cX10_moves 1 = .ok (.iload_n 1, 1) := by decide +kernel
theorem dX10_moves_2 : decode cX10_moves 2 = .ok (.iconst 3, 1) := by decide +kernel
theorem dX10_moves_3 : decode cX10_moves 3 = .ok (.iload_n 2, 1) := by decide +kernel
theorem dX10_moves_4 : decode cX10_moves 4 = .ok (.invokevirtual 85, 3) := by decide +kernel
theorem dX10_moves_7 : decode cX10_moves 7 = .ok (.aload_n 0, 1) := by decide +kernel
theorem dX10_moves_8 : decode cX10_moves 8 = .ok (.iload_n 1, 1) := by decide +kernel
theorem dX10_moves_9 : decode cX10_moves 9 = .ok (.iconst 4, 1) := by decide +kernel
theorem dX10_moves_10 : decode cX10_moves 10 = .ok (.aload_n 0, 1) := by decide +kernel
theorem dX10_moves_11 : decode cX10_moves 11 = .ok (.iload_n 1, 1) := by decide +kernel
theorem dX10_moves_12 : decode cX10_moves 12 = .ok (.iconst 1, 1) := by decide +kernel
theorem dX10_moves_13 : decode cX10_moves 13 = .ok (.invokevirtual 128, 3) := by decide +kernel
theorem dX10_moves_16 : decode cX10_moves 16 = .ok (.invokevirtual 85, 3) := by decide +kernel
theorem dX10_moves_19 : decode cX10_moves 19 = .ok (.aload_n 0, 1) := by decide +kernel
theorem dX10_moves_20 : decode cX10_moves 20 = .ok (.getfield 7, 3) := by decide +kernel
theorem dX10_moves_23 : decode cX10_moves 23 = .ok (.iconst 2, 1) := by decide +kernel
theorem dX10_moves_24 : decode cX10_moves 24 = .ok (.iload_n 1, 1) := by decide +kernel
theorem dX10_moves_25 : decode cX10_moves 25 = .ok (.i2l, 1) := by decide +kernel
theorem dX10_moves_26 : decode cX10_moves 26 = .ok (.lconst 1, 1) := by decide +kernel
theorem dX10_moves_27 : decode cX10_moves 27 = .ok (.ladd, 1) := by decide +kernel
theorem dX10_moves_28 : decode cX10_moves 28 = .ok (.lastore, 1) := by decide +kernel
theorem dX10_moves_29 : decode cX10_moves 29 = .ok (.return_, 1) := by decide +kernel
theorem dX10_follow_0 : decode cX10_follow 0 = .ok (.aload_n 0, 1) := by decide +kernel
theorem dX10_follow_1 : decode cX10_follow 1 = .ok (.getfield 7, 3) := by decide +kernel
theorem dX10_follow_4 : decode cX10_follow 4 = .ok (.iconst 2, 1) := by decide +kernel
theorem dX10_follow_5 : decode cX10_follow 5 = .ok (.laload, 1) := by decide +kernel
theorem dX10_follow_6 : decode cX10_follow 6 = .ok (.lconst 0, 1) := by decide +kernel
theorem dX10_follow_7 : decode cX10_follow 7 = .ok (.lcmp, 1) := by decide +kernel
theorem dX10_follow_8 : decode cX10_follow 8 = .ok (.ifCond .gt 14, 3) := by decide +kernel
theorem dX10_follow_11 : decode cX10_follow 11 = .ok (.aload_n 0, 1) := by decide +kernel
theorem dX10_follow_12 : decode cX10_follow 12 = .ok (.getfield 7, 3) := by decide +kernel
theorem dX10_follow_15 : decode cX10_follow 15 = .ok (.iconst 1, 1) := by decide +kernel
theorem dX10_follow_16 : decode cX10_follow 16 = .ok (.laload, 1) := by decide +kernel
theorem dX10_follow_17 : decode cX10_follow 17 = .ok (.lconst 0, 1) := by decide +kernel
theorem dX10_follow_18 : decode cX10_follow 18 = .ok (.lcmp, 1) := by decide +kernel
theorem dX10_follow_19 : decode cX10_follow 19 = .ok (.ifCond .ne 5, 3) := by decide +kernel
theorem dX10_follow_22 : decode cX10_follow 22 = .ok (.iconst 0, 1) := by decide +kernel
theorem dX10_follow_23 : decode cX10_follow 23 = .ok (.ireturn, 1) := by decide +kernel
theorem dX10_follow_24 : decode cX10_follow 24 = .ok (.aload_n 0, 1) := by decide +kernel
theorem dX10_follow_25 : decode cX10_follow 25 = .ok (.bipush 7, 2) := by decide +kernel
theorem dX10_follow_27 : decode cX10_follow 27 = .ok (.invokevirtual 50, 3) := by decide +kernel
theorem dX10_follow_30 : decode cX10_follow 30 = .ok (.istore_n 1, 1) := by decide +kernel
theorem dX10_follow_31 : decode cX10_follow 31 = .ok (.aload_n 0, 1) := by decide +kernel
theorem dX10_follow_32 : decode cX10_follow 32 = .ok (.getfield 7, 3) := by decide +kernel
theorem dX10_follow_35 : decode cX10_follow 35 = .ok (.iconst 1, 1) := by decide +kernel
theorem dX10_follow_36 : decode cX10_follow 36 = .ok (.laload, 1) := by decide +kernel
theorem dX10_follow_37 : decode cX10_follow 37 = .ok (.lconst 1, 1) := by decide +kernel
theorem dX10_follow_38 : decode cX10_follow 38 = .ok (.lcmp, 1) := by decide +kernel
theorem dX10_follow_39 : decode cX10_follow 39 = .ok (.ifCond .ne 60, 3) := by decide +kernel
theorem dX10_follow_42 : decode cX10_follow 42 = .ok (.iconst 0, 1) := by decide +kernel
theorem dX10_follow_43 : decode cX10_follow 43 = .ok (.istore_n 2, 1) := by decide +kernel
theorem dX10_follow_44 : decode cX10_follow 44 = .ok (.iload_n 2, 1) := by decide +kernel
theorem dX10_follow_45 : decode cX10_follow 45 = .ok (.iload_n 1, 1) := by decide +kernel
theorem dX10_follow_46 : decode cX10_follow 46 = .ok (.if_icmp .ge 50, 3) := by decide +kernel
theorem dX10_follow_49 : decode cX10_follow 49 = .ok (.aload_n 0, 1) := by decide +kernel
theorem dX10_follow_50 : decode cX10_follow 50 = .ok (.iload_n 2, 1) := by decide +kernel
theorem dX10_follow_51 : decode cX10_follow 51 = .ok (.iconst 3, 1) := by decide +kernel
theorem dX10_follow_52 : decode cX10_follow 52 = .ok (.invokevirtual 128, 3) := by decide +kernel
theorem dX10_follow_55 : decode cX10_follow 55 = .ok (.ifCond .ne 35, 3) := by decide +kernel
theorem dX10_follow_58 : decode cX10_follow 58 = .ok (.aload_n 0, 1) := by decide +kernel
theorem dX10_follow_59 : decode cX10_follow 59 = .ok (.iload_n 2, 1) := by decide +kernel
theorem dX10_follow_60 : decode cX10_follow 60 = .ok (.iconst 5, 1) := by decide +kernel
theorem dX10_follow_61 : decode cX10_follow 61 = .ok (.invokevirtual 128, 3) := by decide +kernel
theorem dX10_follow_64 : decode cX10_follow 64 = .ok (.aload_n 0, 1) := by decide +kernel
theorem dX10_follow_65 : decode cX10_follow 65 = .ok (.iload_n 2, 1) := by decide +kernel
theorem dX10_follow_66 : decode cX10_follow 66 = .ok (.iconst 2, 1) := by decide +kernel
theorem dX10_follow_67 : decode cX10_follow 67 = .ok (.invokevirtual 128, 3) := by decide +kernel
theorem dX10_follow_70 : decode cX10_follow 70 = .ok (.if_icmp .lt 12, 3) := by decide +kernel
theorem dX10_follow_73 : decode cX10_follow 73 = .ok (.aload_n 0, 1) := by decide +kernel
theorem dX10_follow_74 : decode cX10_follow 74 = .ok (.iload_n 2, 1) := by decide +kernel
theorem dX10_follow_75 : decode cX10_follow 75 = .ok (.iconst 3, 1) := by decide +kernel
theorem dX10_follow_76 : decode cX10_follow 76 = .ok (.iconst 4, 1) := by decide +kernel
theorem dX10_follow_77 : decode cX10_follow 77 = .ok (.invokevirtual 85, 3) := by decide +kernel
theorem dX10_follow_80 : decode cX10_follow 80 = .ok (.iconst 1, 1) := by decide +kernel
theorem dX10_follow_81 : decode cX10_follow 81 = .ok (.ireturn, 1) := by decide +kernel
theorem dX10_follow_82 : decode cX10_follow 82 = .ok (.aload_n 0, 1) := by decide +kernel
theorem dX10_follow_83 : decode cX10_follow 83 = .ok (.iload_n 2, 1) := by decide +kernel
theorem dX10_follow_84 : decode cX10_follow 84 = .ok (.iconst 1, 1) := by decide +kernel
theorem dX10_follow_85 : decode cX10_follow 85 = .ok (.invokevirtual 144, 3) := by decide +kernel
theorem dX10_follow_88 : decode cX10_follow 88 = .ok (.iconst 0, 1) := by decide +kernel
theorem dX10_follow_89 : decode cX10_follow 89 = .ok (.ireturn, 1) := by decide +kernel
theorem dX10_follow_90 : decode cX10_follow 90 = .ok (.iinc 2 1, 3) := by decide +kernel
theorem dX10_follow_93 : decode cX10_follow 93 = .ok (.goto (-49), 3) := by decide +kernel
theorem dX10_follow_96 : decode cX10_follow 96 = .ok (.goto 35, 3) := by decide +kernel
theorem dX10_follow_99 : decode cX10_follow 99 = .ok (.iload_n 1, 1) := by decide +kernel
theorem dX10_follow_100 : decode cX10_follow 100 = .ok (.iconst 1, 1) := by decide +kernel
theorem dX10_follow_101 : decode cX10_follow 101 = .ok (.isub, 1) := by decide +kernel
theorem dX10_follow_102 : decode cX10_follow 102 = .ok (.istore_n 2, 1) := by decide +kernel
theorem dX10_follow_103 : decode cX10_follow 103 = .ok (.iload_n 2, 1) := by decide +kernel
theorem dX10_follow_104 : decode cX10_follow 104 = .ok (.ifCond .lt 27, 3) := by decide +kernel
theorem dX10_follow_107 : decode cX10_follow 107 = .ok (.aload_n 0, 1) := by decide +kernel
theorem dX10_follow_108 : decode cX10_follow 108 = .ok (.iload_n 2, 1) := by decide +kernel
theorem dX10_follow_109 : decode cX10_follow 109 = .ok (.iconst 3, 1) := by decide +kernel
theorem dX10_follow_110 : decode cX10_follow 110 = .ok (.invokevirtual 128, 3) := by decide +kernel
theorem dX10_follow_113 : decode cX10_follow 113 = .ok (.iconst 2, 1) := by decide +kernel
theorem dX10_follow_114 : decode cX10_follow 114 = .ok (.if_icmp .ne 11, 3) := by decide +kernel
theorem dX10_follow_117 : decode cX10_follow 117 = .ok (.aload_n 0, 1) := by decide +kernel
theorem dX10_follow_118 : decode cX10_follow 118 = .ok (.iload_n 2, 1) := by decide +kernel
theorem dX10_follow_119 : decode cX10_follow 119 = .ok (.iconst 3, 1) := by decide +kernel
theorem dX10_follow_120 : decode cX10_follow 120 = .ok (.invokevirtual 144, 3) := by decide +kernel
theorem dX10_follow_123 : decode cX10_follow 123 = .ok (.iconst 0, 1) := by decide +kernel
theorem dX10_follow_124 : decode cX10_follow 124 = .ok (.ireturn, 1) := by decide +kernel
theorem dX10_follow_125 : decode cX10_follow 125 = .ok (.iinc 2 (-1), 3) := by decide +kernel
theorem dX10_follow_128 : decode cX10_follow 128 = .ok (.goto (-25), 3) := by decide +kernel
theorem dX10_follow_131 : decode cX10_follow 131 = .ok (.aload_n 0, 1) := by decide +kernel
theorem dX10_follow_132 : decode cX10_follow 132 = .ok (.getfield 7, 3) := by decide +kernel
theorem dX10_follow_135 : decode cX10_follow 135 = .ok (.iconst 1, 1) := by decide +kernel
theorem dX10_follow_136 : decode cX10_follow 136 = .ok (.lconst 0, 1) := by decide +kernel
theorem dX10_follow_137 : decode cX10_follow 137 = .ok (.lastore, 1) := by decide +kernel
theorem dX10_follow_138 : decode cX10_follow 138 = .ok (.iconst 0, 1) := by decide +kernel
theorem dX10_follow_139 : decode cX10_follow 139 = .ok (.ireturn, 1) := by decide +kernel
theorem dX10_flowsOut_0 : decode cX10_flowsOut 0 = .ok (.lload_n 1, 1) := by decide +kernel
theorem dX10_flowsOut_1 : decode cX10_flowsOut 1 = .ok (.aload_n 0, 1) := by decide +kernel
theorem dX10_flowsOut_2 : decode cX10_flowsOut 2 = .ok (.getfield 7, 3) := by decide +kernel
theorem dX10_flowsOut_5 : decode cX10_flowsOut 5 = .ok (.bipush 12, 2) := by decide +kernel
theorem dX10_flowsOut_7 : decode cX10_flowsOut 7 = .ok (.laload, 1) := by decide +kernel
theorem dX10_flowsOut_8 : decode cX10_flowsOut 8 = .ok (.lcmp, 1) := by decide +kernel
theorem dX10_flowsOut_9 : decode cX10_flowsOut 9 = .ok (.ifCond .ge 7, 3) := by decide +kernel
theorem dX10_flowsOut_12 : decode cX10_flowsOut 12 = .ok (.lload_n 1, 1) := by decide +kernel
theorem dX10_flowsOut_13 : decode cX10_flowsOut 13 = .ok (.goto 10, 3) := by decide +kernel
theorem dX10_flowsOut_16 : decode cX10_flowsOut 16 = .ok (.aload_n 0, 1) := by decide +kernel
theorem dX10_flowsOut_17 : decode cX10_flowsOut 17 = .ok (.getfield 7, 3) := by decide +kernel
theorem dX10_flowsOut_20 : decode cX10_flowsOut 20 = .ok (.bipush 12, 2) := by decide +kernel
theorem dX10_flowsOut_22 : decode cX10_flowsOut 22 = .ok (.laload, 1) := by decide +kernel
theorem dX10_flowsOut_23 : decode cX10_flowsOut 23 = .ok (.lstore 4, 2) := by decide +kernel
theorem dX10_flowsOut_25 : decode cX10_flowsOut 25 = .ok (.aload_n 0, 1) := by decide +kernel
theorem dX10_flowsOut_26 : decode cX10_flowsOut 26 = .ok (.getfield 7, 3) := by decide +kernel
theorem dX10_flowsOut_29 : decode cX10_flowsOut 29 = .ok (.bipush 12, 2) := by decide +kernel
theorem dX10_flowsOut_31 : decode cX10_flowsOut 31 = .ok (.dup2, 1) := by decide +kernel
theorem dX10_flowsOut_32 : decode cX10_flowsOut 32 = .ok (.laload, 1) := by decide +kernel
theorem dX10_flowsOut_33 : decode cX10_flowsOut 33 = .ok (.lload 4, 2) := by decide +kernel
theorem dX10_flowsOut_35 : decode cX10_flowsOut 35 = .ok (.lsub, 1) := by decide +kernel
theorem dX10_flowsOut_36 : decode cX10_flowsOut 36 = .ok (.lastore, 1) := by decide +kernel
theorem dX10_flowsOut_37 : decode cX10_flowsOut 37 = .ok (.aload_n 0, 1) := by decide +kernel
theorem dX10_flowsOut_38 : decode cX10_flowsOut 38 = .ok (.getfield 7, 3) := by decide +kernel
theorem dX10_flowsOut_41 : decode cX10_flowsOut 41 = .ok (.iload_n 3, 1) := by decide +kernel
theorem dX10_flowsOut_42 : decode cX10_flowsOut 42 = .ok (.dup2, 1) := by decide +kernel
theorem dX10_flowsOut_43 : decode cX10_flowsOut 43 = .ok (.laload, 1) := by decide +kernel
theorem dX10_flowsOut_44 : decode cX10_flowsOut 44 = .ok (.lload 4, 2) := by decide +kernel
theorem dX10_flowsOut_46 : decode cX10_flowsOut 46 = .ok (.ladd, 1) := by decide +kernel
theorem dX10_flowsOut_47 : decode cX10_flowsOut 47 = .ok (.lastore, 1) := by decide +kernel
theorem dX10_flowsOut_48 : decode cX10_flowsOut 48 = .ok (.return_, 1) := by decide +kernel
theorem dX10_flowsIn_0 : decode cX10_flowsIn 0 = .ok (.aload_n 0, 1) := by decide +kernel
theorem dX10_flowsIn_1 : decode cX10_flowsIn 1 = .ok (.getfield 7, 3) := by decide +kernel
theorem dX10_flowsIn_4 : decode cX10_flowsIn 4 = .ok (.bipush 12, 2) := by decide +kernel
theorem dX10_flowsIn_6 : decode cX10_flowsIn 6 = .ok (.dup2, 1) := by decide +kernel
theorem dX10_flowsIn_7 : decode cX10_flowsIn 7 = .ok (.laload, 1) := by decide +kernel
theorem dX10_flowsIn_8 : decode cX10_flowsIn 8 = .ok (.lload_n 1, 1) := by decide +kernel
theorem dX10_flowsIn_9 : decode cX10_flowsIn 9 = .ok (.ladd, 1) := by decide +kernel
theorem dX10_flowsIn_10 : decode cX10_flowsIn 10 = .ok (.lastore, 1) := by decide +kernel
theorem dX10_flowsIn_11 : decode cX10_flowsIn 11 = .ok (.aload_n 0, 1) := by decide +kernel
theorem dX10_flowsIn_12 : decode cX10_flowsIn 12 = .ok (.getfield 7, 3) := by decide +kernel
theorem dX10_flowsIn_15 : decode cX10_flowsIn 15 = .ok (.iload_n 3, 1) := by decide +kernel
theorem dX10_flowsIn_16 : decode cX10_flowsIn 16 = .ok (.dup2, 1) := by decide +kernel
theorem dX10_flowsIn_17 : decode cX10_flowsIn 17 = .ok (.laload, 1) := by decide +kernel
theorem dX10_flowsIn_18 : decode cX10_flowsIn 18 = .ok (.lload_n 1, 1) := by decide +kernel
theorem dX10_flowsIn_19 : decode cX10_flowsIn 19 = .ok (.ladd, 1) := by decide +kernel
theorem dX10_flowsIn_20 : decode cX10_flowsIn 20 = .ok (.lastore, 1) := by decide +kernel
theorem dX10_flowsIn_21 : decode cX10_flowsIn 21 = .ok (.return_, 1) := by decide +kernel
theorem dX10_flow_0 : decode cX10_flow 0 = .ok (.aload_n 0, 1) := by decide +kernel
theorem dX10_flow_1 : decode cX10_flow 1 = .ok (.invokevirtual 138, 3) := by decide +kernel
theorem dX10_flow_4 : decode cX10_flow 4 = .ok (.dstore_n 1, 1) := by decide +kernel
theorem dX10_flow_5 : decode cX10_flow 5 = .ok (.aload_n 0, 1) := by decide +kernel
theorem dX10_flow_6 : decode cX10_flow 6 = .ok (.invokevirtual 148, 3) := by decide +kernel
theorem dX10_flow_9 : decode cX10_flow 9 = .ok (.dstore_n 3, 1) := by decide +kernel
theorem dX10_flow_10 : decode cX10_flow 10 = .ok (.iconst 0, 1) := by decide +kernel
theorem dX10_flow_11 : decode cX10_flow 11 = .ok (.istore 5, 2) := by decide +kernel
theorem dX10_flow_13 : decode cX10_flow 13 = .ok (.iload 5, 2) := by decide +kernel
theorem dX10_flow_15 : decode cX10_flow 15 = .ok (.i2l, 1) := by decide +kernel
theorem dX10_flow_16 : decode cX10_flow 16 = .ok (.aload_n 0, 1) := by decide +kernel
theorem dX10_flow_17 : decode cX10_flow 17 = .ok (.getfield 7, 3) := by decide +kernel
theorem dX10_flow_20 : decode cX10_flow 20 = .ok (.bipush 7, 2) := by decide +kernel
theorem dX10_flow_22 : decode cX10_flow 22 = .ok (.laload, 1) := by decide +kernel
theorem dX10_flow_23 : decode cX10_flow 23 = .ok (.lcmp, 1) := by decide +kernel
theorem dX10_flow_24 : decode cX10_flow 24 = .ok (.ifCond .ge 66, 3) := by decide +kernel
theorem dX10_flow_27 : decode cX10_flow 27 = .ok (.aload_n 0, 1) := by decide +kernel
theorem dX10_flow_28 : decode cX10_flow 28 = .ok (.iload 5, 2) := by decide +kernel
theorem dX10_flow_30 : decode cX10_flow 30 = .ok (.iconst 3, 1) := by decide +kernel
theorem dX10_flow_31 : decode cX10_flow 31 = .ok (.invokevirtual 128, 3) := by decide +kernel
theorem dX10_flow_34 : decode cX10_flow 34 = .ok (.iconst 2, 1) := by decide +kernel
theorem dX10_flow_35 : decode cX10_flow 35 = .ok (.if_icmp .eq 49, 3) := by decide +kernel
theorem dX10_flow_38 : decode cX10_flow 38 = .ok (.aload_n 0, 1) := by decide +kernel
theorem dX10_flow_39 : decode cX10_flow 39 = .ok (.iload 5, 2) := by decide +kernel
theorem dX10_flow_41 : decode cX10_flow 41 = .ok (.iconst 0, 1) := by decide +kernel
theorem dX10_flow_42 : decode cX10_flow 42 = .ok (.invokevirtual 128, 3) := by decide +kernel
theorem dX10_flow_45 : decode cX10_flow 45 = .ok (.i2d, 1) := by decide +kernel
theorem dX10_flow_46 : decode cX10_flow 46 = .ok (.ldc2_w 151, 3) := by decide +kernel
theorem dX10_flow_49 : decode cX10_flow 49 = .ok (.dmul, 1) := by decide +kernel
theorem dX10_flow_50 : decode cX10_flow 50 = .ok (.dload_n 1, 1) := by decide +kernel
theorem dX10_flow_51 : decode cX10_flow 51 = .ok (.dload_n 3, 1) := by decide +kernel
theorem dX10_flow_52 : decode cX10_flow 52 = .ok (.dsub, 1) := by decide +kernel
theorem dX10_flow_53 : decode cX10_flow 53 = .ok (.dmul, 1) := by decide +kernel
theorem dX10_flow_54 : decode cX10_flow 54 = .ok (.d2l, 1) := by decide +kernel
theorem dX10_flow_55 : decode cX10_flow 55 = .ok (.lstore 6, 2) := by decide +kernel
theorem dX10_flow_57 : decode cX10_flow 57 = .ok (.lload 6, 2) := by decide +kernel
theorem dX10_flow_59 : decode cX10_flow 59 = .ok (.lconst 0, 1) := by decide +kernel
theorem dX10_flow_60 : decode cX10_flow 60 = .ok (.lcmp, 1) := by decide +kernel
theorem dX10_flow_61 : decode cX10_flow 61 = .ok (.ifCond .le 14, 3) := by decide +kernel
theorem dX10_flow_64 : decode cX10_flow 64 = .ok (.aload_n 0, 1) := by decide +kernel
theorem dX10_flow_65 : decode cX10_flow 65 = .ok (.lload 6, 2) := by decide +kernel
theorem dX10_flow_67 : decode cX10_flow 67 = .ok (.bipush 13, 2) := by decide +kernel
theorem dX10_flow_69 : decode cX10_flow 69 = .ok (.invokevirtual 153, 3) := by decide +kernel
theorem dX10_flow_72 : decode cX10_flow 72 = .ok (.goto 12, 3) := by decide +kernel
theorem dX10_flow_75 : decode cX10_flow 75 = .ok (.aload_n 0, 1) := by decide +kernel
theorem dX10_flow_76 : decode cX10_flow 76 = .ok (.lload 6, 2) := by decide +kernel
theorem dX10_flow_78 : decode cX10_flow 78 = .ok (.lneg, 1) := by decide +kernel
theorem dX10_flow_79 : decode cX10_flow 79 = .ok (.bipush 14, 2) := by decide +kernel
theorem dX10_flow_81 : decode cX10_flow 81 = .ok (.invokevirtual 157, 3) := by decide +kernel
theorem dX10_flow_84 : decode cX10_flow 84 = .ok (.iinc 5 1, 3) := by decide +kernel
theorem dX10_flow_87 : decode cX10_flow 87 = .ok (.goto (-74), 3) := by decide +kernel
theorem dX10_flow_90 : decode cX10_flow 90 = .ok (.iconst 0, 1) := by decide +kernel
theorem dX10_flow_91 : decode cX10_flow 91 = .ok (.istore 5, 2) := by decide +kernel
theorem dX10_flow_93 : decode cX10_flow 93 = .ok (.iload 5, 2) := by decide +kernel
theorem dX10_flow_95 : decode cX10_flow 95 = .ok (.i2l, 1) := by decide +kernel
theorem dX10_flow_96 : decode cX10_flow 96 = .ok (.aload_n 0, 1) := by decide +kernel
theorem dX10_flow_97 : decode cX10_flow 97 = .ok (.getfield 7, 3) := by decide +kernel
theorem dX10_flow_100 : decode cX10_flow 100 = .ok (.bipush 7, 2) := by decide +kernel
theorem dX10_flow_102 : decode cX10_flow 102 = .ok (.laload, 1) := by decide +kernel
theorem dX10_flow_103 : decode cX10_flow 103 = .ok (.lcmp, 1) := by decide +kernel
theorem dX10_flow_104 : decode cX10_flow 104 = .ok (.ifCond .ge 67, 3) := by decide +kernel
theorem dX10_flow_107 : decode cX10_flow 107 = .ok (.aload_n 0, 1) := by decide +kernel
theorem dX10_flow_108 : decode cX10_flow 108 = .ok (.iload 5, 2) := by decide +kernel
theorem dX10_flow_110 : decode cX10_flow 110 = .ok (.iconst 3, 1) := by decide +kernel
theorem dX10_flow_111 : decode cX10_flow 111 = .ok (.invokevirtual 128, 3) := by decide +kernel
theorem dX10_flow_114 : decode cX10_flow 114 = .ok (.iconst 2, 1) := by decide +kernel
theorem dX10_flow_115 : decode cX10_flow 115 = .ok (.if_icmp .ne 50, 3) := by decide +kernel
theorem dX10_flow_118 : decode cX10_flow 118 = .ok (.aload_n 0, 1) := by decide +kernel
theorem dX10_flow_119 : decode cX10_flow 119 = .ok (.getfield 22, 3) := by decide +kernel
theorem dX10_flow_122 : decode cX10_flow 122 = .ok (.bipush 25, 2) := by decide +kernel
theorem dX10_flow_124 : decode cX10_flow 124 = .ok (.iload 5, 2) := by decide +kernel
theorem dX10_flow_126 : decode cX10_flow 126 = .ok (.iadd, 1) := by decide +kernel
theorem dX10_flow_127 : decode cX10_flow 127 = .ok (.daload, 1) := by decide +kernel
theorem dX10_flow_128 : decode cX10_flow 128 = .ok (.dload_n 1, 1) := by decide +kernel
theorem dX10_flow_129 : decode cX10_flow 129 = .ok (.dcmp .g, 1) := by decide +kernel
theorem dX10_flow_130 : decode cX10_flow 130 = .ok (.ifCond .ge 35, 3) := by decide +kernel
theorem dX10_flow_133 : decode cX10_flow 133 = .ok (.aload_n 0, 1) := by decide +kernel
theorem dX10_flow_134 : decode cX10_flow 134 = .ok (.aload_n 0, 1) := by decide +kernel
theorem dX10_flow_135 : decode cX10_flow 135 = .ok (.iload 5, 2) := by decide +kernel
theorem dX10_flow_137 : decode cX10_flow 137 = .ok (.iconst 0, 1) := by decide +kernel
theorem dX10_flow_138 : decode cX10_flow 138 = .ok (.invokevirtual 128, 3) := by decide +kernel
theorem dX10_flow_141 : decode cX10_flow 141 = .ok (.i2d, 1) := by decide +kernel
theorem dX10_flow_142 : decode cX10_flow 142 = .ok (.ldc2_w 160, 3) := by decide +kernel
theorem dX10_flow_145 : decode cX10_flow 145 = .ok (.dmul, 1) := by decide +kernel
theorem dX10_flow_146 : decode cX10_flow 146 = .ok (.dload_n 1, 1) := by decide +kernel
theorem dX10_flow_147 : decode cX10_flow 147 = .ok (.aload_n 0, 1) := by decide +kernel
theorem dX10_flow_148 : decode cX10_flow 148 = .ok (.getfield 22, 3) := by decide +kernel
theorem dX10_flow_151 : decode cX10_flow 151 = .ok (.bipush 25, 2) := by decide +kernel
theorem dX10_flow_153 : decode cX10_flow 153 = .ok (.iload 5, 2) := by decide +kernel
theorem dX10_flow_155 : decode cX10_flow 155 = .ok (.iadd, 1) := by decide +kernel
theorem dX10_flow_156 : decode cX10_flow 156 = .ok (.daload, 1) := by decide +kernel
theorem dX10_flow_157 : decode cX10_flow 157 = .ok (.dsub, 1) := by decide +kernel
theorem dX10_flow_158 : decode cX10_flow 158 = .ok (.dmul, 1) := by decide +kernel
theorem dX10_flow_159 : decode cX10_flow 159 = .ok (.d2l, 1) := by decide +kernel
theorem dX10_flow_160 : decode cX10_flow 160 = .ok (.bipush 15, 2) := by decide +kernel
theorem dX10_flow_162 : decode cX10_flow 162 = .ok (.invokevirtual 153, 3) := by decide +kernel
theorem dX10_flow_165 : decode cX10_flow 165 = .ok (.iinc 5 1, 3) := by decide +kernel
theorem dX10_flow_168 : decode cX10_flow 168 = .ok (.goto (-75), 3) := by decide +kernel
theorem dX10_flow_171 : decode cX10_flow 171 = .ok (.iconst 0, 1) := by decide +kernel
theorem dX10_flow_172 : decode cX10_flow 172 = .ok (.istore 5, 2) := by decide +kernel
theorem dX10_flow_174 : decode cX10_flow 174 = .ok (.iload 5, 2) := by decide +kernel
theorem dX10_flow_176 : decode cX10_flow 176 = .ok (.i2l, 1) := by decide +kernel
theorem dX10_flow_177 : decode cX10_flow 177 = .ok (.aload_n 0, 1) := by decide +kernel
theorem dX10_flow_178 : decode cX10_flow 178 = .ok (.getfield 7, 3) := by decide +kernel
theorem dX10_flow_181 : decode cX10_flow 181 = .ok (.bipush 9, 2) := by decide +kernel
theorem dX10_flow_183 : decode cX10_flow 183 = .ok (.laload, 1) := by decide +kernel
theorem dX10_flow_184 : decode cX10_flow 184 = .ok (.lcmp, 1) := by decide +kernel
theorem dX10_flow_185 : decode cX10_flow 185 = .ok (.ifCond .ge 25, 3) := by decide +kernel
theorem dX10_flow_188 : decode cX10_flow 188 = .ok (.aload_n 0, 1) := by decide +kernel
theorem dX10_flow_189 : decode cX10_flow 189 = .ok (.aload_n 0, 1) := by decide +kernel
theorem dX10_flow_190 : decode cX10_flow 190 = .ok (.getfield 7, 3) := by decide +kernel
theorem dX10_flow_193 : decode cX10_flow 193 = .ok (.bipush 80, 2) := by decide +kernel
theorem dX10_flow_195 : decode cX10_flow 195 = .ok (.iload 5, 2) := by decide +kernel
theorem dX10_flow_197 : decode cX10_flow 197 = .ok (.iadd, 1) := by decide +kernel
theorem dX10_flow_198 : decode cX10_flow 198 = .ok (.laload, 1) := by decide +kernel
theorem dX10_flow_199 : decode cX10_flow 199 = .ok (.bipush 16, 2) := by decide +kernel
theorem dX10_flow_201 : decode cX10_flow 201 = .ok (.invokevirtual 153, 3) := by decide +kernel
theorem dX10_flow_204 : decode cX10_flow 204 = .ok (.iinc 5 1, 3) := by decide +kernel
theorem dX10_flow_207 : decode cX10_flow 207 = .ok (.goto (-33), 3) := by decide +kernel
theorem dX10_flow_210 : decode cX10_flow 210 = .ok (.return_, 1) := by decide +kernel
theorem dX10_runs_0 : decode cX10_runs 0 = .ok (.iconst 0, 1) := by decide +kernel
theorem dX10_runs_1 : decode cX10_runs 1 = .ok (.istore_n 2, 1) := by decide +kernel
theorem dX10_runs_2 : decode cX10_runs 2 = .ok (.iconst 0, 1) := by decide +kernel
theorem dX10_runs_3 : decode cX10_runs 3 = .ok (.istore_n 3, 1) := by decide +kernel
theorem dX10_runs_4 : decode cX10_runs 4 = .ok (.iload_n 3, 1) := by decide +kernel
theorem dX10_runs_5 : decode cX10_runs 5 = .ok (.iload_n 1, 1) := by decide +kernel
theorem dX10_runs_6 : decode cX10_runs 6 = .ok (.if_icmp .gt 72, 3) := by decide +kernel
theorem dX10_runs_9 : decode cX10_runs 9 = .ok (.aload_n 0, 1) := by decide +kernel
theorem dX10_runs_10 : decode cX10_runs 10 = .ok (.iload_n 3, 1) := by decide +kernel
theorem dX10_runs_11 : decode cX10_runs 11 = .ok (.iconst 2, 1) := by decide +kernel
theorem dX10_runs_12 : decode cX10_runs 12 = .ok (.invokevirtual 103, 3) := by decide +kernel
theorem dX10_runs_15 : decode cX10_runs 15 = .ok (.iconst 1, 1) := by decide +kernel
theorem dX10_runs_16 : decode cX10_runs 16 = .ok (.if_icmp .ne 27, 3) := by decide +kernel
theorem dX10_runs_19 : decode cX10_runs 19 = .ok (.iload_n 2, 1) := by decide +kernel
theorem dX10_runs_20 : decode cX10_runs 20 = .ok (.aload_n 0, 1) := by decide +kernel
theorem dX10_runs_21 : decode cX10_runs 21 = .ok (.iload_n 3, 1) := by decide +kernel
theorem dX10_runs_22 : decode cX10_runs 22 = .ok (.iconst 0, 1) := by decide +kernel
theorem dX10_runs_23 : decode cX10_runs 23 = .ok (.invokevirtual 103, 3) := by decide +kernel
theorem dX10_runs_26 : decode cX10_runs 26 = .ok (.iadd, 1) := by decide +kernel
theorem dX10_runs_27 : decode cX10_runs 27 = .ok (.i2l, 1) := by decide +kernel
theorem dX10_runs_28 : decode cX10_runs 28 = .ok (.aload_n 0, 1) := by decide +kernel
theorem dX10_runs_29 : decode cX10_runs 29 = .ok (.getfield 7, 3) := by decide +kernel
theorem dX10_runs_32 : decode cX10_runs 32 = .ok (.bipush 6, 2) := by decide +kernel
theorem dX10_runs_34 : decode cX10_runs 34 = .ok (.laload, 1) := by decide +kernel
theorem dX10_runs_35 : decode cX10_runs 35 = .ok (.lcmp, 1) := by decide +kernel
theorem dX10_runs_36 : decode cX10_runs 36 = .ok (.ifCond .gt 7, 3) := by decide +kernel
theorem dX10_runs_39 : decode cX10_runs 39 = .ok (.iconst 1, 1) := by decide +kernel
theorem dX10_runs_40 : decode cX10_runs 40 = .ok (.goto 4, 3) := by decide +kernel
theorem dX10_runs_43 : decode cX10_runs 43 = .ok (.iconst 0, 1) := by decide +kernel
theorem dX10_runs_44 : decode cX10_runs 44 = .ok (.istore 4, 2) := by decide +kernel
theorem dX10_runs_46 : decode cX10_runs 46 = .ok (.iload_n 3, 1) := by decide +kernel
theorem dX10_runs_47 : decode cX10_runs 47 = .ok (.iload_n 1, 1) := by decide +kernel
theorem dX10_runs_48 : decode cX10_runs 48 = .ok (.if_icmp .ne 6, 3) := by decide +kernel
theorem dX10_runs_51 : decode cX10_runs 51 = .ok (.iload 4, 2) := by decide +kernel
theorem dX10_runs_53 : decode cX10_runs 53 = .ok (.ireturn, 1) := by decide +kernel
theorem dX10_runs_54 : decode cX10_runs 54 = .ok (.iload_n 2, 1) := by decide +kernel
theorem dX10_runs_55 : decode cX10_runs 55 = .ok (.iload 4, 2) := by decide +kernel
theorem dX10_runs_57 : decode cX10_runs 57 = .ok (.ifCond .eq 12, 3) := by decide +kernel
theorem dX10_runs_60 : decode cX10_runs 60 = .ok (.aload_n 0, 1) := by decide +kernel
theorem dX10_runs_61 : decode cX10_runs 61 = .ok (.iload_n 3, 1) := by decide +kernel
theorem dX10_runs_62 : decode cX10_runs 62 = .ok (.iconst 0, 1) := by decide +kernel
theorem dX10_runs_63 : decode cX10_runs 63 = .ok (.invokevirtual 103, 3) := by decide +kernel
theorem dX10_runs_66 : decode cX10_runs 66 = .ok (.goto 4, 3) := by decide +kernel
theorem dX10_runs_69 : decode cX10_runs 69 = .ok (.iconst 0, 1) := by decide +kernel
theorem dX10_runs_70 : decode cX10_runs 70 = .ok (.iadd, 1) := by decide +kernel
theorem dX10_runs_71 : decode cX10_runs 71 = .ok (.istore_n 2, 1) := by decide +kernel
theorem dX10_runs_72 : decode cX10_runs 72 = .ok (.iinc 3 1, 3) := by decide +kernel
theorem dX10_runs_75 : decode cX10_runs 75 = .ok (.goto (-71), 3) := by decide +kernel
theorem dX10_runs_78 : decode cX10_runs 78 = .ok (.iconst 0, 1) := by decide +kernel
theorem dX10_runs_79 : decode cX10_runs 79 = .ok (.ireturn, 1) := by decide +kernel
theorem dX10_pumps_0 : decode cX10_pumps 0 = .ok (.aload_n 0, 1) := by decide +kernel
theorem dX10_pumps_1 : decode cX10_pumps 1 = .ok (.getfield 7, 3) := by decide +kernel
theorem dX10_pumps_4 : decode cX10_pumps 4 = .ok (.bipush 11, 2) := by decide +kernel
theorem dX10_pumps_6 : decode cX10_pumps 6 = .ok (.lconst 0, 1) := by decide +kernel
theorem dX10_pumps_7 : decode cX10_pumps 7 = .ok (.lastore, 1) := by decide +kernel
theorem dX10_pumps_8 : decode cX10_pumps 8 = .ok (.iconst 0, 1) := by decide +kernel
theorem dX10_pumps_9 : decode cX10_pumps 9 = .ok (.istore_n 1, 1) := by decide +kernel
theorem dX10_pumps_10 : decode cX10_pumps 10 = .ok (.iload_n 1, 1) := by decide +kernel
theorem dX10_pumps_11 : decode cX10_pumps 11 = .ok (.i2l, 1) := by decide +kernel
theorem dX10_pumps_12 : decode cX10_pumps 12 = .ok (.aload_n 0, 1) := by decide +kernel
theorem dX10_pumps_13 : decode cX10_pumps 13 = .ok (.getfield 7, 3) := by decide +kernel
theorem dX10_pumps_16 : decode cX10_pumps 16 = .ok (.bipush 10, 2) := by decide +kernel
theorem dX10_pumps_18 : decode cX10_pumps 18 = .ok (.laload, 1) := by decide +kernel
theorem dX10_pumps_19 : decode cX10_pumps 19 = .ok (.lcmp, 1) := by decide +kernel
theorem dX10_pumps_20 : decode cX10_pumps 20 = .ok (.ifCond .ge 61, 3) := by decide +kernel
theorem dX10_pumps_23 : decode cX10_pumps 23 = .ok (.aload_n 0, 1) := by decide +kernel
theorem dX10_pumps_24 : decode cX10_pumps 24 = .ok (.iload_n 1, 1) := by decide +kernel
theorem dX10_pumps_25 : decode cX10_pumps 25 = .ok (.invokevirtual 162, 3) := by decide +kernel
theorem dX10_pumps_28 : decode cX10_pumps 28 = .ok (.ifCond .eq 36, 3) := by decide +kernel
theorem dX10_pumps_31 : decode cX10_pumps 31 = .ok (.aload_n 0, 1) := by decide +kernel
theorem dX10_pumps_32 : decode cX10_pumps 32 = .ok (.getfield 7, 3) := by decide +kernel
theorem dX10_pumps_35 : decode cX10_pumps 35 = .ok (.bipush 84, 2) := by decide +kernel
theorem dX10_pumps_37 : decode cX10_pumps 37 = .ok (.iconst 4, 1) := by decide +kernel
theorem dX10_pumps_38 : decode cX10_pumps 38 = .ok (.iload_n 1, 1) := by decide +kernel
theorem dX10_pumps_39 : decode cX10_pumps 39 = .ok (.imul, 1) := by decide +kernel
theorem dX10_pumps_40 : decode cX10_pumps 40 = .ok (.iadd, 1) := by decide +kernel
theorem dX10_pumps_41 : decode cX10_pumps 41 = .ok (.iconst 3, 1) := by decide +kernel
theorem dX10_pumps_42 : decode cX10_pumps 42 = .ok (.iadd, 1) := by decide +kernel
theorem dX10_pumps_43 : decode cX10_pumps 43 = .ok (.dup2, 1) := by decide +kernel
theorem dX10_pumps_44 : decode cX10_pumps 44 = .ok (.laload, 1) := by decide +kernel
theorem dX10_pumps_45 : decode cX10_pumps 45 = .ok (.lconst 1, 1) := by decide +kernel
theorem dX10_pumps_46 : decode cX10_pumps 46 = .ok (.ladd, 1) := by decide +kernel
theorem dX10_pumps_47 : decode cX10_pumps 47 = .ok (.lastore, 1) := by decide +kernel
theorem dX10_pumps_48 : decode cX10_pumps 48 = .ok (.aload_n 0, 1) := by decide +kernel
theorem dX10_pumps_49 : decode cX10_pumps 49 = .ok (.aload_n 0, 1) := by decide +kernel
theorem dX10_pumps_50 : decode cX10_pumps 50 = .ok (.iload_n 1, 1) := by decide +kernel
theorem dX10_pumps_51 : decode cX10_pumps 51 = .ok (.iconst 1, 1) := by decide +kernel
theorem dX10_pumps_52 : decode cX10_pumps 52 = .ok (.invokevirtual 103, 3) := by decide +kernel
theorem dX10_pumps_55 : decode cX10_pumps 55 = .ok (.i2l, 1) := by decide +kernel
theorem dX10_pumps_56 : decode cX10_pumps 56 = .ok (.bipush 17, 2) := by decide +kernel
theorem dX10_pumps_58 : decode cX10_pumps 58 = .ok (.invokevirtual 157, 3) := by decide +kernel
theorem dX10_pumps_61 : decode cX10_pumps 61 = .ok (.goto 14, 3) := by decide +kernel
theorem dX10_pumps_64 : decode cX10_pumps 64 = .ok (.aload_n 0, 1) := by decide +kernel
theorem dX10_pumps_65 : decode cX10_pumps 65 = .ok (.getfield 7, 3) := by decide +kernel
theorem dX10_pumps_68 : decode cX10_pumps 68 = .ok (.bipush 11, 2) := by decide +kernel
theorem dX10_pumps_70 : decode cX10_pumps 70 = .ok (.dup2, 1) := by decide +kernel
theorem dX10_pumps_71 : decode cX10_pumps 71 = .ok (.laload, 1) := by decide +kernel
theorem dX10_pumps_72 : decode cX10_pumps 72 = .ok (.lconst 1, 1) := by decide +kernel
theorem dX10_pumps_73 : decode cX10_pumps 73 = .ok (.ladd, 1) := by decide +kernel
theorem dX10_pumps_74 : decode cX10_pumps 74 = .ok (.lastore, 1) := by decide +kernel
theorem dX10_pumps_75 : decode cX10_pumps 75 = .ok (.iinc 1 1, 3) := by decide +kernel
theorem dX10_pumps_78 : decode cX10_pumps 78 = .ok (.goto (-68), 3) := by decide +kernel
theorem dX10_pumps_81 : decode cX10_pumps 81 = .ok (.return_, 1) := by decide +kernel
theorem dX10_goesOn_0 : decode cX10_goesOn 0 = .ok (.aload_n 0, 1) := by decide +kernel
theorem dX10_goesOn_1 : decode cX10_goesOn 1 = .ok (.invokevirtual 166, 3) := by decide +kernel
theorem dX10_goesOn_4 : decode cX10_goesOn 4 = .ok (.ifCond .eq 7, 3) := by decide +kernel
theorem dX10_goesOn_7 : decode cX10_goesOn 7 = .ok (.iconst 1, 1) := by decide +kernel
theorem dX10_goesOn_8 : decode cX10_goesOn 8 = .ok (.goto 4, 3) := by decide +kernel
theorem dX10_goesOn_11 : decode cX10_goesOn 11 = .ok (.iconst 0, 1) := by decide +kernel
theorem dX10_goesOn_12 : decode cX10_goesOn 12 = .ok (.istore_n 1, 1) := by decide +kernel
theorem dX10_goesOn_13 : decode cX10_goesOn 13 = .ok (.aload_n 0, 1) := by decide +kernel
theorem dX10_goesOn_14 : decode cX10_goesOn 14 = .ok (.invokevirtual 169, 3) := by decide +kernel
theorem dX10_goesOn_17 : decode cX10_goesOn 17 = .ok (.aload_n 0, 1) := by decide +kernel
theorem dX10_goesOn_18 : decode cX10_goesOn 18 = .ok (.invokevirtual 172, 3) := by decide +kernel
theorem dX10_goesOn_21 : decode cX10_goesOn 21 = .ok (.aload_n 0, 1) := by decide +kernel
theorem dX10_goesOn_22 : decode cX10_goesOn 22 = .ok (.iconst 2, 1) := by decide +kernel
theorem dX10_goesOn_23 : decode cX10_goesOn 23 = .ok (.invokevirtual 50, 3) := by decide +kernel
theorem dX10_goesOn_26 : decode cX10_goesOn 26 = .ok (.iconst 1, 1) := by decide +kernel
theorem dX10_goesOn_27 : decode cX10_goesOn 27 = .ok (.isub, 1) := by decide +kernel
theorem dX10_goesOn_28 : decode cX10_goesOn 28 = .ok (.istore_n 2, 1) := by decide +kernel
theorem dX10_goesOn_29 : decode cX10_goesOn 29 = .ok (.iload_n 2, 1) := by decide +kernel
theorem dX10_goesOn_30 : decode cX10_goesOn 30 = .ok (.ifCond .lt 86, 3) := by decide +kernel
theorem dX10_goesOn_33 : decode cX10_goesOn 33 = .ok (.aload_n 0, 1) := by decide +kernel
theorem dX10_goesOn_34 : decode cX10_goesOn 34 = .ok (.iload_n 2, 1) := by decide +kernel
theorem dX10_goesOn_35 : decode cX10_goesOn 35 = .ok (.iconst 4, 1) := by decide +kernel
theorem dX10_goesOn_36 : decode cX10_goesOn 36 = .ok (.aload_n 0, 1) := by decide +kernel
theorem dX10_goesOn_37 : decode cX10_goesOn 37 = .ok (.iload_n 2, 1) := by decide +kernel
theorem dX10_goesOn_38 : decode cX10_goesOn 38 = .ok (.iconst 4, 1) := by decide +kernel
theorem dX10_goesOn_39 : decode cX10_goesOn 39 = .ok (.invokevirtual 128, 3) := by decide +kernel
theorem dX10_goesOn_42 : decode cX10_goesOn 42 = .ok (.iconst 1, 1) := by decide +kernel
theorem dX10_goesOn_43 : decode cX10_goesOn 43 = .ok (.isub, 1) := by decide +kernel
theorem dX10_goesOn_44 : decode cX10_goesOn 44 = .ok (.invokevirtual 85, 3) := by decide +kernel
theorem dX10_goesOn_47 : decode cX10_goesOn 47 = .ok (.aload_n 0, 1) := by decide +kernel
theorem dX10_goesOn_48 : decode cX10_goesOn 48 = .ok (.iload_n 2, 1) := by decide +kernel
theorem dX10_goesOn_49 : decode cX10_goesOn 49 = .ok (.iconst 4, 1) := by decide +kernel
theorem dX10_goesOn_50 : decode cX10_goesOn 50 = .ok (.invokevirtual 128, 3) := by decide +kernel
theorem dX10_goesOn_53 : decode cX10_goesOn 53 = .ok (.ifCond .ne 63, 3) := by decide +kernel
theorem dX10_goesOn_56 : decode cX10_goesOn 56 = .ok (.aload_n 0, 1) := by decide +kernel
theorem dX10_goesOn_57 : decode cX10_goesOn 57 = .ok (.iload_n 2, 1) := by decide +kernel
theorem dX10_goesOn_58 : decode cX10_goesOn 58 = .ok (.iconst 3, 1) := by decide +kernel
theorem dX10_goesOn_59 : decode cX10_goesOn 59 = .ok (.invokevirtual 128, 3) := by decide +kernel
theorem dX10_goesOn_62 : decode cX10_goesOn 62 = .ok (.iconst 1, 1) := by decide +kernel
theorem dX10_goesOn_63 : decode cX10_goesOn 63 = .ok (.if_icmp .ne 7, 3) := by decide +kernel
theorem dX10_goesOn_66 : decode cX10_goesOn 66 = .ok (.iconst 1, 1) := by decide +kernel
theorem dX10_goesOn_67 : decode cX10_goesOn 67 = .ok (.goto 4, 3) := by decide +kernel
theorem dX10_goesOn_70 : decode cX10_goesOn 70 = .ok (.iconst 0, 1) := by decide +kernel
theorem dX10_goesOn_71 : decode cX10_goesOn 71 = .ok (.istore_n 3, 1) := by decide +kernel
theorem dX10_goesOn_72 : decode cX10_goesOn 72 = .ok (.aload_n 0, 1) := by decide +kernel
theorem dX10_goesOn_73 : decode cX10_goesOn 73 = .ok (.iload_n 2, 1) := by decide +kernel
theorem dX10_goesOn_74 : decode cX10_goesOn 74 = .ok (.iconst 3, 1) := by decide +kernel
theorem dX10_goesOn_75 : decode cX10_goesOn 75 = .ok (.iload_n 3, 1) := by decide +kernel
theorem dX10_goesOn_76 : decode cX10_goesOn 76 = .ok (.ifCond .eq 7, 3) := by decide +kernel
theorem dX10_goesOn_79 : decode cX10_goesOn 79 = .ok (.iconst 2, 1) := by decide +kernel
theorem dX10_goesOn_80 : decode cX10_goesOn 80 = .ok (.goto 4, 3) := by decide +kernel
theorem dX10_goesOn_83 : decode cX10_goesOn 83 = .ok (.iconst 0, 1) := by decide +kernel
theorem dX10_goesOn_84 : decode cX10_goesOn 84 = .ok (.invokevirtual 85, 3) := by decide +kernel
theorem dX10_goesOn_87 : decode cX10_goesOn 87 = .ok (.aload_n 0, 1) := by decide +kernel
theorem dX10_goesOn_88 : decode cX10_goesOn 88 = .ok (.iload_n 2, 1) := by decide +kernel
theorem dX10_goesOn_89 : decode cX10_goesOn 89 = .ok (.iconst 5, 1) := by decide +kernel
theorem dX10_goesOn_90 : decode cX10_goesOn 90 = .ok (.aload_n 0, 1) := by decide +kernel
theorem dX10_goesOn_91 : decode cX10_goesOn 91 = .ok (.iload_n 2, 1) := by decide +kernel
theorem dX10_goesOn_92 : decode cX10_goesOn 92 = .ok (.iconst 5, 1) := by decide +kernel
theorem dX10_goesOn_93 : decode cX10_goesOn 93 = .ok (.invokevirtual 128, 3) := by decide +kernel
theorem dX10_goesOn_96 : decode cX10_goesOn 96 = .ok (.iload_n 3, 1) := by decide +kernel
theorem dX10_goesOn_97 : decode cX10_goesOn 97 = .ok (.ifCond .eq 7, 3) := by decide +kernel
theorem dX10_goesOn_100 : decode cX10_goesOn 100 = .ok (.iconst 1, 1) := by decide +kernel
theorem dX10_goesOn_101 : decode cX10_goesOn 101 = .ok (.goto 4, 3) := by decide +kernel
theorem dX10_goesOn_104 : decode cX10_goesOn 104 = .ok (.iconst 0, 1) := by decide +kernel
theorem dX10_goesOn_105 : decode cX10_goesOn 105 = .ok (.iadd, 1) := by decide +kernel
theorem dX10_goesOn_106 : decode cX10_goesOn 106 = .ok (.invokevirtual 85, 3) := by decide +kernel
theorem dX10_goesOn_109 : decode cX10_goesOn 109 = .ok (.aload_n 0, 1) := by decide +kernel
theorem dX10_goesOn_110 : decode cX10_goesOn 110 = .ok (.getfield 7, 3) := by decide +kernel
theorem dX10_goesOn_113 : decode cX10_goesOn 113 = .ok (.iconst 2, 1) := by decide +kernel
theorem dX10_goesOn_114 : decode cX10_goesOn 114 = .ok (.lconst 0, 1) := by decide +kernel
theorem dX10_goesOn_115 : decode cX10_goesOn 115 = .ok (.lastore, 1) := by decide +kernel
theorem dX10_goesOn_116 : decode cX10_goesOn 116 = .ok (.aload_n 0, 1) := by decide +kernel
theorem dX10_goesOn_117 : decode cX10_goesOn 117 = .ok (.getfield 7, 3) := by decide +kernel
theorem dX10_goesOn_120 : decode cX10_goesOn 120 = .ok (.iconst 0, 1) := by decide +kernel
theorem dX10_goesOn_121 : decode cX10_goesOn 121 = .ok (.dup2, 1) := by decide +kernel
theorem dX10_goesOn_122 : decode cX10_goesOn 122 = .ok (.laload, 1) := by decide +kernel
theorem dX10_goesOn_123 : decode cX10_goesOn 123 = .ok (.lconst 1, 1) := by decide +kernel
theorem dX10_goesOn_124 : decode cX10_goesOn 124 = .ok (.ladd, 1) := by decide +kernel
theorem dX10_goesOn_125 : decode cX10_goesOn 125 = .ok (.lastore, 1) := by decide +kernel
theorem dX10_goesOn_126 : decode cX10_goesOn 126 = .ok (.iload_n 1, 1) := by decide +kernel
theorem dX10_goesOn_127 : decode cX10_goesOn 127 = .ok (.ireturn, 1) := by decide +kernel
theorem dX10_pass_0 : decode cX10_pass 0 = .ok (.iload_n 1, 1) := by decide +kernel
theorem dX10_pass_1 : decode cX10_pass 1 = .ok (.i2l, 1) := by decide +kernel
theorem dX10_pass_2 : decode cX10_pass 2 = .ok (.lconst 1, 1) := by decide +kernel
theorem dX10_pass_3 : decode cX10_pass 3 = .ok (.ldc2_w 175, 3) := by decide +kernel
theorem dX10_pass_6 : decode cX10_pass 6 = .ok (.invokestatic 54, 3) := by decide +kernel
theorem dX10_pass_9 : decode cX10_pass 9 = .ok (.ifCond .ne 6, 3) := by decide +kernel
theorem dX10_pass_12 : decode cX10_pass 12 = .ok (.bipush (-2), 2) := by decide +kernel
theorem dX10_pass_14 : decode cX10_pass 14 = .ok (.ireturn, 1) := by decide +kernel
theorem dX10_pass_15 : decode cX10_pass 15 = .ok (.aload_n 0, 1) := by decide +kernel
theorem dX10_pass_16 : decode cX10_pass 16 = .ok (.invokevirtual 82, 3) := by decide +kernel
theorem dX10_pass_19 : decode cX10_pass 19 = .ok (.iconst 0, 1) := by decide +kernel
theorem dX10_pass_20 : decode cX10_pass 20 = .ok (.istore_n 2, 1) := by decide +kernel
theorem dX10_pass_21 : decode cX10_pass 21 = .ok (.iconst 0, 1) := by decide +kernel
theorem dX10_pass_22 : decode cX10_pass 22 = .ok (.istore_n 3, 1) := by decide +kernel
theorem dX10_pass_23 : decode cX10_pass 23 = .ok (.iload_n 3, 1) := by decide +kernel
theorem dX10_pass_24 : decode cX10_pass 24 = .ok (.iload_n 1, 1) := by decide +kernel
theorem dX10_pass_25 : decode cX10_pass 25 = .ok (.if_icmp .ge 16, 3) := by decide +kernel
theorem dX10_pass_28 : decode cX10_pass 28 = .ok (.iload_n 2, 1) := by decide +kernel
theorem dX10_pass_29 : decode cX10_pass 29 = .ok (.aload_n 0, 1) := by decide +kernel
theorem dX10_pass_30 : decode cX10_pass 30 = .ok (.invokevirtual 177, 3) := by decide +kernel
theorem dX10_pass_33 : decode cX10_pass 33 = .ok (.iadd, 1) := by decide +kernel
theorem dX10_pass_34 : decode cX10_pass 34 = .ok (.istore_n 2, 1) := by decide +kernel
theorem dX10_pass_35 : decode cX10_pass 35 = .ok (.iinc 3 1, 3) := by decide +kernel
theorem dX10_pass_38 : decode cX10_pass 38 = .ok (.goto (-15), 3) := by decide +kernel
theorem dX10_pass_41 : decode cX10_pass 41 = .ok (.iload_n 2, 1) := by decide +kernel
theorem dX10_pass_42 : decode cX10_pass 42 = .ok (.ireturn, 1) := by decide +kernel
theorem dX10_type_0 : decode cX10_type 0 = .ok (.aload_n 0, 1) := by decide +kernel
theorem dX10_type_1 : decode cX10_type 1 = .ok (.getfield 180, 3) := by decide +kernel
theorem dX10_type_4 : decode cX10_type 4 = .ok (.bipush 60, 2) := by decide +kernel
theorem dX10_type_6 : decode cX10_type 6 = .ok (.if_icmp .ne 6, 3) := by decide +kernel
theorem dX10_type_9 : decode cX10_type 9 = .ok (.bipush (-3), 2) := by decide +kernel
theorem dX10_type_11 : decode cX10_type 11 = .ok (.ireturn, 1) := by decide +kernel
theorem dX10_type_12 : decode cX10_type 12 = .ok (.aload_n 0, 1) := by decide +kernel
theorem dX10_type_13 : decode cX10_type 13 = .ok (.getfield 32, 3) := by decide +kernel
theorem dX10_type_16 : decode cX10_type 16 = .ok (.aload_n 0, 1) := by decide +kernel
theorem dX10_type_17 : decode cX10_type 17 = .ok (.getfield 180, 3) := by decide +kernel
theorem dX10_type_20 : decode cX10_type 20 = .ok (.iload_n 1, 1) := by decide +kernel
theorem dX10_type_21 : decode cX10_type 21 = .ok (.castore, 1) := by decide +kernel
theorem dX10_type_22 : decode cX10_type 22 = .ok (.aload_n 0, 1) := by decide +kernel
theorem dX10_type_23 : decode cX10_type 23 = .ok (.dup, 1) := by decide +kernel
theorem dX10_type_24 : decode cX10_type 24 = .ok (.getfield 180, 3) := by decide +kernel
theorem dX10_type_27 : decode cX10_type 27 = .ok (.iconst 1, 1) := by decide +kernel
theorem dX10_type_28 : decode cX10_type 28 = .ok (.iadd, 1) := by decide +kernel
theorem dX10_type_29 : decode cX10_type 29 = .ok (.putfield 180, 3) := by decide +kernel
theorem dX10_type_32 : decode cX10_type 32 = .ok (.aload_n 0, 1) := by decide +kernel
theorem dX10_type_33 : decode cX10_type 33 = .ok (.getfield 180, 3) := by decide +kernel
theorem dX10_type_36 : decode cX10_type 36 = .ok (.ireturn, 1) := by decide +kernel
theorem dX10_clearText_0 : decode cX10_clearText 0 = .ok (.aload_n 0, 1) := by decide +kernel
theorem dX10_clearText_1 : decode cX10_clearText 1 = .ok (.getfield 180, 3) := by decide +kernel
theorem dX10_clearText_4 : decode cX10_clearText 4 = .ok (.istore_n 1, 1) := by decide +kernel
theorem dX10_clearText_5 : decode cX10_clearText 5 = .ok (.aload_n 0, 1) := by decide +kernel
theorem dX10_clearText_6 : decode cX10_clearText 6 = .ok (.iconst 0, 1) := by decide +kernel
theorem dX10_clearText_7 : decode cX10_clearText 7 = .ok (.putfield 180, 3) := by decide +kernel
theorem dX10_clearText_10 : decode cX10_clearText 10 = .ok (.iload_n 1, 1) := by decide +kernel
theorem dX10_clearText_11 : decode cX10_clearText 11 = .ok (.ireturn, 1) := by decide +kernel
theorem dX10_takes_0 : decode cX10_takes 0 = .ok (.aload_n 0, 1) := by decide +kernel
theorem dX10_takes_1 : decode cX10_takes 1 = .ok (.getfield 183, 3) := by decide +kernel
theorem dX10_takes_4 : decode cX10_takes 4 = .ok (.aload_n 0, 1) := by decide +kernel
theorem dX10_takes_5 : decode cX10_takes 5 = .ok (.getfield 180, 3) := by decide +kernel
theorem dX10_takes_8 : decode cX10_takes 8 = .ok (.if_icmp .ge 16, 3) := by decide +kernel
theorem dX10_takes_11 : decode cX10_takes 11 = .ok (.aload_n 0, 1) := by decide +kernel
theorem dX10_takes_12 : decode cX10_takes 12 = .ok (.getfield 32, 3) := by decide +kernel
theorem dX10_takes_15 : decode cX10_takes 15 = .ok (.aload_n 0, 1) := by decide +kernel
theorem dX10_takes_16 : decode cX10_takes 16 = .ok (.getfield 183, 3) := by decide +kernel
theorem dX10_takes_19 : decode cX10_takes 19 = .ok (.caload, 1) := by decide +kernel
theorem dX10_takes_20 : decode cX10_takes 20 = .ok (.iload_n 1, 1) := by decide +kernel
theorem dX10_takes_21 : decode cX10_takes 21 = .ok (.if_icmp .eq 5, 3) := by decide +kernel
theorem dX10_takes_24 : decode cX10_takes 24 = .ok (.iconst 0, 1) := by decide +kernel
theorem dX10_takes_25 : decode cX10_takes 25 = .ok (.ireturn, 1) := by decide +kernel
theorem dX10_takes_26 : decode cX10_takes 26 = .ok (.aload_n 0, 1) := by decide +kernel
theorem dX10_takes_27 : decode cX10_takes 27 = .ok (.dup, 1) := by decide +kernel
theorem dX10_takes_28 : decode cX10_takes 28 = .ok (.getfield 183, 3) := by decide +kernel
theorem dX10_takes_31 : decode cX10_takes 31 = .ok (.iconst 1, 1) := by decide +kernel
theorem dX10_takes_32 : decode cX10_takes 32 = .ok (.iadd, 1) := by decide +kernel
theorem dX10_takes_33 : decode cX10_takes 33 = .ok (.putfield 183, 3) := by decide +kernel
theorem dX10_takes_36 : decode cX10_takes 36 = .ok (.iconst 1, 1) := by decide +kernel
theorem dX10_takes_37 : decode cX10_takes 37 = .ok (.ireturn, 1) := by decide +kernel
theorem dX10_digit_0 : decode cX10_digit 0 = .ok (.aload_n 0, 1) := by decide +kernel
theorem dX10_digit_1 : decode cX10_digit 1 = .ok (.getfield 183, 3) := by decide +kernel
theorem dX10_digit_4 : decode cX10_digit 4 = .ok (.aload_n 0, 1) := by decide +kernel
theorem dX10_digit_5 : decode cX10_digit 5 = .ok (.getfield 180, 3) := by decide +kernel
theorem dX10_digit_8 : decode cX10_digit 8 = .ok (.if_icmp .ge 25, 3) := by decide +kernel
theorem dX10_digit_11 : decode cX10_digit 11 = .ok (.aload_n 0, 1) := by decide +kernel
theorem dX10_digit_12 : decode cX10_digit 12 = .ok (.getfield 32, 3) := by decide +kernel
theorem dX10_digit_15 : decode cX10_digit 15 = .ok (.aload_n 0, 1) := by decide +kernel
theorem dX10_digit_16 : decode cX10_digit 16 = .ok (.getfield 183, 3) := by decide +kernel
theorem dX10_digit_19 : decode cX10_digit 19 = .ok (.caload, 1) := by decide +kernel
theorem dX10_digit_20 : decode cX10_digit 20 = .ok (.i2l, 1) := by decide +kernel
theorem dX10_digit_21 : decode cX10_digit 21 = .ok (.ldc2_w 175, 3) := by decide +kernel
theorem dX10_digit_24 : decode cX10_digit 24 = .ok (.ldc2_w 186, 3) := by decide +kernel
theorem dX10_digit_27 : decode cX10_digit 27 = .ok (.invokestatic 54, 3) := by decide +kernel
theorem dX10_digit_30 : decode cX10_digit 30 = .ok (.ifCond .ne 6, 3) := by decide +kernel
theorem dX10_digit_33 : decode cX10_digit 33 = .ok (.bipush (-5), 2) := by decide +kernel
theorem dX10_digit_35 : decode cX10_digit 35 = .ok (.ireturn, 1) := by decide +kernel
theorem dX10_digit_36 : decode cX10_digit 36 = .ok (.aload_n 0, 1) := by decide +kernel
theorem dX10_digit_37 : decode cX10_digit 37 = .ok (.dup, 1) := by decide +kernel
theorem dX10_digit_38 : decode cX10_digit 38 = .ok (.getfield 183, 3) := by decide +kernel
theorem dX10_digit_41 : decode cX10_digit 41 = .ok (.iconst 1, 1) := by decide +kernel
theorem dX10_digit_42 : decode cX10_digit 42 = .ok (.iadd, 1) := by decide +kernel
theorem dX10_digit_43 : decode cX10_digit 43 = .ok (.putfield 183, 3) := by decide +kernel
theorem dX10_digit_46 : decode cX10_digit 46 = .ok (.aload_n 0, 1) := by decide +kernel
theorem dX10_digit_47 : decode cX10_digit 47 = .ok (.getfield 32, 3) := by decide +kernel
theorem dX10_digit_50 : decode cX10_digit 50 = .ok (.aload_n 0, 1) := by decide +kernel
theorem dX10_digit_51 : decode cX10_digit 51 = .ok (.getfield 183, 3) := by decide +kernel
theorem dX10_digit_54 : decode cX10_digit 54 = .ok (.iconst 1, 1) := by decide +kernel
theorem dX10_digit_55 : decode cX10_digit 55 = .ok (.isub, 1) := by decide +kernel
theorem dX10_digit_56 : decode cX10_digit 56 = .ok (.caload, 1) := by decide +kernel
theorem dX10_digit_57 : decode cX10_digit 57 = .ok (.bipush 48, 2) := by decide +kernel
theorem dX10_digit_59 : decode cX10_digit 59 = .ok (.isub, 1) := by decide +kernel
theorem dX10_digit_60 : decode cX10_digit 60 = .ok (.ireturn, 1) := by decide +kernel
theorem dX10_readsLevel_0 : decode cX10_readsLevel 0 = .ok (.aload_n 0, 1) := by decide +kernel
theorem dX10_readsLevel_1 : decode cX10_readsLevel 1 = .ok (.bipush 45, 2) := by decide +kernel
theorem dX10_readsLevel_3 : decode cX10_readsLevel 3 = .ok (.invokevirtual 188, 3) := by decide +kernel
theorem dX10_readsLevel_6 : decode cX10_readsLevel 6 = .ok (.istore_n 1, 1) := by decide +kernel
theorem dX10_readsLevel_7 : decode cX10_readsLevel 7 = .ok (.aload_n 0, 1) := by decide +kernel
theorem dX10_readsLevel_8 : decode cX10_readsLevel 8 = .ok (.invokevirtual 192, 3) := by decide +kernel
theorem dX10_readsLevel_11 : decode cX10_readsLevel 11 = .ok (.istore_n 2, 1) := by decide +kernel
theorem dX10_readsLevel_12 : decode cX10_readsLevel 12 = .ok (.iload_n 2, 1) := by decide +kernel
theorem dX10_readsLevel_13 : decode cX10_readsLevel 13 = .ok (.bipush (-5), 2) := by decide +kernel
theorem dX10_readsLevel_15 : decode cX10_readsLevel 15 = .ok (.if_icmp .eq 12, 3) := by decide +kernel
theorem dX10_readsLevel_18 : decode cX10_readsLevel 18 = .ok (.aload_n 0, 1) := by decide +kernel
theorem dX10_readsLevel_19 : decode cX10_readsLevel 19 = .ok (.bipush 46, 2) := by decide +kernel
theorem dX10_readsLevel_21 : decode cX10_readsLevel 21 = .ok (.invokevirtual 188, 3) := by decide +kernel
theorem dX10_readsLevel_24 : decode cX10_readsLevel 24 = .ok (.ifCond .ne 5, 3) := by decide +kernel
theorem dX10_readsLevel_27 : decode cX10_readsLevel 27 = .ok (.iconst 0, 1) := by decide +kernel
theorem dX10_readsLevel_28 : decode cX10_readsLevel 28 = .ok (.ireturn, 1) := by decide +kernel
theorem dX10_readsLevel_29 : decode cX10_readsLevel 29 = .ok (.aload_n 0, 1) := by decide +kernel
theorem dX10_readsLevel_30 : decode cX10_readsLevel 30 = .ok (.invokevirtual 192, 3) := by decide +kernel
theorem dX10_readsLevel_33 : decode cX10_readsLevel 33 = .ok (.istore_n 3, 1) := by decide +kernel
theorem dX10_readsLevel_34 : decode cX10_readsLevel 34 = .ok (.iload_n 3, 1) := by decide +kernel
theorem dX10_readsLevel_35 : decode cX10_readsLevel 35 = .ok (.bipush (-5), 2) := by decide +kernel
theorem dX10_readsLevel_37 : decode cX10_readsLevel 37 = .ok (.if_icmp .ne 5, 3) := by decide +kernel
theorem dX10_readsLevel_40 : decode cX10_readsLevel 40 = .ok (.iconst 0, 1) := by decide +kernel
theorem dX10_readsLevel_41 : decode cX10_readsLevel 41 = .ok (.ireturn, 1) := by decide +kernel
theorem dX10_readsLevel_42 : decode cX10_readsLevel 42 = .ok (.aload_n 0, 1) := by decide +kernel
theorem dX10_readsLevel_43 : decode cX10_readsLevel 43 = .ok (.getfield 36, 3) := by decide +kernel
theorem dX10_readsLevel_46 : decode cX10_readsLevel 46 = .ok (.aload_n 0, 1) := by decide +kernel
theorem dX10_readsLevel_47 : decode cX10_readsLevel 47 = .ok (.getfield 195, 3) := by decide +kernel
theorem dX10_readsLevel_50 : decode cX10_readsLevel 50 = .ok (.iload_n 1, 1) := by decide +kernel
theorem dX10_readsLevel_51 : decode cX10_readsLevel 51 = .ok (.ifCond .eq 13, 3) := by decide +kernel
theorem dX10_readsLevel_54 : decode cX10_readsLevel 54 = .ok (.bipush 10, 2) := by decide +kernel
theorem dX10_readsLevel_56 : decode cX10_readsLevel 56 = .ok (.iload_n 2, 1) := by decide +kernel
theorem dX10_readsLevel_57 : decode cX10_readsLevel 57 = .ok (.imul, 1) := by decide +kernel
theorem dX10_readsLevel_58 : decode cX10_readsLevel 58 = .ok (.iload_n 3, 1) := by decide +kernel
theorem dX10_readsLevel_59 : decode cX10_readsLevel 59 = .ok (.iadd, 1) := by decide +kernel
theorem dX10_readsLevel_60 : decode cX10_readsLevel 60 = .ok (.ineg, 1) := by decide +kernel
theorem dX10_readsLevel_61 : decode cX10_readsLevel 61 = .ok (.goto 9, 3) := by decide +kernel
theorem dX10_readsLevel_64 : decode cX10_readsLevel 64 = .ok (.bipush 10, 2) := by decide +kernel
theorem dX10_readsLevel_66 : decode cX10_readsLevel 66 = .ok (.iload_n 2, 1) := by decide +kernel
theorem dX10_readsLevel_67 : decode cX10_readsLevel 67 = .ok (.imul, 1) := by decide +kernel
theorem dX10_readsLevel_68 : decode cX10_readsLevel 68 = .ok (.iload_n 3, 1) := by decide +kernel
theorem dX10_readsLevel_69 : decode cX10_readsLevel 69 = .ok (.iadd, 1) := by decide +kernel
theorem dX10_readsLevel_70 : decode cX10_readsLevel 70 = .ok (.iastore, 1) := by decide +kernel
theorem dX10_readsLevel_71 : decode cX10_readsLevel 71 = .ok (.aload_n 0, 1) := by decide +kernel
theorem dX10_readsLevel_72 : decode cX10_readsLevel 72 = .ok (.dup, 1) := by decide +kernel
theorem dX10_readsLevel_73 : decode cX10_readsLevel 73 = .ok (.getfield 195, 3) := by decide +kernel
theorem dX10_readsLevel_76 : decode cX10_readsLevel 76 = .ok (.iconst 1, 1) := by decide +kernel
theorem dX10_readsLevel_77 : decode cX10_readsLevel 77 = .ok (.iadd, 1) := by decide +kernel
theorem dX10_readsLevel_78 : decode cX10_readsLevel 78 = .ok (.putfield 195, 3) := by decide +kernel
theorem dX10_readsLevel_81 : decode cX10_readsLevel 81 = .ok (.aload_n 0, 1) := by decide +kernel
theorem dX10_readsLevel_82 : decode cX10_readsLevel 82 = .ok (.getfield 183, 3) := by decide +kernel
theorem dX10_readsLevel_85 : decode cX10_readsLevel 85 = .ok (.aload_n 0, 1) := by decide +kernel
theorem dX10_readsLevel_86 : decode cX10_readsLevel 86 = .ok (.getfield 180, 3) := by decide +kernel
theorem dX10_readsLevel_89 : decode cX10_readsLevel 89 = .ok (.if_icmp .eq 17, 3) := by decide +kernel
theorem dX10_readsLevel_92 : decode cX10_readsLevel 92 = .ok (.aload_n 0, 1) := by decide +kernel
theorem dX10_readsLevel_93 : decode cX10_readsLevel 93 = .ok (.getfield 32, 3) := by decide +kernel
theorem dX10_readsLevel_96 : decode cX10_readsLevel 96 = .ok (.aload_n 0, 1) := by decide +kernel
theorem dX10_readsLevel_97 : decode cX10_readsLevel 97 = .ok (.getfield 183, 3) := by decide +kernel
theorem dX10_readsLevel_100 : decode cX10_readsLevel 100 = .ok (.caload, 1) := by decide +kernel
theorem dX10_readsLevel_101 : decode cX10_readsLevel 101 = .ok (.bipush 44, 2) := by decide +kernel
theorem dX10_readsLevel_103 : decode cX10_readsLevel 103 = .ok (.if_icmp .ne 7, 3) := by decide +kernel
theorem dX10_readsLevel_106 : decode cX10_readsLevel 106 = .ok (.iconst 1, 1) := by decide +kernel
theorem dX10_readsLevel_107 : decode cX10_readsLevel 107 = .ok (.goto 4, 3) := by decide +kernel
theorem dX10_readsLevel_110 : decode cX10_readsLevel 110 = .ok (.iconst 0, 1) := by decide +kernel
theorem dX10_readsLevel_111 : decode cX10_readsLevel 111 = .ok (.ireturn, 1) := by decide +kernel
theorem dX10_readTides_0 : decode cX10_readTides 0 = .ok (.iload_n 1, 1) := by decide +kernel
theorem dX10_readTides_1 : decode cX10_readTides 1 = .ok (.i2l, 1) := by decide +kernel
theorem dX10_readTides_2 : decode cX10_readTides 2 = .ok (.lconst 0, 1) := by decide +kernel
theorem dX10_readTides_3 : decode cX10_readTides 3 = .ok (.ldc2_w 122, 3) := by decide +kernel
theorem dX10_readTides_6 : decode cX10_readTides 6 = .ok (.invokestatic 54, 3) := by decide +kernel
theorem dX10_readTides_9 : decode cX10_readTides 9 = .ok (.ifCond .ne 6, 3) := by decide +kernel
theorem dX10_readTides_12 : decode cX10_readTides 12 = .ok (.bipush (-2), 2) := by decide +kernel
theorem dX10_readTides_14 : decode cX10_readTides 14 = .ok (.ireturn, 1) := by decide +kernel
theorem dX10_readTides_15 : decode cX10_readTides 15 = .ok (.aload_n 0, 1) := by decide +kernel
theorem dX10_readTides_16 : decode cX10_readTides 16 = .ok (.iconst 0, 1) := by decide +kernel
theorem dX10_readTides_17 : decode cX10_readTides 17 = .ok (.putfield 183, 3) := by decide +kernel
theorem dX10_readTides_20 : decode cX10_readTides 20 = .ok (.aload_n 0, 1) := by decide +kernel
theorem dX10_readTides_21 : decode cX10_readTides 21 = .ok (.iconst 0, 1) := by decide +kernel
theorem dX10_readTides_22 : decode cX10_readTides 22 = .ok (.putfield 195, 3) := by decide +kernel
theorem dX10_readTides_25 : decode cX10_readTides 25 = .ok (.iconst 1, 1) := by decide +kernel
theorem dX10_readTides_26 : decode cX10_readTides 26 = .ok (.istore_n 2, 1) := by decide +kernel
theorem dX10_readTides_27 : decode cX10_readTides 27 = .ok (.iload_n 2, 1) := by decide +kernel
theorem dX10_readTides_28 : decode cX10_readTides 28 = .ok (.ifCond .eq 56, 3) := by decide +kernel
theorem dX10_readTides_31 : decode cX10_readTides 31 = .ok (.aload_n 0, 1) := by decide +kernel
theorem dX10_readTides_32 : decode cX10_readTides 32 = .ok (.invokevirtual 198, 3) := by decide +kernel
theorem dX10_readTides_35 : decode cX10_readTides 35 = .ok (.ifCond .ne 11, 3) := by decide +kernel
theorem dX10_readTides_38 : decode cX10_readTides 38 = .ok (.bipush (-100), 2) := by decide +kernel
theorem dX10_readTides_40 : decode cX10_readTides 40 = .ok (.aload_n 0, 1) := by decide +kernel
theorem dX10_readTides_41 : decode cX10_readTides 41 = .ok (.getfield 183, 3) := by decide +kernel
theorem dX10_readTides_44 : decode cX10_readTides 44 = .ok (.isub, 1) := by decide +kernel
theorem dX10_readTides_45 : decode cX10_readTides 45 = .ok (.ireturn, 1) := by decide +kernel
theorem dX10_readTides_46 : decode cX10_readTides 46 = .ok (.aload_n 0, 1) := by decide +kernel
theorem dX10_readTides_47 : decode cX10_readTides 47 = .ok (.getfield 183, 3) := by decide +kernel
theorem dX10_readTides_50 : decode cX10_readTides 50 = .ok (.aload_n 0, 1) := by decide +kernel
theorem dX10_readTides_51 : decode cX10_readTides 51 = .ok (.getfield 180, 3) := by decide +kernel
theorem dX10_readTides_54 : decode cX10_readTides 54 = .ok (.if_icmp .ge 7, 3) := by decide +kernel
theorem dX10_readTides_57 : decode cX10_readTides 57 = .ok (.iconst 1, 1) := by decide +kernel
theorem dX10_readTides_58 : decode cX10_readTides 58 = .ok (.goto 4, 3) := by decide +kernel
theorem dX10_readTides_61 : decode cX10_readTides 61 = .ok (.iconst 0, 1) := by decide +kernel
theorem dX10_readTides_62 : decode cX10_readTides 62 = .ok (.istore_n 2, 1) := by decide +kernel
theorem dX10_readTides_63 : decode cX10_readTides 63 = .ok (.aload_n 0, 1) := by decide +kernel
theorem dX10_readTides_64 : decode cX10_readTides 64 = .ok (.dup, 1) := by decide +kernel
theorem dX10_readTides_65 : decode cX10_readTides 65 = .ok (.getfield 183, 3) := by decide +kernel
theorem dX10_readTides_68 : decode cX10_readTides 68 = .ok (.iload_n 2, 1) := by decide +kernel
theorem dX10_readTides_69 : decode cX10_readTides 69 = .ok (.ifCond .eq 7, 3) := by decide +kernel
theorem dX10_readTides_72 : decode cX10_readTides 72 = .ok (.iconst 1, 1) := by decide +kernel
theorem dX10_readTides_73 : decode cX10_readTides 73 = .ok (.goto 4, 3) := by decide +kernel
theorem dX10_readTides_76 : decode cX10_readTides 76 = .ok (.iconst 0, 1) := by decide +kernel
theorem dX10_readTides_77 : decode cX10_readTides 77 = .ok (.iadd, 1) := by decide +kernel
theorem dX10_readTides_78 : decode cX10_readTides 78 = .ok (.putfield 183, 3) := by decide +kernel
theorem dX10_readTides_81 : decode cX10_readTides 81 = .ok (.goto (-54), 3) := by decide +kernel
theorem dX10_readTides_84 : decode cX10_readTides 84 = .ok (.iload_n 1, 1) := by decide +kernel
theorem dX10_readTides_85 : decode cX10_readTides 85 = .ok (.aload_n 0, 1) := by decide +kernel
theorem dX10_readTides_86 : decode cX10_readTides 86 = .ok (.getfield 195, 3) := by decide +kernel
theorem dX10_readTides_89 : decode cX10_readTides 89 = .ok (.iadd, 1) := by decide +kernel
theorem dX10_readTides_90 : decode cX10_readTides 90 = .ok (.bipush 24, 2) := by decide +kernel
theorem dX10_readTides_92 : decode cX10_readTides 92 = .ok (.if_icmp .le 6, 3) := by decide +kernel
theorem dX10_readTides_95 : decode cX10_readTides 95 = .ok (.bipush (-3), 2) := by decide +kernel
theorem dX10_readTides_97 : decode cX10_readTides 97 = .ok (.ireturn, 1) := by decide +kernel
theorem dX10_readTides_98 : decode cX10_readTides 98 = .ok (.iconst 0, 1) := by decide +kernel
theorem dX10_readTides_99 : decode cX10_readTides 99 = .ok (.istore_n 3, 1) := by decide +kernel
theorem dX10_readTides_100 : decode cX10_readTides 100 = .ok (.iload_n 3, 1) := by decide +kernel
theorem dX10_readTides_101 : decode cX10_readTides 101 = .ok (.aload_n 0, 1) := by decide +kernel
theorem dX10_readTides_102 : decode cX10_readTides 102 = .ok (.getfield 195, 3) := by decide +kernel
theorem dX10_readTides_105 : decode cX10_readTides 105 = .ok (.if_icmp .ge 23, 3) := by decide +kernel
theorem dX10_readTides_108 : decode cX10_readTides 108 = .ok (.aload_n 0, 1) := by decide +kernel
theorem dX10_readTides_109 : decode cX10_readTides 109 = .ok (.getfield 36, 3) := by decide +kernel
theorem dX10_readTides_112 : decode cX10_readTides 112 = .ok (.iload_n 3, 1) := by decide +kernel
theorem dX10_readTides_113 : decode cX10_readTides 113 = .ok (.iaload, 1) := by decide +kernel
theorem dX10_readTides_114 : decode cX10_readTides 114 = .ok (.bipush (-50), 2) := by decide +kernel
theorem dX10_readTides_116 : decode cX10_readTides 116 = .ok (.if_icmp .ge 6, 3) := by decide +kernel
theorem dX10_readTides_119 : decode cX10_readTides 119 = .ok (.bipush (-4), 2) := by decide +kernel
theorem dX10_readTides_121 : decode cX10_readTides 121 = .ok (.ireturn, 1) := by decide +kernel
theorem dX10_readTides_122 : decode cX10_readTides 122 = .ok (.iinc 3 1, 3) := by decide +kernel
theorem dX10_readTides_125 : decode cX10_readTides 125 = .ok (.goto (-25), 3) := by decide +kernel
theorem dX10_readTides_128 : decode cX10_readTides 128 = .ok (.aload_n 0, 1) := by decide +kernel
theorem dX10_readTides_129 : decode cX10_readTides 129 = .ok (.invokevirtual 82, 3) := by decide +kernel
theorem dX10_readTides_132 : decode cX10_readTides 132 = .ok (.iconst 0, 1) := by decide +kernel
theorem dX10_readTides_133 : decode cX10_readTides 133 = .ok (.istore_n 3, 1) := by decide +kernel
theorem dX10_readTides_134 : decode cX10_readTides 134 = .ok (.iload_n 3, 1) := by decide +kernel
theorem dX10_readTides_135 : decode cX10_readTides 135 = .ok (.aload_n 0, 1) := by decide +kernel
theorem dX10_readTides_136 : decode cX10_readTides 136 = .ok (.getfield 195, 3) := by decide +kernel
theorem dX10_readTides_139 : decode cX10_readTides 139 = .ok (.if_icmp .ge 30, 3) := by decide +kernel
theorem dX10_readTides_142 : decode cX10_readTides 142 = .ok (.aload_n 0, 1) := by decide +kernel
theorem dX10_readTides_143 : decode cX10_readTides 143 = .ok (.getfield 22, 3) := by decide +kernel
theorem dX10_readTides_146 : decode cX10_readTides 146 = .ok (.iconst 1, 1) := by decide +kernel
theorem dX10_readTides_147 : decode cX10_readTides 147 = .ok (.iload_n 1, 1) := by decide +kernel
theorem dX10_readTides_148 : decode cX10_readTides 148 = .ok (.iadd, 1) := by decide +kernel
theorem dX10_readTides_149 : decode cX10_readTides 149 = .ok (.iload_n 3, 1) := by decide +kernel
theorem dX10_readTides_150 : decode cX10_readTides 150 = .ok (.iadd, 1) := by decide +kernel
theorem dX10_readTides_151 : decode cX10_readTides 151 = .ok (.aload_n 0, 1) := by decide +kernel
theorem dX10_readTides_152 : decode cX10_readTides 152 = .ok (.getfield 36, 3) := by decide +kernel
theorem dX10_readTides_155 : decode cX10_readTides 155 = .ok (.iload_n 3, 1) := by decide +kernel
theorem dX10_readTides_156 : decode cX10_readTides 156 = .ok (.iaload, 1) := by decide +kernel
theorem dX10_readTides_157 : decode cX10_readTides 157 = .ok (.i2d, 1) := by decide +kernel
theorem dX10_readTides_158 : decode cX10_readTides 158 = .ok (.ldc2_w 70, 3) := by decide +kernel
theorem dX10_readTides_161 : decode cX10_readTides 161 = .ok (.ddiv, 1) := by decide +kernel
theorem dX10_readTides_162 : decode cX10_readTides 162 = .ok (.dastore, 1) := by decide +kernel
theorem dX10_readTides_163 : decode cX10_readTides 163 = .ok (.iinc 3 1, 3) := by decide +kernel
theorem dX10_readTides_166 : decode cX10_readTides 166 = .ok (.goto (-32), 3) := by decide +kernel
theorem dX10_readTides_169 : decode cX10_readTides 169 = .ok (.aload_n 0, 1) := by decide +kernel
theorem dX10_readTides_170 : decode cX10_readTides 170 = .ok (.getfield 195, 3) := by decide +kernel
theorem dX10_readTides_173 : decode cX10_readTides 173 = .ok (.ireturn, 1) := by decide +kernel
theorem dX10_undo_0 : decode cX10_undo 0 = .ok (.aload_n 0, 1) := by decide +kernel
theorem dX10_undo_1 : decode cX10_undo 1 = .ok (.getfield 46, 3) := by decide +kernel
theorem dX10_undo_4 : decode cX10_undo 4 = .ok (.ifCond .ne 6, 3) := by decide +kernel
theorem dX10_undo_7 : decode cX10_undo 7 = .ok (.bipush (-5), 2) := by decide +kernel
theorem dX10_undo_9 : decode cX10_undo 9 = .ok (.ireturn, 1) := by decide +kernel
theorem dX10_undo_10 : decode cX10_undo 10 = .ok (.aload_n 0, 1) := by decide +kernel
theorem dX10_undo_11 : decode cX10_undo 11 = .ok (.dup, 1) := by decide +kernel
theorem dX10_undo_12 : decode cX10_undo 12 = .ok (.getfield 46, 3) := by decide +kernel
theorem dX10_undo_15 : decode cX10_undo 15 = .ok (.iconst 1, 1) := by decide +kernel
theorem dX10_undo_16 : decode cX10_undo 16 = .ok (.isub, 1) := by decide +kernel
theorem dX10_undo_17 : decode cX10_undo 17 = .ok (.putfield 46, 3) := by decide +kernel
theorem dX10_undo_20 : decode cX10_undo 20 = .ok (.iconst 0, 1) := by decide +kernel
theorem dX10_undo_21 : decode cX10_undo 21 = .ok (.istore_n 1, 1) := by decide +kernel
theorem dX10_undo_22 : decode cX10_undo 22 = .ok (.iload_n 1, 1) := by decide +kernel
theorem dX10_undo_23 : decode cX10_undo 23 = .ok (.bipush 108, 2) := by decide +kernel
theorem dX10_undo_25 : decode cX10_undo 25 = .ok (.if_icmp .ge 29, 3) := by decide +kernel
theorem dX10_undo_28 : decode cX10_undo 28 = .ok (.aload_n 0, 1) := by decide +kernel
theorem dX10_undo_29 : decode cX10_undo 29 = .ok (.getfield 7, 3) := by decide +kernel
theorem dX10_undo_32 : decode cX10_undo 32 = .ok (.iload_n 1, 1) := by decide +kernel
theorem dX10_undo_33 : decode cX10_undo 33 = .ok (.aload_n 0, 1) := by decide +kernel
theorem dX10_undo_34 : decode cX10_undo 34 = .ok (.getfield 13, 3) := by decide +kernel
theorem dX10_undo_37 : decode cX10_undo 37 = .ok (.bipush 108, 2) := by decide +kernel
theorem dX10_undo_39 : decode cX10_undo 39 = .ok (.aload_n 0, 1) := by decide +kernel
theorem dX10_undo_40 : decode cX10_undo 40 = .ok (.getfield 46, 3) := by decide +kernel
theorem dX10_undo_43 : decode cX10_undo 43 = .ok (.imul, 1) := by decide +kernel
theorem dX10_undo_44 : decode cX10_undo 44 = .ok (.iload_n 1, 1) := by decide +kernel
theorem dX10_undo_45 : decode cX10_undo 45 = .ok (.iadd, 1) := by decide +kernel
theorem dX10_undo_46 : decode cX10_undo 46 = .ok (.laload, 1) := by decide +kernel
theorem dX10_undo_47 : decode cX10_undo 47 = .ok (.lastore, 1) := by decide +kernel
theorem dX10_undo_48 : decode cX10_undo 48 = .ok (.iinc 1 1, 3) := by decide +kernel
theorem dX10_undo_51 : decode cX10_undo 51 = .ok (.goto (-29), 3) := by decide +kernel
theorem dX10_undo_54 : decode cX10_undo 54 = .ok (.iconst 0, 1) := by decide +kernel
theorem dX10_undo_55 : decode cX10_undo 55 = .ok (.istore_n 1, 1) := by decide +kernel
theorem dX10_undo_56 : decode cX10_undo 56 = .ok (.iload_n 1, 1) := by decide +kernel
theorem dX10_undo_57 : decode cX10_undo 57 = .ok (.bipush 33, 2) := by decide +kernel
theorem dX10_undo_59 : decode cX10_undo 59 = .ok (.if_icmp .ge 29, 3) := by decide +kernel
theorem dX10_undo_62 : decode cX10_undo 62 = .ok (.aload_n 0, 1) := by decide +kernel
theorem dX10_undo_63 : decode cX10_undo 63 = .ok (.getfield 22, 3) := by decide +kernel
theorem dX10_undo_66 : decode cX10_undo 66 = .ok (.iload_n 1, 1) := by decide +kernel
theorem dX10_undo_67 : decode cX10_undo 67 = .ok (.aload_n 0, 1) := by decide +kernel
theorem dX10_undo_68 : decode cX10_undo 68 = .ok (.getfield 26, 3) := by decide +kernel
theorem dX10_undo_71 : decode cX10_undo 71 = .ok (.bipush 33, 2) := by decide +kernel
theorem dX10_undo_73 : decode cX10_undo 73 = .ok (.aload_n 0, 1) := by decide +kernel
theorem dX10_undo_74 : decode cX10_undo 74 = .ok (.getfield 46, 3) := by decide +kernel
theorem dX10_undo_77 : decode cX10_undo 77 = .ok (.imul, 1) := by decide +kernel
theorem dX10_undo_78 : decode cX10_undo 78 = .ok (.iload_n 1, 1) := by decide +kernel
theorem dX10_undo_79 : decode cX10_undo 79 = .ok (.iadd, 1) := by decide +kernel
theorem dX10_undo_80 : decode cX10_undo 80 = .ok (.daload, 1) := by decide +kernel
theorem dX10_undo_81 : decode cX10_undo 81 = .ok (.dastore, 1) := by decide +kernel
theorem dX10_undo_82 : decode cX10_undo 82 = .ok (.iinc 1 1, 3) := by decide +kernel
theorem dX10_undo_85 : decode cX10_undo 85 = .ok (.goto (-29), 3) := by decide +kernel
theorem dX10_undo_88 : decode cX10_undo 88 = .ok (.aload_n 0, 1) := by decide +kernel
theorem dX10_undo_89 : decode cX10_undo 89 = .ok (.getfield 46, 3) := by decide +kernel
theorem dX10_undo_92 : decode cX10_undo 92 = .ok (.ireturn, 1) := by decide +kernel
theorem dX10_keep_0 : decode cX10_keep 0 = .ok (.iconst 0, 1) := by decide +kernel
theorem dX10_keep_1 : decode cX10_keep 1 = .ok (.istore_n 1, 1) := by decide +kernel
theorem dX10_keep_2 : decode cX10_keep 2 = .ok (.iload_n 1, 1) := by decide +kernel
theorem dX10_keep_3 : decode cX10_keep 3 = .ok (.bipush 108, 2) := by decide +kernel
theorem dX10_keep_5 : decode cX10_keep 5 = .ok (.if_icmp .ge 21, 3) := by decide +kernel
theorem dX10_keep_8 : decode cX10_keep 8 = .ok (.aload_n 0, 1) := by decide +kernel
theorem dX10_keep_9 : decode cX10_keep 9 = .ok (.getfield 16, 3) := by decide +kernel
theorem dX10_keep_12 : decode cX10_keep 12 = .ok (.iload_n 1, 1) := by decide +kernel
theorem dX10_keep_13 : decode cX10_keep 13 = .ok (.aload_n 0, 1) := by decide +kernel
theorem dX10_keep_14 : decode cX10_keep 14 = .ok (.getfield 7, 3) := by decide +kernel
theorem dX10_keep_17 : decode cX10_keep 17 = .ok (.iload_n 1, 1) := by decide +kernel
theorem dX10_keep_18 : decode cX10_keep 18 = .ok (.laload, 1) := by decide +kernel
theorem dX10_keep_19 : decode cX10_keep 19 = .ok (.lastore, 1) := by decide +kernel
theorem dX10_keep_20 : decode cX10_keep 20 = .ok (.iinc 1 1, 3) := by decide +kernel
theorem dX10_keep_23 : decode cX10_keep 23 = .ok (.goto (-21), 3) := by decide +kernel
theorem dX10_keep_26 : decode cX10_keep 26 = .ok (.iconst 0, 1) := by decide +kernel
theorem dX10_keep_27 : decode cX10_keep 27 = .ok (.istore_n 1, 1) := by decide +kernel
theorem dX10_keep_28 : decode cX10_keep 28 = .ok (.iload_n 1, 1) := by decide +kernel
theorem dX10_keep_29 : decode cX10_keep 29 = .ok (.bipush 33, 2) := by decide +kernel
theorem dX10_keep_31 : decode cX10_keep 31 = .ok (.if_icmp .ge 21, 3) := by decide +kernel
theorem dX10_keep_34 : decode cX10_keep 34 = .ok (.aload_n 0, 1) := by decide +kernel
theorem dX10_keep_35 : decode cX10_keep 35 = .ok (.getfield 29, 3) := by decide +kernel
theorem dX10_keep_38 : decode cX10_keep 38 = .ok (.iload_n 1, 1) := by decide +kernel
theorem dX10_keep_39 : decode cX10_keep 39 = .ok (.aload_n 0, 1) := by decide +kernel
theorem dX10_keep_40 : decode cX10_keep 40 = .ok (.getfield 22, 3) := by decide +kernel
theorem dX10_keep_43 : decode cX10_keep 43 = .ok (.iload_n 1, 1) := by decide +kernel
theorem dX10_keep_44 : decode cX10_keep 44 = .ok (.daload, 1) := by decide +kernel
theorem dX10_keep_45 : decode cX10_keep 45 = .ok (.dastore, 1) := by decide +kernel
theorem dX10_keep_46 : decode cX10_keep 46 = .ok (.iinc 1 1, 3) := by decide +kernel
theorem dX10_keep_49 : decode cX10_keep 49 = .ok (.goto (-21), 3) := by decide +kernel
theorem dX10_keep_52 : decode cX10_keep 52 = .ok (.aload_n 0, 1) := by decide +kernel
theorem dX10_keep_53 : decode cX10_keep 53 = .ok (.iconst 1, 1) := by decide +kernel
theorem dX10_keep_54 : decode cX10_keep 54 = .ok (.putfield 201, 3) := by decide +kernel
theorem dX10_keep_57 : decode cX10_keep 57 = .ok (.aload_n 0, 1) := by decide +kernel
theorem dX10_keep_58 : decode cX10_keep 58 = .ok (.iconst 0, 1) := by decide +kernel
theorem dX10_keep_59 : decode cX10_keep 59 = .ok (.invokevirtual 50, 3) := by decide +kernel
theorem dX10_keep_62 : decode cX10_keep 62 = .ok (.ireturn, 1) := by decide +kernel
theorem dX10_restore_0 : decode cX10_restore 0 = .ok (.aload_n 0, 1) := by decide +kernel
theorem dX10_restore_1 : decode cX10_restore 1 = .ok (.getfield 201, 3) := by decide +kernel
theorem dX10_restore_4 : decode cX10_restore 4 = .ok (.ifCond .ne 6, 3) := by decide +kernel
theorem dX10_restore_7 : decode cX10_restore 7 = .ok (.bipush (-5), 2) := by decide +kernel
theorem dX10_restore_9 : decode cX10_restore 9 = .ok (.ireturn, 1) := by decide +kernel
theorem dX10_restore_10 : decode cX10_restore 10 = .ok (.aload_n 0, 1) := by decide +kernel
theorem dX10_restore_11 : decode cX10_restore 11 = .ok (.invokevirtual 82, 3) := by decide +kernel
theorem dX10_restore_14 : decode cX10_restore 14 = .ok (.iconst 0, 1) := by decide +kernel
theorem dX10_restore_15 : decode cX10_restore 15 = .ok (.istore_n 1, 1) := by decide +kernel
theorem dX10_restore_16 : decode cX10_restore 16 = .ok (.iload_n 1, 1) := by decide +kernel
theorem dX10_restore_17 : decode cX10_restore 17 = .ok (.bipush 108, 2) := by decide +kernel
theorem dX10_restore_19 : decode cX10_restore 19 = .ok (.if_icmp .ge 21, 3) := by decide +kernel
theorem dX10_restore_22 : decode cX10_restore 22 = .ok (.aload_n 0, 1) := by decide +kernel
theorem dX10_restore_23 : decode cX10_restore 23 = .ok (.getfield 7, 3) := by decide +kernel
theorem dX10_restore_26 : decode cX10_restore 26 = .ok (.iload_n 1, 1) := by decide +kernel
theorem dX10_restore_27 : decode cX10_restore 27 = .ok (.aload_n 0, 1) := by decide +kernel
theorem dX10_restore_28 : decode cX10_restore 28 = .ok (.getfield 16, 3) := by decide +kernel
theorem dX10_restore_31 : decode cX10_restore 31 = .ok (.iload_n 1, 1) := by decide +kernel
theorem dX10_restore_32 : decode cX10_restore 32 = .ok (.laload, 1) := by decide +kernel
theorem dX10_restore_33 : decode cX10_restore 33 = .ok (.lastore, 1) := by decide +kernel
theorem dX10_restore_34 : decode cX10_restore 34 = .ok (.iinc 1 1, 3) := by decide +kernel
theorem dX10_restore_37 : decode cX10_restore 37 = .ok (.goto (-21), 3) := by decide +kernel
theorem dX10_restore_40 : decode cX10_restore 40 = .ok (.iconst 0, 1) := by decide +kernel
theorem dX10_restore_41 : decode cX10_restore 41 = .ok (.istore_n 1, 1) := by decide +kernel
theorem dX10_restore_42 : decode cX10_restore 42 = .ok (.iload_n 1, 1) := by decide +kernel
theorem dX10_restore_43 : decode cX10_restore 43 = .ok (.bipush 33, 2) := by decide +kernel
theorem dX10_restore_45 : decode cX10_restore 45 = .ok (.if_icmp .ge 21, 3) := by decide +kernel
theorem dX10_restore_48 : decode cX10_restore 48 = .ok (.aload_n 0, 1) := by decide +kernel
theorem dX10_restore_49 : decode cX10_restore 49 = .ok (.getfield 22, 3) := by decide +kernel
theorem dX10_restore_52 : decode cX10_restore 52 = .ok (.iload_n 1, 1) := by decide +kernel
theorem dX10_restore_53 : decode cX10_restore 53 = .ok (.aload_n 0, 1) := by decide +kernel
theorem dX10_restore_54 : decode cX10_restore 54 = .ok (.getfield 29, 3) := by decide +kernel
theorem dX10_restore_57 : decode cX10_restore 57 = .ok (.iload_n 1, 1) := by decide +kernel
theorem dX10_restore_58 : decode cX10_restore 58 = .ok (.daload, 1) := by decide +kernel
theorem dX10_restore_59 : decode cX10_restore 59 = .ok (.dastore, 1) := by decide +kernel
theorem dX10_restore_60 : decode cX10_restore 60 = .ok (.iinc 1 1, 3) := by decide +kernel
theorem dX10_restore_63 : decode cX10_restore 63 = .ok (.goto (-21), 3) := by decide +kernel
theorem dX10_restore_66 : decode cX10_restore 66 = .ok (.aload_n 0, 1) := by decide +kernel
theorem dX10_restore_67 : decode cX10_restore 67 = .ok (.iconst 0, 1) := by decide +kernel
theorem dX10_restore_68 : decode cX10_restore 68 = .ok (.invokevirtual 50, 3) := by decide +kernel
theorem dX10_restore_71 : decode cX10_restore 71 = .ok (.ireturn, 1) := by decide +kernel
theorem dX10_section_0 : decode cX10_section 0 = .ok (.aload_n 0, 1) := by decide +kernel
theorem dX10_section_1 : decode cX10_section 1 = .ok (.iload_n 1, 1) := by decide +kernel
theorem dX10_section_2 : decode cX10_section 2 = .ok (.bipush 7, 2) := by decide +kernel
theorem dX10_section_4 : decode cX10_section 4 = .ok (.invokevirtual 95, 3) := by decide +kernel
theorem dX10_section_7 : decode cX10_section 7 = .ok (.ifCond .eq 5, 3) := by decide +kernel
theorem dX10_section_10 : decode cX10_section 10 = .ok (.iconst (-1), 1) := by decide +kernel
theorem dX10_section_11 : decode cX10_section 11 = .ok (.ireturn, 1) := by decide +kernel
theorem dX10_section_12 : decode cX10_section 12 = .ok (.iload_n 2, 1) := by decide +kernel
theorem dX10_section_13 : decode cX10_section 13 = .ok (.tableswitch 72 0 5 #[39, 39, 39, 39, 46, 39], 39) := by decide +kernel
theorem dX10_section_52 : decode cX10_section 52 = .ok (.aload_n 0, 1) := by decide +kernel
theorem dX10_section_53 : decode cX10_section 53 = .ok (.iload_n 1, 1) := by decide +kernel
theorem dX10_section_54 : decode cX10_section 54 = .ok (.iload_n 2, 1) := by decide +kernel
theorem dX10_section_55 : decode cX10_section 55 = .ok (.invokevirtual 128, 3) := by decide +kernel
theorem dX10_section_58 : decode cX10_section 58 = .ok (.ireturn, 1) := by decide +kernel
theorem dX10_section_59 : decode cX10_section 59 = .ok (.aload_n 0, 1) := by decide +kernel
theorem dX10_section_60 : decode cX10_section 60 = .ok (.getfield 7, 3) := by decide +kernel
theorem dX10_section_63 : decode cX10_section 63 = .ok (.iconst 2, 1) := by decide +kernel
theorem dX10_section_64 : decode cX10_section 64 = .ok (.laload, 1) := by decide +kernel
theorem dX10_section_65 : decode cX10_section 65 = .ok (.iload_n 1, 1) := by decide +kernel
theorem dX10_section_66 : decode cX10_section 66 = .ok (.i2l, 1) := by decide +kernel
theorem dX10_section_67 : decode cX10_section 67 = .ok (.lconst 1, 1) := by decide +kernel
theorem dX10_section_68 : decode cX10_section 68 = .ok (.ladd, 1) := by decide +kernel
theorem dX10_section_69 : decode cX10_section 69 = .ok (.lcmp, 1) := by decide +kernel
theorem dX10_section_70 : decode cX10_section 70 = .ok (.ifCond .ne 12, 3) := by decide +kernel
theorem dX10_section_73 : decode cX10_section 73 = .ok (.aload_n 0, 1) := by decide +kernel
theorem dX10_section_74 : decode cX10_section 74 = .ok (.iload_n 1, 1) := by decide +kernel
theorem dX10_section_75 : decode cX10_section 75 = .ok (.iconst 4, 1) := by decide +kernel
theorem dX10_section_76 : decode cX10_section 76 = .ok (.invokevirtual 128, 3) := by decide +kernel
theorem dX10_section_79 : decode cX10_section 79 = .ok (.goto 5, 3) := by decide +kernel
theorem dX10_section_82 : decode cX10_section 82 = .ok (.bipush (-5), 2) := by decide +kernel
theorem dX10_section_84 : decode cX10_section 84 = .ok (.ireturn, 1) := by decide +kernel
theorem dX10_section_85 : decode cX10_section 85 = .ok (.bipush (-2), 2) := by decide +kernel
theorem dX10_section_87 : decode cX10_section 87 = .ok (.ireturn, 1) := by decide +kernel
theorem dX10_pump_0 : decode cX10_pump 0 = .ok (.aload_n 0, 1) := by decide +kernel
theorem dX10_pump_1 : decode cX10_pump 1 = .ok (.iload_n 1, 1) := by decide +kernel
theorem dX10_pump_2 : decode cX10_pump 2 = .ok (.bipush 10, 2) := by decide +kernel
theorem dX10_pump_4 : decode cX10_pump 4 = .ok (.invokevirtual 95, 3) := by decide +kernel
theorem dX10_pump_7 : decode cX10_pump 7 = .ok (.ifCond .eq 5, 3) := by decide +kernel
theorem dX10_pump_10 : decode cX10_pump 10 = .ok (.iconst (-1), 1) := by decide +kernel
theorem dX10_pump_11 : decode cX10_pump 11 = .ok (.ireturn, 1) := by decide +kernel
theorem dX10_pump_12 : decode cX10_pump 12 = .ok (.iload_n 2, 1) := by decide +kernel
theorem dX10_pump_13 : decode cX10_pump 13 = .ok (.tableswitch 63 0 4 #[35, 35, 35, 42, 56], 35) := by decide +kernel
theorem dX10_pump_48 : decode cX10_pump 48 = .ok (.aload_n 0, 1) := by decide +kernel
theorem dX10_pump_49 : decode cX10_pump 49 = .ok (.iload_n 1, 1) := by decide +kernel
theorem dX10_pump_50 : decode cX10_pump 50 = .ok (.iload_n 2, 1) := by decide +kernel
theorem dX10_pump_51 : decode cX10_pump 51 = .ok (.invokevirtual 103, 3) := by decide +kernel
theorem dX10_pump_54 : decode cX10_pump 54 = .ok (.ireturn, 1) := by decide +kernel
theorem dX10_pump_55 : decode cX10_pump 55 = .ok (.aload_n 0, 1) := by decide +kernel
theorem dX10_pump_56 : decode cX10_pump 56 = .ok (.iload_n 1, 1) := by decide +kernel
theorem dX10_pump_57 : decode cX10_pump 57 = .ok (.invokevirtual 162, 3) := by decide +kernel
theorem dX10_pump_60 : decode cX10_pump 60 = .ok (.ifCond .eq 7, 3) := by decide +kernel
theorem dX10_pump_63 : decode cX10_pump 63 = .ok (.iconst 1, 1) := by decide +kernel
theorem dX10_pump_64 : decode cX10_pump 64 = .ok (.goto 4, 3) := by decide +kernel
theorem dX10_pump_67 : decode cX10_pump 67 = .ok (.iconst 0, 1) := by decide +kernel
theorem dX10_pump_68 : decode cX10_pump 68 = .ok (.ireturn, 1) := by decide +kernel
theorem dX10_pump_69 : decode cX10_pump 69 = .ok (.aload_n 0, 1) := by decide +kernel
theorem dX10_pump_70 : decode cX10_pump 70 = .ok (.iload_n 1, 1) := by decide +kernel
theorem dX10_pump_71 : decode cX10_pump 71 = .ok (.iconst 3, 1) := by decide +kernel
theorem dX10_pump_72 : decode cX10_pump 72 = .ok (.invokevirtual 103, 3) := by decide +kernel
theorem dX10_pump_75 : decode cX10_pump 75 = .ok (.ireturn, 1) := by decide +kernel
theorem dX10_pump_76 : decode cX10_pump 76 = .ok (.bipush (-2), 2) := by decide +kernel
theorem dX10_pump_78 : decode cX10_pump 78 = .ok (.ireturn, 1) := by decide +kernel
theorem dX10_nothing_0 : decode cX10_nothing 0 = .ok (.ldc2_w 205, 3) := by decide +kernel
theorem dX10_nothing_3 : decode cX10_nothing 3 = .ok (.dreturn, 1) := by decide +kernel
theorem dX10_level_0 : decode cX10_level 0 = .ok (.iload_n 1, 1) := by decide +kernel
theorem dX10_level_1 : decode cX10_level 1 = .ok (.ifCond .ne 10, 3) := by decide +kernel
theorem dX10_level_4 : decode cX10_level 4 = .ok (.aload_n 0, 1) := by decide +kernel
theorem dX10_level_5 : decode cX10_level 5 = .ok (.invokevirtual 138, 3) := by decide +kernel
theorem dX10_level_8 : decode cX10_level 8 = .ok (.goto 32, 3) := by decide +kernel
theorem dX10_level_11 : decode cX10_level 11 = .ok (.iload_n 1, 1) := by decide +kernel
theorem dX10_level_12 : decode cX10_level 12 = .ok (.iconst 1, 1) := by decide +kernel
theorem dX10_level_13 : decode cX10_level 13 = .ok (.if_icmp .ne 10, 3) := by decide +kernel
theorem dX10_level_16 : decode cX10_level 16 = .ok (.aload_n 0, 1) := by decide +kernel
theorem dX10_level_17 : decode cX10_level 17 = .ok (.invokevirtual 148, 3) := by decide +kernel
theorem dX10_level_20 : decode cX10_level 20 = .ok (.goto 20, 3) := by decide +kernel
theorem dX10_level_23 : decode cX10_level 23 = .ok (.iload_n 1, 1) := by decide +kernel
theorem dX10_level_24 : decode cX10_level 24 = .ok (.iconst 2, 1) := by decide +kernel
theorem dX10_level_25 : decode cX10_level 25 = .ok (.if_icmp .ne 12, 3) := by decide +kernel
theorem dX10_level_28 : decode cX10_level 28 = .ok (.aload_n 0, 1) := by decide +kernel
theorem dX10_level_29 : decode cX10_level 29 = .ok (.getfield 22, 3) := by decide +kernel
theorem dX10_level_32 : decode cX10_level 32 = .ok (.iconst 0, 1) := by decide +kernel
theorem dX10_level_33 : decode cX10_level 33 = .ok (.daload, 1) := by decide +kernel
theorem dX10_level_34 : decode cX10_level 34 = .ok (.goto 6, 3) := by decide +kernel
theorem dX10_level_37 : decode cX10_level 37 = .ok (.invokestatic 207, 3) := by decide +kernel
theorem dX10_level_40 : decode cX10_level 40 = .ok (.dreturn, 1) := by decide +kernel
theorem dX10_water_0 : decode cX10_water 0 = .ok (.iload_n 1, 1) := by decide +kernel
theorem dX10_water_1 : decode cX10_water 1 = .ok (.i2l, 1) := by decide +kernel
theorem dX10_water_2 : decode cX10_water 2 = .ok (.lconst 0, 1) := by decide +kernel
theorem dX10_water_3 : decode cX10_water 3 = .ok (.ldc2_w 210, 3) := by decide +kernel
theorem dX10_water_6 : decode cX10_water 6 = .ok (.invokestatic 54, 3) := by decide +kernel
theorem dX10_water_9 : decode cX10_water 9 = .ok (.ifCond .eq 15, 3) := by decide +kernel
theorem dX10_water_12 : decode cX10_water 12 = .ok (.aload_n 0, 1) := by decide +kernel
theorem dX10_water_13 : decode cX10_water 13 = .ok (.getfield 7, 3) := by decide +kernel
theorem dX10_water_16 : decode cX10_water 16 = .ok (.bipush 12, 2) := by decide +kernel
theorem dX10_water_18 : decode cX10_water 18 = .ok (.iload_n 1, 1) := by decide +kernel
theorem dX10_water_19 : decode cX10_water 19 = .ok (.iadd, 1) := by decide +kernel
theorem dX10_water_20 : decode cX10_water 20 = .ok (.laload, 1) := by decide +kernel
theorem dX10_water_21 : decode cX10_water 21 = .ok (.goto 6, 3) := by decide +kernel
theorem dX10_water_24 : decode cX10_water 24 = .ok (.ldc2_w 212, 3) := by decide +kernel
theorem dX10_water_27 : decode cX10_water 27 = .ok (.lreturn, 1) := by decide +kernel
theorem dX10_takeSpare_0 : decode cX10_takeSpare 0 = .ok (.iconst 0, 1) := by decide +kernel
theorem dX10_takeSpare_1 : decode cX10_takeSpare 1 = .ok (.istore_n 1, 1) := by decide +kernel
theorem dX10_takeSpare_2 : decode cX10_takeSpare 2 = .ok (.iload_n 1, 1) := by decide +kernel
theorem dX10_takeSpare_3 : decode cX10_takeSpare 3 = .ok (.bipush 108, 2) := by decide +kernel
theorem dX10_takeSpare_5 : decode cX10_takeSpare 5 = .ok (.if_icmp .ge 21, 3) := by decide +kernel
theorem dX10_takeSpare_8 : decode cX10_takeSpare 8 = .ok (.aload_n 0, 1) := by decide +kernel
theorem dX10_takeSpare_9 : decode cX10_takeSpare 9 = .ok (.getfield 19, 3) := by decide +kernel
theorem dX10_takeSpare_12 : decode cX10_takeSpare 12 = .ok (.iload_n 1, 1) := by decide +kernel
theorem dX10_takeSpare_13 : decode cX10_takeSpare 13 = .ok (.aload_n 0, 1) := by decide +kernel
theorem dX10_takeSpare_14 : decode cX10_takeSpare 14 = .ok (.getfield 7, 3) := by decide +kernel
theorem dX10_takeSpare_17 : decode cX10_takeSpare 17 = .ok (.iload_n 1, 1) := by decide +kernel
theorem dX10_takeSpare_18 : decode cX10_takeSpare 18 = .ok (.laload, 1) := by decide +kernel
theorem dX10_takeSpare_19 : decode cX10_takeSpare 19 = .ok (.lastore, 1) := by decide +kernel
theorem dX10_takeSpare_20 : decode cX10_takeSpare 20 = .ok (.iinc 1 1, 3) := by decide +kernel
theorem dX10_takeSpare_23 : decode cX10_takeSpare 23 = .ok (.goto (-21), 3) := by decide +kernel
theorem dX10_takeSpare_26 : decode cX10_takeSpare 26 = .ok (.return_, 1) := by decide +kernel
theorem dX10_putBack_0 : decode cX10_putBack 0 = .ok (.iconst 0, 1) := by decide +kernel
theorem dX10_putBack_1 : decode cX10_putBack 1 = .ok (.istore_n 1, 1) := by decide +kernel
theorem dX10_putBack_2 : decode cX10_putBack 2 = .ok (.iload_n 1, 1) := by decide +kernel
theorem dX10_putBack_3 : decode cX10_putBack 3 = .ok (.bipush 108, 2) := by decide +kernel
theorem dX10_putBack_5 : decode cX10_putBack 5 = .ok (.if_icmp .ge 21, 3) := by decide +kernel
theorem dX10_putBack_8 : decode cX10_putBack 8 = .ok (.aload_n 0, 1) := by decide +kernel
theorem dX10_putBack_9 : decode cX10_putBack 9 = .ok (.getfield 7, 3) := by decide +kernel
theorem dX10_putBack_12 : decode cX10_putBack 12 = .ok (.iload_n 1, 1) := by decide +kernel
theorem dX10_putBack_13 : decode cX10_putBack 13 = .ok (.aload_n 0, 1) := by decide +kernel
theorem dX10_putBack_14 : decode cX10_putBack 14 = .ok (.getfield 19, 3) := by decide +kernel
theorem dX10_putBack_17 : decode cX10_putBack 17 = .ok (.iload_n 1, 1) := by decide +kernel
theorem dX10_putBack_18 : decode cX10_putBack 18 = .ok (.laload, 1) := by decide +kernel
theorem dX10_putBack_19 : decode cX10_putBack 19 = .ok (.lastore, 1) := by decide +kernel
theorem dX10_putBack_20 : decode cX10_putBack 20 = .ok (.iinc 1 1, 3) := by decide +kernel
theorem dX10_putBack_23 : decode cX10_putBack 23 = .ok (.goto (-21), 3) := by decide +kernel
theorem dX10_putBack_26 : decode cX10_putBack 26 = .ok (.return_, 1) := by decide +kernel
theorem dX10_forecast_0 : decode cX10_forecast 0 = .ok (.iload_n 1, 1) := by decide +kernel
theorem dX10_forecast_1 : decode cX10_forecast 1 = .ok (.i2l, 1) := by decide +kernel
theorem dX10_forecast_2 : decode cX10_forecast 2 = .ok (.lconst 0, 1) := by decide +kernel
theorem dX10_forecast_3 : decode cX10_forecast 3 = .ok (.ldc2_w 175, 3) := by decide +kernel
theorem dX10_forecast_6 : decode cX10_forecast 6 = .ok (.invokestatic 54, 3) := by decide +kernel
theorem dX10_forecast_9 : decode cX10_forecast 9 = .ok (.ifCond .ne 7, 3) := by decide +kernel
theorem dX10_forecast_12 : decode cX10_forecast 12 = .ok (.invokestatic 207, 3) := by decide +kernel
theorem dX10_forecast_15 : decode cX10_forecast 15 = .ok (.dreturn, 1) := by decide +kernel
theorem dX10_forecast_16 : decode cX10_forecast 16 = .ok (.aload_n 0, 1) := by decide +kernel
theorem dX10_forecast_17 : decode cX10_forecast 17 = .ok (.invokevirtual 214, 3) := by decide +kernel
theorem dX10_forecast_20 : decode cX10_forecast 20 = .ok (.iconst 0, 1) := by decide +kernel
theorem dX10_forecast_21 : decode cX10_forecast 21 = .ok (.istore_n 2, 1) := by decide +kernel
theorem dX10_forecast_22 : decode cX10_forecast 22 = .ok (.iconst 0, 1) := by decide +kernel
theorem dX10_forecast_23 : decode cX10_forecast 23 = .ok (.istore_n 3, 1) := by decide +kernel
theorem dX10_forecast_24 : decode cX10_forecast 24 = .ok (.iload_n 3, 1) := by decide +kernel
theorem dX10_forecast_25 : decode cX10_forecast 25 = .ok (.iload_n 1, 1) := by decide +kernel
theorem dX10_forecast_26 : decode cX10_forecast 26 = .ok (.if_icmp .ge 16, 3) := by decide +kernel
theorem dX10_forecast_29 : decode cX10_forecast 29 = .ok (.iload_n 2, 1) := by decide +kernel
theorem dX10_forecast_30 : decode cX10_forecast 30 = .ok (.aload_n 0, 1) := by decide +kernel
theorem dX10_forecast_31 : decode cX10_forecast 31 = .ok (.invokevirtual 177, 3) := by decide +kernel
theorem dX10_forecast_34 : decode cX10_forecast 34 = .ok (.iadd, 1) := by decide +kernel
theorem dX10_forecast_35 : decode cX10_forecast 35 = .ok (.istore_n 2, 1) := by decide +kernel
theorem dX10_forecast_36 : decode cX10_forecast 36 = .ok (.iinc 3 1, 3) := by decide +kernel
theorem dX10_forecast_39 : decode cX10_forecast 39 = .ok (.goto (-15), 3) := by decide +kernel
theorem dX10_forecast_42 : decode cX10_forecast 42 = .ok (.aload_n 0, 1) := by decide +kernel
theorem dX10_forecast_43 : decode cX10_forecast 43 = .ok (.invokevirtual 148, 3) := by decide +kernel
theorem dX10_forecast_46 : decode cX10_forecast 46 = .ok (.dstore_n 3, 1) := by decide +kernel
theorem dX10_forecast_47 : decode cX10_forecast 47 = .ok (.aload_n 0, 1) := by decide +kernel
theorem dX10_forecast_48 : decode cX10_forecast 48 = .ok (.invokevirtual 217, 3) := by decide +kernel
theorem dX10_forecast_51 : decode cX10_forecast 51 = .ok (.dload_n 3, 1) := by decide +kernel
theorem dX10_forecast_52 : decode cX10_forecast 52 = .ok (.dreturn, 1) := by decide +kernel
theorem dX10_shutIn_0 : decode cX10_shutIn 0 = .ok (.aload_n 0, 1) := by decide +kernel
theorem dX10_shutIn_1 : decode cX10_shutIn 1 = .ok (.invokevirtual 214, 3) := by decide +kernel
theorem dX10_shutIn_4 : decode cX10_shutIn 4 = .ok (.iconst 0, 1) := by decide +kernel
theorem dX10_shutIn_5 : decode cX10_shutIn 5 = .ok (.istore_n 1, 1) := by decide +kernel
theorem dX10_shutIn_6 : decode cX10_shutIn 6 = .ok (.iconst 0, 1) := by decide +kernel
theorem dX10_shutIn_7 : decode cX10_shutIn 7 = .ok (.istore_n 2, 1) := by decide +kernel
theorem dX10_shutIn_8 : decode cX10_shutIn 8 = .ok (.iload_n 1, 1) := by decide +kernel
theorem dX10_shutIn_9 : decode cX10_shutIn 9 = .ok (.bipush 48, 2) := by decide +kernel
theorem dX10_shutIn_11 : decode cX10_shutIn 11 = .ok (.if_icmp .gt 23, 3) := by decide +kernel
theorem dX10_shutIn_14 : decode cX10_shutIn 14 = .ok (.aload_n 0, 1) := by decide +kernel
theorem dX10_shutIn_15 : decode cX10_shutIn 15 = .ok (.invokevirtual 134, 3) := by decide +kernel
theorem dX10_shutIn_18 : decode cX10_shutIn 18 = .ok (.ifCond .ne 16, 3) := by decide +kernel
theorem dX10_shutIn_21 : decode cX10_shutIn 21 = .ok (.iload_n 2, 1) := by decide +kernel
theorem dX10_shutIn_22 : decode cX10_shutIn 22 = .ok (.aload_n 0, 1) := by decide +kernel
theorem dX10_shutIn_23 : decode cX10_shutIn 23 = .ok (.invokevirtual 177, 3) := by decide +kernel
theorem dX10_shutIn_26 : decode cX10_shutIn 26 = .ok (.iadd, 1) := by decide +kernel
theorem dX10_shutIn_27 : decode cX10_shutIn 27 = .ok (.istore_n 2, 1) := by decide +kernel
theorem dX10_shutIn_28 : decode cX10_shutIn 28 = .ok (.iinc 1 1, 3) := by decide +kernel
theorem dX10_shutIn_31 : decode cX10_shutIn 31 = .ok (.goto (-23), 3) := by decide +kernel
theorem dX10_shutIn_34 : decode cX10_shutIn 34 = .ok (.aload_n 0, 1) := by decide +kernel
theorem dX10_shutIn_35 : decode cX10_shutIn 35 = .ok (.invokevirtual 217, 3) := by decide +kernel
theorem dX10_shutIn_38 : decode cX10_shutIn 38 = .ok (.iload_n 1, 1) := by decide +kernel
theorem dX10_shutIn_39 : decode cX10_shutIn 39 = .ok (.bipush 48, 2) := by decide +kernel
theorem dX10_shutIn_41 : decode cX10_shutIn 41 = .ok (.if_icmp .le 8, 3) := by decide +kernel
theorem dX10_shutIn_44 : decode cX10_shutIn 44 = .ok (.bipush (-5), 2) := by decide +kernel
theorem dX10_shutIn_46 : decode cX10_shutIn 46 = .ok (.goto 4, 3) := by decide +kernel
theorem dX10_shutIn_49 : decode cX10_shutIn 49 = .ok (.iload_n 1, 1) := by decide +kernel
theorem dX10_shutIn_50 : decode cX10_shutIn 50 = .ok (.ireturn, 1) := by decide +kernel
theorem dX10_tide_0 : decode cX10_tide 0 = .ok (.iload_n 1, 1) := by decide +kernel
theorem dX10_tide_1 : decode cX10_tide 1 = .ok (.i2l, 1) := by decide +kernel
theorem dX10_tide_2 : decode cX10_tide 2 = .ok (.lconst 0, 1) := by decide +kernel
theorem dX10_tide_3 : decode cX10_tide 3 = .ok (.ldc2_w 122, 3) := by decide +kernel
theorem dX10_tide_6 : decode cX10_tide 6 = .ok (.invokestatic 54, 3) := by decide +kernel
theorem dX10_tide_9 : decode cX10_tide 9 = .ok (.ifCond .eq 17, 3) := by decide +kernel
theorem dX10_tide_12 : decode cX10_tide 12 = .ok (.aload_n 0, 1) := by decide +kernel
theorem dX10_tide_13 : decode cX10_tide 13 = .ok (.getfield 22, 3) := by decide +kernel
theorem dX10_tide_16 : decode cX10_tide 16 = .ok (.iconst 1, 1) := by decide +kernel
theorem dX10_tide_17 : decode cX10_tide 17 = .ok (.iload_n 1, 1) := by decide +kernel
theorem dX10_tide_18 : decode cX10_tide 18 = .ok (.iadd, 1) := by decide +kernel
theorem dX10_tide_19 : decode cX10_tide 19 = .ok (.daload, 1) := by decide +kernel
theorem dX10_tide_20 : decode cX10_tide 20 = .ok (.invokestatic 220, 3) := by decide +kernel
theorem dX10_tide_23 : decode cX10_tide 23 = .ok (.goto 6, 3) := by decide +kernel
theorem dX10_tide_26 : decode cX10_tide 26 = .ok (.ldc2_w 212, 3) := by decide +kernel
theorem dX10_tide_29 : decode cX10_tide 29 = .ok (.lreturn, 1) := by decide +kernel
theorem dX10_count_0 : decode cX10_count 0 = .ok (.iload_n 1, 1) := by decide +kernel
theorem dX10_count_1 : decode cX10_count 1 = .ok (.tableswitch 166 0 17 #[87, 87, 93, 117, 123, 129, 135, 141, 141, 141, 141, 141, 141, 141, 141, 149, 154, 159], 87) := by decide +kernel
theorem dX10_count_88 : decode cX10_count 88 = .ok (.aload_n 0, 1) := by decide +kernel
theorem dX10_count_89 : decode cX10_count 89 = .ok (.iload_n 1, 1) := by decide +kernel
theorem dX10_count_90 : decode cX10_count 90 = .ok (.invokevirtual 50, 3) := by decide +kernel
theorem dX10_count_93 : decode cX10_count 93 = .ok (.ireturn, 1) := by decide +kernel
theorem dX10_count_94 : decode cX10_count 94 = .ok (.aload_n 0, 1) := by decide +kernel
theorem dX10_count_95 : decode cX10_count 95 = .ok (.getfield 7, 3) := by decide +kernel
theorem dX10_count_98 : decode cX10_count 98 = .ok (.iconst 2, 1) := by decide +kernel
theorem dX10_count_99 : decode cX10_count 99 = .ok (.laload, 1) := by decide +kernel
theorem dX10_count_100 : decode cX10_count 100 = .ok (.lconst 0, 1) := by decide +kernel
theorem dX10_count_101 : decode cX10_count 101 = .ok (.lcmp, 1) := by decide +kernel
theorem dX10_count_102 : decode cX10_count 102 = .ok (.ifCond .ne 8, 3) := by decide +kernel
theorem dX10_count_105 : decode cX10_count 105 = .ok (.bipush (-5), 2) := by decide +kernel
theorem dX10_count_107 : decode cX10_count 107 = .ok (.goto 10, 3) := by decide +kernel
theorem dX10_count_110 : decode cX10_count 110 = .ok (.aload_n 0, 1) := by decide +kernel
theorem dX10_count_111 : decode cX10_count 111 = .ok (.iconst 2, 1) := by decide +kernel
theorem dX10_count_112 : decode cX10_count 112 = .ok (.invokevirtual 50, 3) := by decide +kernel
theorem dX10_count_115 : decode cX10_count 115 = .ok (.iconst 1, 1) := by decide +kernel
theorem dX10_count_116 : decode cX10_count 116 = .ok (.isub, 1) := by decide +kernel
theorem dX10_count_117 : decode cX10_count 117 = .ok (.ireturn, 1) := by decide +kernel
theorem dX10_count_118 : decode cX10_count 118 = .ok (.aload_n 0, 1) := by decide +kernel
theorem dX10_count_119 : decode cX10_count 119 = .ok (.iconst 2, 1) := by decide +kernel
theorem dX10_count_120 : decode cX10_count 120 = .ok (.invokevirtual 131, 3) := by decide +kernel
theorem dX10_count_123 : decode cX10_count 123 = .ok (.ireturn, 1) := by decide +kernel
theorem dX10_count_124 : decode cX10_count 124 = .ok (.aload_n 0, 1) := by decide +kernel
theorem dX10_count_125 : decode cX10_count 125 = .ok (.iconst 4, 1) := by decide +kernel
theorem dX10_count_126 : decode cX10_count 126 = .ok (.invokevirtual 131, 3) := by decide +kernel
theorem dX10_count_129 : decode cX10_count 129 = .ok (.ireturn, 1) := by decide +kernel
theorem dX10_count_130 : decode cX10_count 130 = .ok (.aload_n 0, 1) := by decide +kernel
theorem dX10_count_131 : decode cX10_count 131 = .ok (.iconst 1, 1) := by decide +kernel
theorem dX10_count_132 : decode cX10_count 132 = .ok (.invokevirtual 124, 3) := by decide +kernel
theorem dX10_count_135 : decode cX10_count 135 = .ok (.ireturn, 1) := by decide +kernel
theorem dX10_count_136 : decode cX10_count 136 = .ok (.aload_n 0, 1) := by decide +kernel
theorem dX10_count_137 : decode cX10_count 137 = .ok (.iconst 0, 1) := by decide +kernel
theorem dX10_count_138 : decode cX10_count 138 = .ok (.invokevirtual 124, 3) := by decide +kernel
theorem dX10_count_141 : decode cX10_count 141 = .ok (.ireturn, 1) := by decide +kernel
theorem dX10_count_142 : decode cX10_count 142 = .ok (.aload_n 0, 1) := by decide +kernel
theorem dX10_count_143 : decode cX10_count 143 = .ok (.iload_n 1, 1) := by decide +kernel
theorem dX10_count_144 : decode cX10_count 144 = .ok (.iconst 4, 1) := by decide +kernel
theorem dX10_count_145 : decode cX10_count 145 = .ok (.isub, 1) := by decide +kernel
theorem dX10_count_146 : decode cX10_count 146 = .ok (.invokevirtual 50, 3) := by decide +kernel
theorem dX10_count_149 : decode cX10_count 149 = .ok (.ireturn, 1) := by decide +kernel
theorem dX10_count_150 : decode cX10_count 150 = .ok (.aload_n 0, 1) := by decide +kernel
theorem dX10_count_151 : decode cX10_count 151 = .ok (.getfield 46, 3) := by decide +kernel
theorem dX10_count_154 : decode cX10_count 154 = .ok (.ireturn, 1) := by decide +kernel
theorem dX10_count_155 : decode cX10_count 155 = .ok (.aload_n 0, 1) := by decide +kernel
theorem dX10_count_156 : decode cX10_count 156 = .ok (.getfield 180, 3) := by decide +kernel
theorem dX10_count_159 : decode cX10_count 159 = .ok (.ireturn, 1) := by decide +kernel
theorem dX10_count_160 : decode cX10_count 160 = .ok (.aload_n 0, 1) := by decide +kernel
theorem dX10_count_161 : decode cX10_count 161 = .ok (.bipush 11, 2) := by decide +kernel
theorem dX10_count_163 : decode cX10_count 163 = .ok (.invokevirtual 50, 3) := by decide +kernel
theorem dX10_count_166 : decode cX10_count 166 = .ok (.ireturn, 1) := by decide +kernel
theorem dX10_count_167 : decode cX10_count 167 = .ok (.bipush (-2), 2) := by decide +kernel
theorem dX10_count_169 : decode cX10_count 169 = .ok (.ireturn, 1) := by decide +kernel
theorem dJxe99ae_isNaN_b9ae7_0 : decode cJxe99ae_isNaN_b9ae7 0 = .ok (.dload_n 0, 1) := by decide +kernel
theorem dJxe99ae_isNaN_b9ae7_1 : decode cJxe99ae_isNaN_b9ae7 1 = .ok (.dload_n 0, 1) := by decide +kernel
theorem dJxe99ae_isNaN_b9ae7_2 : decode cJxe99ae_isNaN_b9ae7 2 = .ok (.dcmp .l, 1) := by decide +kernel
theorem dJxe99ae_isNaN_b9ae7_3 : decode cJxe99ae_isNaN_b9ae7 3 = .ok (.ifCond .eq 7, 3) := by decide +kernel
theorem dJxe99ae_isNaN_b9ae7_6 : decode cJxe99ae_isNaN_b9ae7 6 = .ok (.iconst 1, 1) := by decide +kernel
theorem dJxe99ae_isNaN_b9ae7_7 : decode cJxe99ae_isNaN_b9ae7 7 = .ok (.goto 4, 3) := by decide +kernel
theorem dJxe99ae_isNaN_b9ae7_10 : decode cJxe99ae_isNaN_b9ae7 10 = .ok (.iconst 0, 1) := by decide +kernel
theorem dJxe99ae_isNaN_b9ae7_11 : decode cJxe99ae_isNaN_b9ae7 11 = .ok (.ireturn, 1) := by decide +kernel
theorem dJxe99ae_doubleToLongBits_ccdee_0 : decode cJxe99ae_doubleToLongBits_ccdee 0 = .ok (.dload_n 0, 1) := by decide +kernel
theorem dJxe99ae_doubleToLongBits_ccdee_1 : decode cJxe99ae_doubleToLongBits_ccdee 1 = .ok (.invokestatic 122, 3) := by decide +kernel
theorem dJxe99ae_doubleToLongBits_ccdee_4 : decode cJxe99ae_doubleToLongBits_ccdee 4 = .ok (.ifCond .ne 8, 3) := by decide +kernel
theorem dJxe99ae_doubleToLongBits_ccdee_7 : decode cJxe99ae_doubleToLongBits_ccdee 7 = .ok (.dload_n 0, 1) := by decide +kernel
theorem dJxe99ae_doubleToLongBits_ccdee_8 : decode cJxe99ae_doubleToLongBits_ccdee 8 = .ok (.invokestatic 134, 3) := by decide +kernel
theorem dJxe99ae_doubleToLongBits_ccdee_11 : decode cJxe99ae_doubleToLongBits_ccdee 11 = .ok (.lreturn, 1) := by decide +kernel
theorem dJxe99ae_doubleToLongBits_ccdee_12 : decode cJxe99ae_doubleToLongBits_ccdee 12 = .ok (.ldc2_w 137, 3) := by decide +kernel
theorem dJxe99ae_doubleToLongBits_ccdee_15 : decode cJxe99ae_doubleToLongBits_ccdee 15 = .ok (.lreturn, 1) := by decide +kernel
