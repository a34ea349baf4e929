theorem d_VT_init_0 : decode b_VT_init 0 = .ok (.aload_n 0, 1) := by decide +kernel
theorem d_VT_init_1 : decode b_VT_init 1 = .ok (.invokespecial 1, 3) := by decide +kernel
theorem d_VT_init_4 : decode b_VT_init 4 = .ok (.iload_n 1, 1) := by decide +kernel
theorem d_VT_init_5 : decode b_VT_init 5 = .ok (.iconst 1, 1) := by decide +kernel
theorem d_VT_init_6 : decode b_VT_init 6 = .ok (.if_icmp .ne 20, 3) := by decide +kernel
theorem d_VT_init_9 : decode b_VT_init 9 = .ok (.aload_n 0, 1) := by decide +kernel
theorem d_VT_init_10 : decode b_VT_init 10 = .ok (.new 9, 3) := by decide +kernel
theorem d_VT_init_13 : decode b_VT_init 13 = .ok (.dup, 1) := by decide +kernel
theorem d_VT_init_14 : decode b_VT_init 14 = .ok (.sipush 160, 3) := by decide +kernel
theorem d_VT_init_17 : decode b_VT_init 17 = .ok (.invokespecial 11, 3) := by decide +kernel
theorem d_VT_init_20 : decode b_VT_init 20 = .ok (.putfield 14, 3) := by decide +kernel
theorem d_VT_init_23 : decode b_VT_init 23 = .ok (.goto 17, 3) := by decide +kernel
theorem d_VT_init_26 : decode b_VT_init 26 = .ok (.aload_n 0, 1) := by decide +kernel
theorem d_VT_init_27 : decode b_VT_init 27 = .ok (.new 18, 3) := by decide +kernel
theorem d_VT_init_30 : decode b_VT_init 30 = .ok (.dup, 1) := by decide +kernel
theorem d_VT_init_31 : decode b_VT_init 31 = .ok (.sipush 160, 3) := by decide +kernel
theorem d_VT_init_34 : decode b_VT_init 34 = .ok (.invokespecial 20, 3) := by decide +kernel
theorem d_VT_init_37 : decode b_VT_init 37 = .ok (.putfield 14, 3) := by decide +kernel
theorem d_VT_init_40 : decode b_VT_init 40 = .ok (.aload_n 0, 1) := by decide +kernel
theorem d_VT_init_41 : decode b_VT_init 41 = .ok (.new 18, 3) := by decide +kernel
theorem d_VT_init_44 : decode b_VT_init 44 = .ok (.dup, 1) := by decide +kernel
theorem d_VT_init_45 : decode b_VT_init 45 = .ok (.bipush 24, 2) := by decide +kernel
theorem d_VT_init_47 : decode b_VT_init 47 = .ok (.invokespecial 20, 3) := by decide +kernel
theorem d_VT_init_50 : decode b_VT_init 50 = .ok (.putfield 21, 3) := by decide +kernel
theorem d_VT_init_53 : decode b_VT_init 53 = .ok (.aload_n 0, 1) := by decide +kernel
theorem d_VT_init_54 : decode b_VT_init 54 = .ok (.iconst 5, 1) := by decide +kernel
theorem d_VT_init_55 : decode b_VT_init 55 = .ok (.anewarray 25, 3) := by decide +kernel
theorem d_VT_init_58 : decode b_VT_init 58 = .ok (.putfield 27, 3) := by decide +kernel
theorem d_VT_init_61 : decode b_VT_init 61 = .ok (.aload_n 0, 1) := by decide +kernel
theorem d_VT_init_62 : decode b_VT_init 62 = .ok (.iconst 5, 1) := by decide +kernel
theorem d_VT_init_63 : decode b_VT_init 63 = .ok (.newarray .boolean, 2) := by decide +kernel
theorem d_VT_init_65 : decode b_VT_init 65 = .ok (.putfield 31, 3) := by decide +kernel
theorem d_VT_init_68 : decode b_VT_init 68 = .ok (.aload_n 0, 1) := by decide +kernel
theorem d_VT_init_69 : decode b_VT_init 69 = .ok (.getfield 27, 3) := by decide +kernel
theorem d_VT_init_72 : decode b_VT_init 72 = .ok (.iconst 0, 1) := by decide +kernel
theorem d_VT_init_73 : decode b_VT_init 73 = .ok (.aload_n 0, 1) := by decide +kernel
theorem d_VT_init_74 : decode b_VT_init 74 = .ok (.getfield 14, 3) := by decide +kernel
theorem d_VT_init_77 : decode b_VT_init 77 = .ok (.aastore, 1) := by decide +kernel
theorem d_VT_init_78 : decode b_VT_init 78 = .ok (.aload_n 0, 1) := by decide +kernel
theorem d_VT_init_79 : decode b_VT_init 79 = .ok (.getfield 31, 3) := by decide +kernel
theorem d_VT_init_82 : decode b_VT_init 82 = .ok (.iconst 0, 1) := by decide +kernel
theorem d_VT_init_83 : decode b_VT_init 83 = .ok (.iconst 1, 1) := by decide +kernel
theorem d_VT_init_84 : decode b_VT_init 84 = .ok (.bastore, 1) := by decide +kernel
theorem d_VT_init_85 : decode b_VT_init 85 = .ok (.iconst 1, 1) := by decide +kernel
theorem d_VT_init_86 : decode b_VT_init 86 = .ok (.istore_n 2, 1) := by decide +kernel
theorem d_VT_init_87 : decode b_VT_init 87 = .ok (.iload_n 2, 1) := by decide +kernel
theorem d_VT_init_88 : decode b_VT_init 88 = .ok (.iconst 4, 1) := by decide +kernel
theorem d_VT_init_89 : decode b_VT_init 89 = .ok (.if_icmp .gt 25, 3) := by decide +kernel
theorem d_VT_init_92 : decode b_VT_init 92 = .ok (.aload_n 0, 1) := by decide +kernel
theorem d_VT_init_93 : decode b_VT_init 93 = .ok (.getfield 27, 3) := by decide +kernel
theorem d_VT_init_96 : decode b_VT_init 96 = .ok (.iload_n 2, 1) := by decide +kernel
theorem d_VT_init_97 : decode b_VT_init 97 = .ok (.new 18, 3) := by decide +kernel
theorem d_VT_init_100 : decode b_VT_init 100 = .ok (.dup, 1) := by decide +kernel
theorem d_VT_init_101 : decode b_VT_init 101 = .ok (.sipush 160, 3) := by decide +kernel
theorem d_VT_init_104 : decode b_VT_init 104 = .ok (.invokespecial 20, 3) := by decide +kernel
theorem d_VT_init_107 : decode b_VT_init 107 = .ok (.aastore, 1) := by decide +kernel
theorem d_VT_init_108 : decode b_VT_init 108 = .ok (.iinc 2 1, 3) := by decide +kernel
theorem d_VT_init_111 : decode b_VT_init 111 = .ok (.goto (-24), 3) := by decide +kernel
theorem d_VT_init_114 : decode b_VT_init 114 = .ok (.aload_n 0, 1) := by decide +kernel
theorem d_VT_init_115 : decode b_VT_init 115 = .ok (.new 35, 3) := by decide +kernel
theorem d_VT_init_118 : decode b_VT_init 118 = .ok (.dup, 1) := by decide +kernel
theorem d_VT_init_119 : decode b_VT_init 119 = .ok (.invokespecial 37, 3) := by decide +kernel
theorem d_VT_init_122 : decode b_VT_init 122 = .ok (.putfield 38, 3) := by decide +kernel
theorem d_VT_init_125 : decode b_VT_init 125 = .ok (.aload_n 0, 1) := by decide +kernel
theorem d_VT_init_126 : decode b_VT_init 126 = .ok (.new 42, 3) := by decide +kernel
theorem d_VT_init_129 : decode b_VT_init 129 = .ok (.dup, 1) := by decide +kernel
theorem d_VT_init_130 : decode b_VT_init 130 = .ok (.invokespecial 44, 3) := by decide +kernel
theorem d_VT_init_133 : decode b_VT_init 133 = .ok (.putfield 45, 3) := by decide +kernel
theorem d_VT_init_136 : decode b_VT_init 136 = .ok (.aload_n 0, 1) := by decide +kernel
theorem d_VT_init_137 : decode b_VT_init 137 = .ok (.new 49, 3) := by decide +kernel
theorem d_VT_init_140 : decode b_VT_init 140 = .ok (.dup, 1) := by decide +kernel
theorem d_VT_init_141 : decode b_VT_init 141 = .ok (.invokespecial 51, 3) := by decide +kernel
theorem d_VT_init_144 : decode b_VT_init 144 = .ok (.putfield 52, 3) := by decide +kernel
theorem d_VT_init_147 : decode b_VT_init 147 = .ok (.aload_n 0, 1) := by decide +kernel
theorem d_VT_init_148 : decode b_VT_init 148 = .ok (.iconst 0, 1) := by decide +kernel
theorem d_VT_init_149 : decode b_VT_init 149 = .ok (.putfield 56, 3) := by decide +kernel
theorem d_VT_init_152 : decode b_VT_init 152 = .ok (.aload_n 0, 1) := by decide +kernel
theorem d_VT_init_153 : decode b_VT_init 153 = .ok (.iconst (-1), 1) := by decide +kernel
theorem d_VT_init_154 : decode b_VT_init 154 = .ok (.putfield 60, 3) := by decide +kernel
theorem d_VT_init_157 : decode b_VT_init 157 = .ok (.return_, 1) := by decide +kernel
theorem d_VT_type_0 : decode b_VT_type 0 = .ok (.aload_n 0, 1) := by decide +kernel
theorem d_VT_type_1 : decode b_VT_type 1 = .ok (.getfield 21, 3) := by decide +kernel
theorem d_VT_type_4 : decode b_VT_type 4 = .ok (.iload_n 1, 1) := by decide +kernel
theorem d_VT_type_5 : decode b_VT_type 5 = .ok (.invokevirtual 63, 3) := by decide +kernel
theorem d_VT_type_8 : decode b_VT_type 8 = .ok (.ireturn, 1) := by decide +kernel
theorem d_VT_scrap_0 : decode b_VT_scrap 0 = .ok (.aload_n 0, 1) := by decide +kernel
theorem d_VT_scrap_1 : decode b_VT_scrap 1 = .ok (.getfield 21, 3) := by decide +kernel
theorem d_VT_scrap_4 : decode b_VT_scrap 4 = .ok (.iconst 0, 1) := by decide +kernel
theorem d_VT_scrap_5 : decode b_VT_scrap 5 = .ok (.aload_n 0, 1) := by decide +kernel
theorem d_VT_scrap_6 : decode b_VT_scrap 6 = .ok (.getfield 21, 3) := by decide +kernel
theorem d_VT_scrap_9 : decode b_VT_scrap 9 = .ok (.invokevirtual 67, 3) := by decide +kernel
theorem d_VT_scrap_12 : decode b_VT_scrap 12 = .ok (.invokevirtual 71, 3) := by decide +kernel
theorem d_VT_scrap_15 : decode b_VT_scrap 15 = .ok (.return_, 1) := by decide +kernel
theorem d_VT_insert_0 : decode b_VT_insert 0 = .ok (.aload_n 0, 1) := by decide +kernel
theorem d_VT_insert_1 : decode b_VT_insert 1 = .ok (.iload_n 1, 1) := by decide +kernel
theorem d_VT_insert_2 : decode b_VT_insert 2 = .ok (.iload_n 1, 1) := by decide +kernel
theorem d_VT_insert_3 : decode b_VT_insert 3 = .ok (.invokevirtual 75, 3) := by decide +kernel
theorem d_VT_insert_6 : decode b_VT_insert 6 = .ok (.ifCond .ne 5, 3) := by decide +kernel
theorem d_VT_insert_9 : decode b_VT_insert 9 = .ok (.iconst 0, 1) := by decide +kernel
theorem d_VT_insert_10 : decode b_VT_insert 10 = .ok (.ireturn, 1) := by decide +kernel
theorem d_VT_insert_11 : decode b_VT_insert 11 = .ok (.aload_n 0, 1) := by decide +kernel
theorem d_VT_insert_12 : decode b_VT_insert 12 = .ok (.getfield 14, 3) := by decide +kernel
theorem d_VT_insert_15 : decode b_VT_insert 15 = .ok (.iload_n 1, 1) := by decide +kernel
theorem d_VT_insert_16 : decode b_VT_insert 16 = .ok (.aload_n 0, 1) := by decide +kernel
theorem d_VT_insert_17 : decode b_VT_insert 17 = .ok (.getfield 21, 3) := by decide +kernel
theorem d_VT_insert_20 : decode b_VT_insert 20 = .ok (.invokeinterface 79 3, 5) := by decide +kernel
theorem d_VT_insert_25 : decode b_VT_insert 25 = .ok (.aload_n 0, 1) := by decide +kernel
theorem d_VT_insert_26 : decode b_VT_insert 26 = .ok (.invokevirtual 83, 3) := by decide +kernel
theorem d_VT_insert_29 : decode b_VT_insert 29 = .ok (.istore_n 2, 1) := by decide +kernel
theorem d_VT_insert_30 : decode b_VT_insert 30 = .ok (.iload_n 2, 1) := by decide +kernel
theorem d_VT_insert_31 : decode b_VT_insert 31 = .ok (.ifCond .eq 25, 3) := by decide +kernel
theorem d_VT_insert_34 : decode b_VT_insert 34 = .ok (.iload_n 1, 1) := by decide +kernel
theorem d_VT_insert_35 : decode b_VT_insert 35 = .ok (.aload_n 0, 1) := by decide +kernel
theorem d_VT_insert_36 : decode b_VT_insert 36 = .ok (.getfield 60, 3) := by decide +kernel
theorem d_VT_insert_39 : decode b_VT_insert 39 = .ok (.if_icmp .ne 17, 3) := by decide +kernel
theorem d_VT_insert_42 : decode b_VT_insert 42 = .ok (.aload_n 0, 1) := by decide +kernel
theorem d_VT_insert_43 : decode b_VT_insert 43 = .ok (.getfield 38, 3) := by decide +kernel
theorem d_VT_insert_46 : decode b_VT_insert 46 = .ok (.aload_n 0, 1) := by decide +kernel
theorem d_VT_insert_47 : decode b_VT_insert 47 = .ok (.getfield 14, 3) := by decide +kernel
theorem d_VT_insert_50 : decode b_VT_insert 50 = .ok (.invokevirtual 87, 3) := by decide +kernel
theorem d_VT_insert_53 : decode b_VT_insert 53 = .ok (.goto 14, 3) := by decide +kernel
theorem d_VT_insert_56 : decode b_VT_insert 56 = .ok (.aload_n 0, 1) := by decide +kernel
theorem d_VT_insert_57 : decode b_VT_insert 57 = .ok (.getfield 38, 3) := by decide +kernel
theorem d_VT_insert_60 : decode b_VT_insert 60 = .ok (.aload_n 0, 1) := by decide +kernel
theorem d_VT_insert_61 : decode b_VT_insert 61 = .ok (.getfield 14, 3) := by decide +kernel
theorem d_VT_insert_64 : decode b_VT_insert 64 = .ok (.invokevirtual 91, 3) := by decide +kernel
theorem d_VT_insert_67 : decode b_VT_insert 67 = .ok (.aload_n 0, 1) := by decide +kernel
theorem d_VT_insert_68 : decode b_VT_insert 68 = .ok (.iload_n 2, 1) := by decide +kernel
theorem d_VT_insert_69 : decode b_VT_insert 69 = .ok (.ifCond .eq 9, 3) := by decide +kernel
theorem d_VT_insert_72 : decode b_VT_insert 72 = .ok (.iload_n 1, 1) := by decide +kernel
theorem d_VT_insert_73 : decode b_VT_insert 73 = .ok (.iconst 1, 1) := by decide +kernel
theorem d_VT_insert_74 : decode b_VT_insert 74 = .ok (.iadd, 1) := by decide +kernel
theorem d_VT_insert_75 : decode b_VT_insert 75 = .ok (.goto 4, 3) := by decide +kernel
theorem d_VT_insert_78 : decode b_VT_insert 78 = .ok (.iconst (-1), 1) := by decide +kernel
theorem d_VT_insert_79 : decode b_VT_insert 79 = .ok (.putfield 60, 3) := by decide +kernel
theorem d_VT_insert_82 : decode b_VT_insert 82 = .ok (.iconst 1, 1) := by decide +kernel
theorem d_VT_insert_83 : decode b_VT_insert 83 = .ok (.ireturn, 1) := by decide +kernel
theorem d_VT_remove_0 : decode b_VT_remove 0 = .ok (.iload_n 1, 1) := by decide +kernel
theorem d_VT_remove_1 : decode b_VT_remove 1 = .ok (.iload_n 2, 1) := by decide +kernel
theorem d_VT_remove_2 : decode b_VT_remove 2 = .ok (.if_icmp .eq 12, 3) := by decide +kernel
theorem d_VT_remove_5 : decode b_VT_remove 5 = .ok (.aload_n 0, 1) := by decide +kernel
theorem d_VT_remove_6 : decode b_VT_remove 6 = .ok (.iload_n 1, 1) := by decide +kernel
theorem d_VT_remove_7 : decode b_VT_remove 7 = .ok (.iload_n 2, 1) := by decide +kernel
theorem d_VT_remove_8 : decode b_VT_remove 8 = .ok (.invokevirtual 94, 3) := by decide +kernel
theorem d_VT_remove_11 : decode b_VT_remove 11 = .ok (.ifCond .ne 5, 3) := by decide +kernel
theorem d_VT_remove_14 : decode b_VT_remove 14 = .ok (.iconst 0, 1) := by decide +kernel
theorem d_VT_remove_15 : decode b_VT_remove 15 = .ok (.ireturn, 1) := by decide +kernel
theorem d_VT_remove_16 : decode b_VT_remove 16 = .ok (.aload_n 0, 1) := by decide +kernel
theorem d_VT_remove_17 : decode b_VT_remove 17 = .ok (.getfield 14, 3) := by decide +kernel
theorem d_VT_remove_20 : decode b_VT_remove 20 = .ok (.iload_n 1, 1) := by decide +kernel
theorem d_VT_remove_21 : decode b_VT_remove 21 = .ok (.iload_n 2, 1) := by decide +kernel
theorem d_VT_remove_22 : decode b_VT_remove 22 = .ok (.invokeinterface 97 3, 5) := by decide +kernel
theorem d_VT_remove_27 : decode b_VT_remove 27 = .ok (.aload_n 0, 1) := by decide +kernel
theorem d_VT_remove_28 : decode b_VT_remove 28 = .ok (.invokevirtual 98, 3) := by decide +kernel
theorem d_VT_remove_31 : decode b_VT_remove 31 = .ok (.iconst 1, 1) := by decide +kernel
theorem d_VT_remove_32 : decode b_VT_remove 32 = .ok (.ireturn, 1) := by decide +kernel
theorem d_VT_replace_0 : decode b_VT_replace 0 = .ok (.aload_n 0, 1) := by decide +kernel
theorem d_VT_replace_1 : decode b_VT_replace 1 = .ok (.iload_n 1, 1) := by decide +kernel
theorem d_VT_replace_2 : decode b_VT_replace 2 = .ok (.iload_n 2, 1) := by decide +kernel
theorem d_VT_replace_3 : decode b_VT_replace 3 = .ok (.invokevirtual 75, 3) := by decide +kernel
theorem d_VT_replace_6 : decode b_VT_replace 6 = .ok (.ifCond .ne 5, 3) := by decide +kernel
theorem d_VT_replace_9 : decode b_VT_replace 9 = .ok (.iconst 0, 1) := by decide +kernel
theorem d_VT_replace_10 : decode b_VT_replace 10 = .ok (.ireturn, 1) := by decide +kernel
theorem d_VT_replace_11 : decode b_VT_replace 11 = .ok (.aload_n 0, 1) := by decide +kernel
theorem d_VT_replace_12 : decode b_VT_replace 12 = .ok (.getfield 14, 3) := by decide +kernel
theorem d_VT_replace_15 : decode b_VT_replace 15 = .ok (.iload_n 1, 1) := by decide +kernel
theorem d_VT_replace_16 : decode b_VT_replace 16 = .ok (.iload_n 2, 1) := by decide +kernel
theorem d_VT_replace_17 : decode b_VT_replace 17 = .ok (.invokeinterface 97 3, 5) := by decide +kernel
theorem d_VT_replace_22 : decode b_VT_replace 22 = .ok (.aload_n 0, 1) := by decide +kernel
theorem d_VT_replace_23 : decode b_VT_replace 23 = .ok (.getfield 14, 3) := by decide +kernel
theorem d_VT_replace_26 : decode b_VT_replace 26 = .ok (.iload_n 1, 1) := by decide +kernel
theorem d_VT_replace_27 : decode b_VT_replace 27 = .ok (.aload_n 0, 1) := by decide +kernel
theorem d_VT_replace_28 : decode b_VT_replace 28 = .ok (.getfield 21, 3) := by decide +kernel
theorem d_VT_replace_31 : decode b_VT_replace 31 = .ok (.invokeinterface 79 3, 5) := by decide +kernel
theorem d_VT_replace_36 : decode b_VT_replace 36 = .ok (.aload_n 0, 1) := by decide +kernel
theorem d_VT_replace_37 : decode b_VT_replace 37 = .ok (.invokevirtual 98, 3) := by decide +kernel
theorem d_VT_replace_40 : decode b_VT_replace 40 = .ok (.iconst 1, 1) := by decide +kernel
theorem d_VT_replace_41 : decode b_VT_replace 41 = .ok (.ireturn, 1) := by decide +kernel
theorem d_VT_undo_0 : decode b_VT_undo 0 = .ok (.aload_n 0, 1) := by decide +kernel
theorem d_VT_undo_1 : decode b_VT_undo 1 = .ok (.getfield 38, 3) := by decide +kernel
theorem d_VT_undo_4 : decode b_VT_undo 4 = .ok (.invokevirtual 101, 3) := by decide +kernel
theorem d_VT_undo_7 : decode b_VT_undo 7 = .ok (.ifCond .ne 5, 3) := by decide +kernel
theorem d_VT_undo_10 : decode b_VT_undo 10 = .ok (.iconst 0, 1) := by decide +kernel
theorem d_VT_undo_11 : decode b_VT_undo 11 = .ok (.ireturn, 1) := by decide +kernel
theorem d_VT_undo_12 : decode b_VT_undo 12 = .ok (.aload_n 0, 1) := by decide +kernel
theorem d_VT_undo_13 : decode b_VT_undo 13 = .ok (.getfield 38, 3) := by decide +kernel
theorem d_VT_undo_16 : decode b_VT_undo 16 = .ok (.aload_n 0, 1) := by decide +kernel
theorem d_VT_undo_17 : decode b_VT_undo 17 = .ok (.getfield 14, 3) := by decide +kernel
theorem d_VT_undo_20 : decode b_VT_undo 20 = .ok (.invokevirtual 104, 3) := by decide +kernel
theorem d_VT_undo_23 : decode b_VT_undo 23 = .ok (.aload_n 0, 1) := by decide +kernel
theorem d_VT_undo_24 : decode b_VT_undo 24 = .ok (.iconst (-1), 1) := by decide +kernel
theorem d_VT_undo_25 : decode b_VT_undo 25 = .ok (.putfield 60, 3) := by decide +kernel
theorem d_VT_undo_28 : decode b_VT_undo 28 = .ok (.iconst 1, 1) := by decide +kernel
theorem d_VT_undo_29 : decode b_VT_undo 29 = .ok (.ireturn, 1) := by decide +kernel
theorem d_VT_redo_0 : decode b_VT_redo 0 = .ok (.aload_n 0, 1) := by decide +kernel
theorem d_VT_redo_1 : decode b_VT_redo 1 = .ok (.getfield 38, 3) := by decide +kernel
theorem d_VT_redo_4 : decode b_VT_redo 4 = .ok (.invokevirtual 107, 3) := by decide +kernel
theorem d_VT_redo_7 : decode b_VT_redo 7 = .ok (.ifCond .ne 5, 3) := by decide +kernel
theorem d_VT_redo_10 : decode b_VT_redo 10 = .ok (.iconst 0, 1) := by decide +kernel
theorem d_VT_redo_11 : decode b_VT_redo 11 = .ok (.ireturn, 1) := by decide +kernel
theorem d_VT_redo_12 : decode b_VT_redo 12 = .ok (.aload_n 0, 1) := by decide +kernel
theorem d_VT_redo_13 : decode b_VT_redo 13 = .ok (.getfield 38, 3) := by decide +kernel
theorem d_VT_redo_16 : decode b_VT_redo 16 = .ok (.aload_n 0, 1) := by decide +kernel
theorem d_VT_redo_17 : decode b_VT_redo 17 = .ok (.getfield 14, 3) := by decide +kernel
theorem d_VT_redo_20 : decode b_VT_redo 20 = .ok (.invokevirtual 110, 3) := by decide +kernel
theorem d_VT_redo_23 : decode b_VT_redo 23 = .ok (.aload_n 0, 1) := by decide +kernel
theorem d_VT_redo_24 : decode b_VT_redo 24 = .ok (.iconst (-1), 1) := by decide +kernel
theorem d_VT_redo_25 : decode b_VT_redo 25 = .ok (.putfield 60, 3) := by decide +kernel
theorem d_VT_redo_28 : decode b_VT_redo 28 = .ok (.iconst 1, 1) := by decide +kernel
theorem d_VT_redo_29 : decode b_VT_redo 29 = .ok (.ireturn, 1) := by decide +kernel
theorem d_VT_steps_0 : decode b_VT_steps 0 = .ok (.iload_n 1, 1) := by decide +kernel
theorem d_VT_steps_1 : decode b_VT_steps 1 = .ok (.lookupswitch 43 #[(0, 27), (1, 35)], 27) := by decide +kernel
theorem d_VT_steps_28 : decode b_VT_steps 28 = .ok (.aload_n 0, 1) := by decide +kernel
theorem d_VT_steps_29 : decode b_VT_steps 29 = .ok (.getfield 38, 3) := by decide +kernel
theorem d_VT_steps_32 : decode b_VT_steps 32 = .ok (.invokevirtual 101, 3) := by decide +kernel
theorem d_VT_steps_35 : decode b_VT_steps 35 = .ok (.ireturn, 1) := by decide +kernel
theorem d_VT_steps_36 : decode b_VT_steps 36 = .ok (.aload_n 0, 1) := by decide +kernel
theorem d_VT_steps_37 : decode b_VT_steps 37 = .ok (.getfield 38, 3) := by decide +kernel
theorem d_VT_steps_40 : decode b_VT_steps 40 = .ok (.invokevirtual 107, 3) := by decide +kernel
theorem d_VT_steps_43 : decode b_VT_steps 43 = .ok (.ireturn, 1) := by decide +kernel
theorem d_VT_steps_44 : decode b_VT_steps 44 = .ok (.iconst (-1), 1) := by decide +kernel
theorem d_VT_steps_45 : decode b_VT_steps 45 = .ok (.ireturn, 1) := by decide +kernel
theorem d_VT_seal_0 : decode b_VT_seal 0 = .ok (.aload_n 0, 1) := by decide +kernel
theorem d_VT_seal_1 : decode b_VT_seal 1 = .ok (.iconst (-1), 1) := by decide +kernel
theorem d_VT_seal_2 : decode b_VT_seal 2 = .ok (.putfield 60, 3) := by decide +kernel
theorem d_VT_seal_5 : decode b_VT_seal 5 = .ok (.return_, 1) := by decide +kernel
theorem d_VT_guard_0 : decode b_VT_guard 0 = .ok (.iload_n 1, 1) := by decide +kernel
theorem d_VT_guard_1 : decode b_VT_guard 1 = .ok (.ifCond .eq 15, 3) := by decide +kernel
theorem d_VT_guard_4 : decode b_VT_guard 4 = .ok (.iload_n 1, 1) := by decide +kernel
theorem d_VT_guard_5 : decode b_VT_guard 5 = .ok (.iconst 1, 1) := by decide +kernel
theorem d_VT_guard_6 : decode b_VT_guard 6 = .ok (.if_icmp .eq 10, 3) := by decide +kernel
theorem d_VT_guard_9 : decode b_VT_guard 9 = .ok (.iload_n 1, 1) := by decide +kernel
theorem d_VT_guard_10 : decode b_VT_guard 10 = .ok (.iconst 3, 1) := by decide +kernel
theorem d_VT_guard_11 : decode b_VT_guard 11 = .ok (.if_icmp .eq 5, 3) := by decide +kernel
theorem d_VT_guard_14 : decode b_VT_guard 14 = .ok (.iconst 0, 1) := by decide +kernel
theorem d_VT_guard_15 : decode b_VT_guard 15 = .ok (.ireturn, 1) := by decide +kernel
theorem d_VT_guard_16 : decode b_VT_guard 16 = .ok (.aload_n 0, 1) := by decide +kernel
theorem d_VT_guard_17 : decode b_VT_guard 17 = .ok (.iload_n 1, 1) := by decide +kernel
theorem d_VT_guard_18 : decode b_VT_guard 18 = .ok (.putfield 56, 3) := by decide +kernel
theorem d_VT_guard_21 : decode b_VT_guard 21 = .ok (.aload_n 0, 1) := by decide +kernel
theorem d_VT_guard_22 : decode b_VT_guard 22 = .ok (.iconst (-1), 1) := by decide +kernel
theorem d_VT_guard_23 : decode b_VT_guard 23 = .ok (.putfield 60, 3) := by decide +kernel
theorem d_VT_guard_26 : decode b_VT_guard 26 = .ok (.iconst 1, 1) := by decide +kernel
theorem d_VT_guard_27 : decode b_VT_guard 27 = .ok (.ireturn, 1) := by decide +kernel
theorem d_VT_snapshot_0 : decode b_VT_snapshot 0 = .ok (.iconst 1, 1) := by decide +kernel
theorem d_VT_snapshot_1 : decode b_VT_snapshot 1 = .ok (.istore_n 1, 1) := by decide +kernel
theorem d_VT_snapshot_2 : decode b_VT_snapshot 2 = .ok (.iload_n 1, 1) := by decide +kernel
theorem d_VT_snapshot_3 : decode b_VT_snapshot 3 = .ok (.iconst 4, 1) := by decide +kernel
theorem d_VT_snapshot_4 : decode b_VT_snapshot 4 = .ok (.if_icmp .gt 42, 3) := by decide +kernel
theorem d_VT_snapshot_7 : decode b_VT_snapshot 7 = .ok (.aload_n 0, 1) := by decide +kernel
theorem d_VT_snapshot_8 : decode b_VT_snapshot 8 = .ok (.getfield 31, 3) := by decide +kernel
theorem d_VT_snapshot_11 : decode b_VT_snapshot 11 = .ok (.iload_n 1, 1) := by decide +kernel
theorem d_VT_snapshot_12 : decode b_VT_snapshot 12 = .ok (.baload, 1) := by decide +kernel
theorem d_VT_snapshot_13 : decode b_VT_snapshot 13 = .ok (.ifCond .ne 27, 3) := by decide +kernel
theorem d_VT_snapshot_16 : decode b_VT_snapshot 16 = .ok (.aload_n 0, 1) := by decide +kernel
theorem d_VT_snapshot_17 : decode b_VT_snapshot 17 = .ok (.getfield 27, 3) := by decide +kernel
theorem d_VT_snapshot_20 : decode b_VT_snapshot 20 = .ok (.iload_n 1, 1) := by decide +kernel
theorem d_VT_snapshot_21 : decode b_VT_snapshot 21 = .ok (.aaload, 1) := by decide +kernel
theorem d_VT_snapshot_22 : decode b_VT_snapshot 22 = .ok (.aload_n 0, 1) := by decide +kernel
theorem d_VT_snapshot_23 : decode b_VT_snapshot 23 = .ok (.getfield 14, 3) := by decide +kernel
theorem d_VT_snapshot_26 : decode b_VT_snapshot 26 = .ok (.invokeinterface 113 2, 5) := by decide +kernel
theorem d_VT_snapshot_31 : decode b_VT_snapshot 31 = .ok (.aload_n 0, 1) := by decide +kernel
theorem d_VT_snapshot_32 : decode b_VT_snapshot 32 = .ok (.getfield 31, 3) := by decide +kernel
theorem d_VT_snapshot_35 : decode b_VT_snapshot 35 = .ok (.iload_n 1, 1) := by decide +kernel
theorem d_VT_snapshot_36 : decode b_VT_snapshot 36 = .ok (.iconst 1, 1) := by decide +kernel
theorem d_VT_snapshot_37 : decode b_VT_snapshot 37 = .ok (.bastore, 1) := by decide +kernel
theorem d_VT_snapshot_38 : decode b_VT_snapshot 38 = .ok (.iload_n 1, 1) := by decide +kernel
theorem d_VT_snapshot_39 : decode b_VT_snapshot 39 = .ok (.ireturn, 1) := by decide +kernel
theorem d_VT_snapshot_40 : decode b_VT_snapshot 40 = .ok (.iinc 1 1, 3) := by decide +kernel
theorem d_VT_snapshot_43 : decode b_VT_snapshot 43 = .ok (.goto (-41), 3) := by decide +kernel
theorem d_VT_snapshot_46 : decode b_VT_snapshot 46 = .ok (.iconst (-1), 1) := by decide +kernel
theorem d_VT_snapshot_47 : decode b_VT_snapshot 47 = .ok (.ireturn, 1) := by decide +kernel
theorem d_VT_release_0 : decode b_VT_release 0 = .ok (.iload_n 1, 1) := by decide +kernel
theorem d_VT_release_1 : decode b_VT_release 1 = .ok (.ifCond .eq 11, 3) := by decide +kernel
theorem d_VT_release_4 : decode b_VT_release 4 = .ok (.aload_n 0, 1) := by decide +kernel
theorem d_VT_release_5 : decode b_VT_release 5 = .ok (.iload_n 1, 1) := by decide +kernel
theorem d_VT_release_6 : decode b_VT_release 6 = .ok (.invokevirtual 116, 3) := by decide +kernel
theorem d_VT_release_9 : decode b_VT_release 9 = .ok (.ifCond .ne 5, 3) := by decide +kernel
theorem d_VT_release_12 : decode b_VT_release 12 = .ok (.iconst 0, 1) := by decide +kernel
theorem d_VT_release_13 : decode b_VT_release 13 = .ok (.ireturn, 1) := by decide +kernel
theorem d_VT_release_14 : decode b_VT_release 14 = .ok (.aload_n 0, 1) := by decide +kernel
theorem d_VT_release_15 : decode b_VT_release 15 = .ok (.getfield 31, 3) := by decide +kernel
theorem d_VT_release_18 : decode b_VT_release 18 = .ok (.iload_n 1, 1) := by decide +kernel
theorem d_VT_release_19 : decode b_VT_release 19 = .ok (.iconst 0, 1) := by decide +kernel
theorem d_VT_release_20 : decode b_VT_release 20 = .ok (.bastore, 1) := by decide +kernel
theorem d_VT_release_21 : decode b_VT_release 21 = .ok (.iconst 1, 1) := by decide +kernel
theorem d_VT_release_22 : decode b_VT_release 22 = .ok (.ireturn, 1) := by decide +kernel
theorem d_VT_unit_0 : decode b_VT_unit 0 = .ok (.aload_n 0, 1) := by decide +kernel
theorem d_VT_unit_1 : decode b_VT_unit 1 = .ok (.iload_n 1, 1) := by decide +kernel
theorem d_VT_unit_2 : decode b_VT_unit 2 = .ok (.invokevirtual 116, 3) := by decide +kernel
theorem d_VT_unit_5 : decode b_VT_unit 5 = .ok (.ifCond .eq 18, 3) := by decide +kernel
theorem d_VT_unit_8 : decode b_VT_unit 8 = .ok (.aload_n 0, 1) := by decide +kernel
theorem d_VT_unit_9 : decode b_VT_unit 9 = .ok (.getfield 27, 3) := by decide +kernel
theorem d_VT_unit_12 : decode b_VT_unit 12 = .ok (.iload_n 1, 1) := by decide +kernel
theorem d_VT_unit_13 : decode b_VT_unit 13 = .ok (.aaload, 1) := by decide +kernel
theorem d_VT_unit_14 : decode b_VT_unit 14 = .ok (.iload_n 2, 1) := by decide +kernel
theorem d_VT_unit_15 : decode b_VT_unit 15 = .ok (.invokeinterface 120 2, 5) := by decide +kernel
theorem d_VT_unit_20 : decode b_VT_unit 20 = .ok (.goto 4, 3) := by decide +kernel
theorem d_VT_unit_23 : decode b_VT_unit 23 = .ok (.iconst (-1), 1) := by decide +kernel
theorem d_VT_unit_24 : decode b_VT_unit 24 = .ok (.ireturn, 1) := by decide +kernel
theorem d_VT_count_0 : decode b_VT_count 0 = .ok (.aload_n 0, 1) := by decide +kernel
theorem d_VT_count_1 : decode b_VT_count 1 = .ok (.iload_n 1, 1) := by decide +kernel
theorem d_VT_count_2 : decode b_VT_count 2 = .ok (.invokevirtual 116, 3) := by decide +kernel
theorem d_VT_count_5 : decode b_VT_count 5 = .ok (.ifCond .eq 10, 3) := by decide +kernel
theorem d_VT_count_8 : decode b_VT_count 8 = .ok (.iload_n 2, 1) := by decide +kernel
theorem d_VT_count_9 : decode b_VT_count 9 = .ok (.invokestatic 124, 3) := by decide +kernel
theorem d_VT_count_12 : decode b_VT_count 12 = .ok (.ifCond .ne 5, 3) := by decide +kernel
theorem d_VT_count_15 : decode b_VT_count 15 = .ok (.iconst (-1), 1) := by decide +kernel
theorem d_VT_count_16 : decode b_VT_count 16 = .ok (.ireturn, 1) := by decide +kernel
theorem d_VT_count_17 : decode b_VT_count 17 = .ok (.aload_n 0, 1) := by decide +kernel
theorem d_VT_count_18 : decode b_VT_count 18 = .ok (.getfield 45, 3) := by decide +kernel
theorem d_VT_count_21 : decode b_VT_count 21 = .ok (.aload_n 0, 1) := by decide +kernel
theorem d_VT_count_22 : decode b_VT_count 22 = .ok (.getfield 27, 3) := by decide +kernel
theorem d_VT_count_25 : decode b_VT_count 25 = .ok (.iload_n 1, 1) := by decide +kernel
theorem d_VT_count_26 : decode b_VT_count 26 = .ok (.aaload, 1) := by decide +kernel
theorem d_VT_count_27 : decode b_VT_count 27 = .ok (.iload_n 2, 1) := by decide +kernel
theorem d_VT_count_28 : decode b_VT_count 28 = .ok (.invokevirtual 127, 3) := by decide +kernel
theorem d_VT_count_31 : decode b_VT_count 31 = .ok (.aload_n 0, 1) := by decide +kernel
theorem d_VT_count_32 : decode b_VT_count 32 = .ok (.getfield 45, 3) := by decide +kernel
theorem d_VT_count_35 : decode b_VT_count 35 = .ok (.invokevirtual 131, 3) := by decide +kernel
theorem d_VT_count_38 : decode b_VT_count 38 = .ok (.ireturn, 1) := by decide +kernel
theorem d_VT_place_0 : decode b_VT_place 0 = .ok (.aload_n 0, 1) := by decide +kernel
theorem d_VT_place_1 : decode b_VT_place 1 = .ok (.iload_n 1, 1) := by decide +kernel
theorem d_VT_place_2 : decode b_VT_place 2 = .ok (.invokevirtual 116, 3) := by decide +kernel
theorem d_VT_place_5 : decode b_VT_place 5 = .ok (.ifCond .eq 10, 3) := by decide +kernel
theorem d_VT_place_8 : decode b_VT_place 8 = .ok (.iload_n 2, 1) := by decide +kernel
theorem d_VT_place_9 : decode b_VT_place 9 = .ok (.invokestatic 124, 3) := by decide +kernel
theorem d_VT_place_12 : decode b_VT_place 12 = .ok (.ifCond .ne 5, 3) := by decide +kernel
theorem d_VT_place_15 : decode b_VT_place 15 = .ok (.iconst (-1), 1) := by decide +kernel
theorem d_VT_place_16 : decode b_VT_place 16 = .ok (.ireturn, 1) := by decide +kernel
theorem d_VT_place_17 : decode b_VT_place 17 = .ok (.aload_n 0, 1) := by decide +kernel
theorem d_VT_place_18 : decode b_VT_place 18 = .ok (.getfield 45, 3) := by decide +kernel
theorem d_VT_place_21 : decode b_VT_place 21 = .ok (.aload_n 0, 1) := by decide +kernel
theorem d_VT_place_22 : decode b_VT_place 22 = .ok (.getfield 27, 3) := by decide +kernel
theorem d_VT_place_25 : decode b_VT_place 25 = .ok (.iload_n 1, 1) := by decide +kernel
theorem d_VT_place_26 : decode b_VT_place 26 = .ok (.aaload, 1) := by decide +kernel
theorem d_VT_place_27 : decode b_VT_place 27 = .ok (.iload_n 2, 1) := by decide +kernel
theorem d_VT_place_28 : decode b_VT_place 28 = .ok (.invokevirtual 127, 3) := by decide +kernel
theorem d_VT_place_31 : decode b_VT_place 31 = .ok (.aload_n 0, 1) := by decide +kernel
theorem d_VT_place_32 : decode b_VT_place 32 = .ok (.getfield 45, 3) := by decide +kernel
theorem d_VT_place_35 : decode b_VT_place 35 = .ok (.iload_n 3, 1) := by decide +kernel
theorem d_VT_place_36 : decode b_VT_place 36 = .ok (.invokevirtual 134, 3) := by decide +kernel
theorem d_VT_place_39 : decode b_VT_place 39 = .ok (.ireturn, 1) := by decide +kernel
theorem d_VT_item_0 : decode b_VT_item 0 = .ok (.aload_n 0, 1) := by decide +kernel
theorem d_VT_item_1 : decode b_VT_item 1 = .ok (.iload_n 1, 1) := by decide +kernel
theorem d_VT_item_2 : decode b_VT_item 2 = .ok (.invokevirtual 116, 3) := by decide +kernel
theorem d_VT_item_5 : decode b_VT_item 5 = .ok (.ifCond .eq 23, 3) := by decide +kernel
theorem d_VT_item_8 : decode b_VT_item 8 = .ok (.iload_n 2, 1) := by decide +kernel
theorem d_VT_item_9 : decode b_VT_item 9 = .ok (.invokestatic 124, 3) := by decide +kernel
theorem d_VT_item_12 : decode b_VT_item 12 = .ok (.ifCond .eq 16, 3) := by decide +kernel
theorem d_VT_item_15 : decode b_VT_item 15 = .ok (.aload_n 0, 1) := by decide +kernel
theorem d_VT_item_16 : decode b_VT_item 16 = .ok (.getfield 27, 3) := by decide +kernel
theorem d_VT_item_19 : decode b_VT_item 19 = .ok (.iload_n 1, 1) := by decide +kernel
theorem d_VT_item_20 : decode b_VT_item 20 = .ok (.aaload, 1) := by decide +kernel
theorem d_VT_item_21 : decode b_VT_item 21 = .ok (.iload_n 3, 1) := by decide +kernel
theorem d_VT_item_22 : decode b_VT_item 22 = .ok (.invokestatic 137, 3) := by decide +kernel
theorem d_VT_item_25 : decode b_VT_item 25 = .ok (.ifCond .ne 5, 3) := by decide +kernel
theorem d_VT_item_28 : decode b_VT_item 28 = .ok (.iconst (-1), 1) := by decide +kernel
theorem d_VT_item_29 : decode b_VT_item 29 = .ok (.ireturn, 1) := by decide +kernel
theorem d_VT_item_30 : decode b_VT_item 30 = .ok (.aload_n 0, 1) := by decide +kernel
theorem d_VT_item_31 : decode b_VT_item 31 = .ok (.getfield 45, 3) := by decide +kernel
theorem d_VT_item_34 : decode b_VT_item 34 = .ok (.aload_n 0, 1) := by decide +kernel
theorem d_VT_item_35 : decode b_VT_item 35 = .ok (.getfield 27, 3) := by decide +kernel
theorem d_VT_item_38 : decode b_VT_item 38 = .ok (.iload_n 1, 1) := by decide +kernel
theorem d_VT_item_39 : decode b_VT_item 39 = .ok (.aaload, 1) := by decide +kernel
theorem d_VT_item_40 : decode b_VT_item 40 = .ok (.iload_n 2, 1) := by decide +kernel
theorem d_VT_item_41 : decode b_VT_item 41 = .ok (.invokevirtual 127, 3) := by decide +kernel
theorem d_VT_item_44 : decode b_VT_item 44 = .ok (.aload_n 0, 1) := by decide +kernel
theorem d_VT_item_45 : decode b_VT_item 45 = .ok (.getfield 45, 3) := by decide +kernel
theorem d_VT_item_48 : decode b_VT_item 48 = .ok (.iload_n 3, 1) := by decide +kernel
theorem d_VT_item_49 : decode b_VT_item 49 = .ok (.invokevirtual 141, 3) := by decide +kernel
theorem d_VT_item_52 : decode b_VT_item 52 = .ok (.ireturn, 1) := by decide +kernel
theorem d_VT_same_0 : decode b_VT_same 0 = .ok (.aload_n 0, 1) := by decide +kernel
theorem d_VT_same_1 : decode b_VT_same 1 = .ok (.iload_n 1, 1) := by decide +kernel
theorem d_VT_same_2 : decode b_VT_same 2 = .ok (.invokevirtual 116, 3) := by decide +kernel
theorem d_VT_same_5 : decode b_VT_same 5 = .ok (.ifCond .eq 33, 3) := by decide +kernel
theorem d_VT_same_8 : decode b_VT_same 8 = .ok (.aload_n 0, 1) := by decide +kernel
theorem d_VT_same_9 : decode b_VT_same 9 = .ok (.iload_n 2, 1) := by decide +kernel
theorem d_VT_same_10 : decode b_VT_same 10 = .ok (.invokevirtual 116, 3) := by decide +kernel
theorem d_VT_same_13 : decode b_VT_same 13 = .ok (.ifCond .eq 25, 3) := by decide +kernel
theorem d_VT_same_16 : decode b_VT_same 16 = .ok (.aload_n 0, 1) := by decide +kernel
theorem d_VT_same_17 : decode b_VT_same 17 = .ok (.getfield 27, 3) := by decide +kernel
theorem d_VT_same_20 : decode b_VT_same 20 = .ok (.iload_n 1, 1) := by decide +kernel
theorem d_VT_same_21 : decode b_VT_same 21 = .ok (.aaload, 1) := by decide +kernel
theorem d_VT_same_22 : decode b_VT_same 22 = .ok (.aload_n 0, 1) := by decide +kernel
theorem d_VT_same_23 : decode b_VT_same 23 = .ok (.getfield 27, 3) := by decide +kernel
theorem d_VT_same_26 : decode b_VT_same 26 = .ok (.iload_n 2, 1) := by decide +kernel
theorem d_VT_same_27 : decode b_VT_same 27 = .ok (.aaload, 1) := by decide +kernel
theorem d_VT_same_28 : decode b_VT_same 28 = .ok (.invokestatic 144, 3) := by decide +kernel
theorem d_VT_same_31 : decode b_VT_same 31 = .ok (.ifCond .eq 7, 3) := by decide +kernel
theorem d_VT_same_34 : decode b_VT_same 34 = .ok (.iconst 1, 1) := by decide +kernel
theorem d_VT_same_35 : decode b_VT_same 35 = .ok (.goto 4, 3) := by decide +kernel
theorem d_VT_same_38 : decode b_VT_same 38 = .ok (.iconst 0, 1) := by decide +kernel
theorem d_VT_same_39 : decode b_VT_same 39 = .ok (.ireturn, 1) := by decide +kernel
theorem d_VT_find_0 : decode b_VT_find 0 = .ok (.aload_n 0, 1) := by decide +kernel
theorem d_VT_find_1 : decode b_VT_find 1 = .ok (.iload_n 1, 1) := by decide +kernel
theorem d_VT_find_2 : decode b_VT_find 2 = .ok (.invokevirtual 116, 3) := by decide +kernel
theorem d_VT_find_5 : decode b_VT_find 5 = .ok (.ifCond .eq 16, 3) := by decide +kernel
theorem d_VT_find_8 : decode b_VT_find 8 = .ok (.aload_n 0, 1) := by decide +kernel
theorem d_VT_find_9 : decode b_VT_find 9 = .ok (.getfield 27, 3) := by decide +kernel
theorem d_VT_find_12 : decode b_VT_find 12 = .ok (.iload_n 1, 1) := by decide +kernel
theorem d_VT_find_13 : decode b_VT_find 13 = .ok (.aaload, 1) := by decide +kernel
theorem d_VT_find_14 : decode b_VT_find 14 = .ok (.iload_n 2, 1) := by decide +kernel
theorem d_VT_find_15 : decode b_VT_find 15 = .ok (.invokestatic 137, 3) := by decide +kernel
theorem d_VT_find_18 : decode b_VT_find 18 = .ok (.ifCond .ne 5, 3) := by decide +kernel
theorem d_VT_find_21 : decode b_VT_find 21 = .ok (.iconst (-1), 1) := by decide +kernel
theorem d_VT_find_22 : decode b_VT_find 22 = .ok (.ireturn, 1) := by decide +kernel
theorem d_VT_find_23 : decode b_VT_find 23 = .ok (.aload_n 0, 1) := by decide +kernel
theorem d_VT_find_24 : decode b_VT_find 24 = .ok (.getfield 52, 3) := by decide +kernel
theorem d_VT_find_27 : decode b_VT_find 27 = .ok (.aload_n 0, 1) := by decide +kernel
theorem d_VT_find_28 : decode b_VT_find 28 = .ok (.getfield 21, 3) := by decide +kernel
theorem d_VT_find_31 : decode b_VT_find 31 = .ok (.invokevirtual 148, 3) := by decide +kernel
theorem d_VT_find_34 : decode b_VT_find 34 = .ok (.ifCond .eq 20, 3) := by decide +kernel
theorem d_VT_find_37 : decode b_VT_find 37 = .ok (.aload_n 0, 1) := by decide +kernel
theorem d_VT_find_38 : decode b_VT_find 38 = .ok (.getfield 52, 3) := by decide +kernel
theorem d_VT_find_41 : decode b_VT_find 41 = .ok (.aload_n 0, 1) := by decide +kernel
theorem d_VT_find_42 : decode b_VT_find 42 = .ok (.getfield 27, 3) := by decide +kernel
theorem d_VT_find_45 : decode b_VT_find 45 = .ok (.iload_n 1, 1) := by decide +kernel
theorem d_VT_find_46 : decode b_VT_find 46 = .ok (.aaload, 1) := by decide +kernel
theorem d_VT_find_47 : decode b_VT_find 47 = .ok (.iload_n 2, 1) := by decide +kernel
theorem d_VT_find_48 : decode b_VT_find 48 = .ok (.invokevirtual 152, 3) := by decide +kernel
theorem d_VT_find_51 : decode b_VT_find 51 = .ok (.goto 4, 3) := by decide +kernel
theorem d_VT_find_54 : decode b_VT_find 54 = .ok (.iconst (-1), 1) := by decide +kernel
theorem d_VT_find_55 : decode b_VT_find 55 = .ok (.ireturn, 1) := by decide +kernel
theorem d_VT_end_0 : decode b_VT_end 0 = .ok (.aload_n 0, 1) := by decide +kernel
theorem d_VT_end_1 : decode b_VT_end 1 = .ok (.getfield 52, 3) := by decide +kernel
theorem d_VT_end_4 : decode b_VT_end 4 = .ok (.invokevirtual 156, 3) := by decide +kernel
theorem d_VT_end_7 : decode b_VT_end 7 = .ok (.ireturn, 1) := by decide +kernel
theorem d_VT_isVersion_0 : decode b_VT_isVersion 0 = .ok (.iload_n 1, 1) := by decide +kernel
theorem d_VT_isVersion_1 : decode b_VT_isVersion 1 = .ok (.ifCond .lt 21, 3) := by decide +kernel
theorem d_VT_isVersion_4 : decode b_VT_isVersion 4 = .ok (.iload_n 1, 1) := by decide +kernel
theorem d_VT_isVersion_5 : decode b_VT_isVersion 5 = .ok (.iconst 4, 1) := by decide +kernel
theorem d_VT_isVersion_6 : decode b_VT_isVersion 6 = .ok (.if_icmp .gt 16, 3) := by decide +kernel
theorem d_VT_isVersion_9 : decode b_VT_isVersion 9 = .ok (.aload_n 0, 1) := by decide +kernel
theorem d_VT_isVersion_10 : decode b_VT_isVersion 10 = .ok (.getfield 31, 3) := by decide +kernel
theorem d_VT_isVersion_13 : decode b_VT_isVersion 13 = .ok (.iload_n 1, 1) := by decide +kernel
theorem d_VT_isVersion_14 : decode b_VT_isVersion 14 = .ok (.baload, 1) := by decide +kernel
theorem d_VT_isVersion_15 : decode b_VT_isVersion 15 = .ok (.ifCond .eq 7, 3) := by decide +kernel
theorem d_VT_isVersion_18 : decode b_VT_isVersion 18 = .ok (.iconst 1, 1) := by decide +kernel
theorem d_VT_isVersion_19 : decode b_VT_isVersion 19 = .ok (.goto 4, 3) := by decide +kernel
theorem d_VT_isVersion_22 : decode b_VT_isVersion 22 = .ok (.iconst 0, 1) := by decide +kernel
theorem d_VT_isVersion_23 : decode b_VT_isVersion 23 = .ok (.ireturn, 1) := by decide +kernel
theorem d_VT_isMetric_0 : decode b_VT_isMetric 0 = .ok (.iload_n 0, 1) := by decide +kernel
theorem d_VT_isMetric_1 : decode b_VT_isMetric 1 = .ok (.ifCond .lt 12, 3) := by decide +kernel
theorem d_VT_isMetric_4 : decode b_VT_isMetric 4 = .ok (.iload_n 0, 1) := by decide +kernel
theorem d_VT_isMetric_5 : decode b_VT_isMetric 5 = .ok (.iconst 3, 1) := by decide +kernel
theorem d_VT_isMetric_6 : decode b_VT_isMetric 6 = .ok (.if_icmp .gt 7, 3) := by decide +kernel
theorem d_VT_isMetric_9 : decode b_VT_isMetric 9 = .ok (.iconst 1, 1) := by decide +kernel
theorem d_VT_isMetric_10 : decode b_VT_isMetric 10 = .ok (.goto 4, 3) := by decide +kernel
theorem d_VT_isMetric_13 : decode b_VT_isMetric 13 = .ok (.iconst 0, 1) := by decide +kernel
theorem d_VT_isMetric_14 : decode b_VT_isMetric 14 = .ok (.ireturn, 1) := by decide +kernel
theorem d_VT_isPlace_0 : decode b_VT_isPlace 0 = .ok (.iload_n 1, 1) := by decide +kernel
theorem d_VT_isPlace_1 : decode b_VT_isPlace 1 = .ok (.ifCond .lt 17, 3) := by decide +kernel
theorem d_VT_isPlace_4 : decode b_VT_isPlace 4 = .ok (.iload_n 1, 1) := by decide +kernel
theorem d_VT_isPlace_5 : decode b_VT_isPlace 5 = .ok (.aload_n 0, 1) := by decide +kernel
theorem d_VT_isPlace_6 : decode b_VT_isPlace 6 = .ok (.invokeinterface 159 1, 5) := by decide +kernel
theorem d_VT_isPlace_11 : decode b_VT_isPlace 11 = .ok (.if_icmp .gt 7, 3) := by decide +kernel
theorem d_VT_isPlace_14 : decode b_VT_isPlace 14 = .ok (.iconst 1, 1) := by decide +kernel
theorem d_VT_isPlace_15 : decode b_VT_isPlace 15 = .ok (.goto 4, 3) := by decide +kernel
theorem d_VT_isPlace_18 : decode b_VT_isPlace 18 = .ok (.iconst 0, 1) := by decide +kernel
theorem d_VT_isPlace_19 : decode b_VT_isPlace 19 = .ok (.ireturn, 1) := by decide +kernel
theorem d_VT_canTakeClip_0 : decode b_VT_canTakeClip 0 = .ok (.aload_n 0, 1) := by decide +kernel
theorem d_VT_canTakeClip_1 : decode b_VT_canTakeClip 1 = .ok (.getfield 21, 3) := by decide +kernel
theorem d_VT_canTakeClip_4 : decode b_VT_canTakeClip 4 = .ok (.invokevirtual 67, 3) := by decide +kernel
theorem d_VT_canTakeClip_7 : decode b_VT_canTakeClip 7 = .ok (.ifCond .le 43, 3) := by decide +kernel
theorem d_VT_canTakeClip_10 : decode b_VT_canTakeClip 10 = .ok (.aload_n 0, 1) := by decide +kernel
theorem d_VT_canTakeClip_11 : decode b_VT_canTakeClip 11 = .ok (.iload_n 1, 1) := by decide +kernel
theorem d_VT_canTakeClip_12 : decode b_VT_canTakeClip 12 = .ok (.iload_n 2, 1) := by decide +kernel
theorem d_VT_canTakeClip_13 : decode b_VT_canTakeClip 13 = .ok (.invokevirtual 94, 3) := by decide +kernel
theorem d_VT_canTakeClip_16 : decode b_VT_canTakeClip 16 = .ok (.ifCond .eq 34, 3) := by decide +kernel
theorem d_VT_canTakeClip_19 : decode b_VT_canTakeClip 19 = .ok (.aload_n 0, 1) := by decide +kernel
theorem d_VT_canTakeClip_20 : decode b_VT_canTakeClip 20 = .ok (.getfield 14, 3) := by decide +kernel
theorem d_VT_canTakeClip_23 : decode b_VT_canTakeClip 23 = .ok (.invokeinterface 159 1, 5) := by decide +kernel
theorem d_VT_canTakeClip_28 : decode b_VT_canTakeClip 28 = .ok (.iload_n 2, 1) := by decide +kernel
theorem d_VT_canTakeClip_29 : decode b_VT_canTakeClip 29 = .ok (.iload_n 1, 1) := by decide +kernel
theorem d_VT_canTakeClip_30 : decode b_VT_canTakeClip 30 = .ok (.isub, 1) := by decide +kernel
theorem d_VT_canTakeClip_31 : decode b_VT_canTakeClip 31 = .ok (.isub, 1) := by decide +kernel
theorem d_VT_canTakeClip_32 : decode b_VT_canTakeClip 32 = .ok (.aload_n 0, 1) := by decide +kernel
theorem d_VT_canTakeClip_33 : decode b_VT_canTakeClip 33 = .ok (.getfield 21, 3) := by decide +kernel
theorem d_VT_canTakeClip_36 : decode b_VT_canTakeClip 36 = .ok (.invokevirtual 67, 3) := by decide +kernel
theorem d_VT_canTakeClip_39 : decode b_VT_canTakeClip 39 = .ok (.iadd, 1) := by decide +kernel
theorem d_VT_canTakeClip_40 : decode b_VT_canTakeClip 40 = .ok (.sipush 160, 3) := by decide +kernel
theorem d_VT_canTakeClip_43 : decode b_VT_canTakeClip 43 = .ok (.if_icmp .gt 7, 3) := by decide +kernel
theorem d_VT_canTakeClip_46 : decode b_VT_canTakeClip 46 = .ok (.iconst 1, 1) := by decide +kernel
theorem d_VT_canTakeClip_47 : decode b_VT_canTakeClip 47 = .ok (.goto 4, 3) := by decide +kernel
theorem d_VT_canTakeClip_50 : decode b_VT_canTakeClip 50 = .ok (.iconst 0, 1) := by decide +kernel
theorem d_VT_canTakeClip_51 : decode b_VT_canTakeClip 51 = .ok (.ireturn, 1) := by decide +kernel
theorem d_VT_canEdit_0 : decode b_VT_canEdit 0 = .ok (.aload_n 0, 1) := by decide +kernel
theorem d_VT_canEdit_1 : decode b_VT_canEdit 1 = .ok (.getfield 14, 3) := by decide +kernel
theorem d_VT_canEdit_4 : decode b_VT_canEdit 4 = .ok (.iload_n 1, 1) := by decide +kernel
theorem d_VT_canEdit_5 : decode b_VT_canEdit 5 = .ok (.invokestatic 137, 3) := by decide +kernel
theorem d_VT_canEdit_8 : decode b_VT_canEdit 8 = .ok (.ifCond .eq 19, 3) := by decide +kernel
theorem d_VT_canEdit_11 : decode b_VT_canEdit 11 = .ok (.aload_n 0, 1) := by decide +kernel
theorem d_VT_canEdit_12 : decode b_VT_canEdit 12 = .ok (.getfield 14, 3) := by decide +kernel
theorem d_VT_canEdit_15 : decode b_VT_canEdit 15 = .ok (.iload_n 2, 1) := by decide +kernel
theorem d_VT_canEdit_16 : decode b_VT_canEdit 16 = .ok (.invokestatic 137, 3) := by decide +kernel
theorem d_VT_canEdit_19 : decode b_VT_canEdit 19 = .ok (.ifCond .eq 8, 3) := by decide +kernel
theorem d_VT_canEdit_22 : decode b_VT_canEdit 22 = .ok (.iload_n 1, 1) := by decide +kernel
theorem d_VT_canEdit_23 : decode b_VT_canEdit 23 = .ok (.iload_n 2, 1) := by decide +kernel
theorem d_VT_canEdit_24 : decode b_VT_canEdit 24 = .ok (.if_icmp .le 5, 3) := by decide +kernel
theorem d_VT_canEdit_27 : decode b_VT_canEdit 27 = .ok (.iconst 0, 1) := by decide +kernel
theorem d_VT_canEdit_28 : decode b_VT_canEdit 28 = .ok (.ireturn, 1) := by decide +kernel
theorem d_VT_canEdit_29 : decode b_VT_canEdit 29 = .ok (.aload_n 0, 1) := by decide +kernel
theorem d_VT_canEdit_30 : decode b_VT_canEdit 30 = .ok (.getfield 45, 3) := by decide +kernel
theorem d_VT_canEdit_33 : decode b_VT_canEdit 33 = .ok (.aload_n 0, 1) := by decide +kernel
theorem d_VT_canEdit_34 : decode b_VT_canEdit 34 = .ok (.getfield 14, 3) := by decide +kernel
theorem d_VT_canEdit_37 : decode b_VT_canEdit 37 = .ok (.aload_n 0, 1) := by decide +kernel
theorem d_VT_canEdit_38 : decode b_VT_canEdit 38 = .ok (.getfield 56, 3) := by decide +kernel
theorem d_VT_canEdit_41 : decode b_VT_canEdit 41 = .ok (.invokevirtual 127, 3) := by decide +kernel
theorem d_VT_canEdit_44 : decode b_VT_canEdit 44 = .ok (.aload_n 0, 1) := by decide +kernel
theorem d_VT_canEdit_45 : decode b_VT_canEdit 45 = .ok (.getfield 45, 3) := by decide +kernel
theorem d_VT_canEdit_48 : decode b_VT_canEdit 48 = .ok (.iload_n 1, 1) := by decide +kernel
theorem d_VT_canEdit_49 : decode b_VT_canEdit 49 = .ok (.invokevirtual 160, 3) := by decide +kernel
theorem d_VT_canEdit_52 : decode b_VT_canEdit 52 = .ok (.ifCond .ne 18, 3) := by decide +kernel
theorem d_VT_canEdit_55 : decode b_VT_canEdit 55 = .ok (.aload_n 0, 1) := by decide +kernel
theorem d_VT_canEdit_56 : decode b_VT_canEdit 56 = .ok (.getfield 45, 3) := by decide +kernel
theorem d_VT_canEdit_59 : decode b_VT_canEdit 59 = .ok (.iload_n 2, 1) := by decide +kernel
theorem d_VT_canEdit_60 : decode b_VT_canEdit 60 = .ok (.invokevirtual 160, 3) := by decide +kernel
theorem d_VT_canEdit_63 : decode b_VT_canEdit 63 = .ok (.ifCond .ne 7, 3) := by decide +kernel
theorem d_VT_canEdit_66 : decode b_VT_canEdit 66 = .ok (.iconst 1, 1) := by decide +kernel
theorem d_VT_canEdit_67 : decode b_VT_canEdit 67 = .ok (.goto 4, 3) := by decide +kernel
theorem d_VT_canEdit_70 : decode b_VT_canEdit 70 = .ok (.iconst 0, 1) := by decide +kernel
theorem d_VT_canEdit_71 : decode b_VT_canEdit 71 = .ok (.ireturn, 1) := by decide +kernel
theorem d_VT_clipIsTyping_0 : decode b_VT_clipIsTyping 0 = .ok (.aload_n 0, 1) := by decide +kernel
theorem d_VT_clipIsTyping_1 : decode b_VT_clipIsTyping 1 = .ok (.getfield 21, 3) := by decide +kernel
theorem d_VT_clipIsTyping_4 : decode b_VT_clipIsTyping 4 = .ok (.invokevirtual 67, 3) := by decide +kernel
theorem d_VT_clipIsTyping_7 : decode b_VT_clipIsTyping 7 = .ok (.iconst 1, 1) := by decide +kernel
theorem d_VT_clipIsTyping_8 : decode b_VT_clipIsTyping 8 = .ok (.if_icmp .ne 33, 3) := by decide +kernel
theorem d_VT_clipIsTyping_11 : decode b_VT_clipIsTyping 11 = .ok (.aload_n 0, 1) := by decide +kernel
theorem d_VT_clipIsTyping_12 : decode b_VT_clipIsTyping 12 = .ok (.getfield 21, 3) := by decide +kernel
theorem d_VT_clipIsTyping_15 : decode b_VT_clipIsTyping 15 = .ok (.iconst 0, 1) := by decide +kernel
theorem d_VT_clipIsTyping_16 : decode b_VT_clipIsTyping 16 = .ok (.invokevirtual 163, 3) := by decide +kernel
theorem d_VT_clipIsTyping_19 : decode b_VT_clipIsTyping 19 = .ok (.bipush 10, 2) := by decide +kernel
theorem d_VT_clipIsTyping_21 : decode b_VT_clipIsTyping 21 = .ok (.if_icmp .eq 20, 3) := by decide +kernel
theorem d_VT_clipIsTyping_24 : decode b_VT_clipIsTyping 24 = .ok (.aload_n 0, 1) := by decide +kernel
theorem d_VT_clipIsTyping_25 : decode b_VT_clipIsTyping 25 = .ok (.getfield 21, 3) := by decide +kernel
theorem d_VT_clipIsTyping_28 : decode b_VT_clipIsTyping 28 = .ok (.iconst 0, 1) := by decide +kernel
theorem d_VT_clipIsTyping_29 : decode b_VT_clipIsTyping 29 = .ok (.invokevirtual 163, 3) := by decide +kernel
theorem d_VT_clipIsTyping_32 : decode b_VT_clipIsTyping 32 = .ok (.bipush 13, 2) := by decide +kernel
theorem d_VT_clipIsTyping_34 : decode b_VT_clipIsTyping 34 = .ok (.if_icmp .eq 7, 3) := by decide +kernel
theorem d_VT_clipIsTyping_37 : decode b_VT_clipIsTyping 37 = .ok (.iconst 1, 1) := by decide +kernel
theorem d_VT_clipIsTyping_38 : decode b_VT_clipIsTyping 38 = .ok (.goto 4, 3) := by decide +kernel
theorem d_VT_clipIsTyping_41 : decode b_VT_clipIsTyping 41 = .ok (.iconst 0, 1) := by decide +kernel
theorem d_VT_clipIsTyping_42 : decode b_VT_clipIsTyping 42 = .ok (.ireturn, 1) := by decide +kernel
theorem d_VT_addClosedStep_0 : decode b_VT_addClosedStep 0 = .ok (.aload_n 0, 1) := by decide +kernel
theorem d_VT_addClosedStep_1 : decode b_VT_addClosedStep 1 = .ok (.getfield 38, 3) := by decide +kernel
theorem d_VT_addClosedStep_4 : decode b_VT_addClosedStep 4 = .ok (.aload_n 0, 1) := by decide +kernel
theorem d_VT_addClosedStep_5 : decode b_VT_addClosedStep 5 = .ok (.getfield 14, 3) := by decide +kernel
theorem d_VT_addClosedStep_8 : decode b_VT_addClosedStep 8 = .ok (.invokevirtual 91, 3) := by decide +kernel
theorem d_VT_addClosedStep_11 : decode b_VT_addClosedStep 11 = .ok (.aload_n 0, 1) := by decide +kernel
theorem d_VT_addClosedStep_12 : decode b_VT_addClosedStep 12 = .ok (.iconst (-1), 1) := by decide +kernel
theorem d_VT_addClosedStep_13 : decode b_VT_addClosedStep 13 = .ok (.putfield 60, 3) := by decide +kernel
theorem d_VT_addClosedStep_16 : decode b_VT_addClosedStep 16 = .ok (.return_, 1) := by decide +kernel
theorem d_VT_haveSameUnits_0 : decode b_VT_haveSameUnits 0 = .ok (.aload_n 0, 1) := by decide +kernel
theorem d_VT_haveSameUnits_1 : decode b_VT_haveSameUnits 1 = .ok (.invokeinterface 159 1, 5) := by decide +kernel
theorem d_VT_haveSameUnits_6 : decode b_VT_haveSameUnits 6 = .ok (.aload_n 1, 1) := by decide +kernel
theorem d_VT_haveSameUnits_7 : decode b_VT_haveSameUnits 7 = .ok (.invokeinterface 159 1, 5) := by decide +kernel
theorem d_VT_haveSameUnits_12 : decode b_VT_haveSameUnits 12 = .ok (.if_icmp .eq 5, 3) := by decide +kernel
theorem d_VT_haveSameUnits_15 : decode b_VT_haveSameUnits 15 = .ok (.iconst 0, 1) := by decide +kernel
theorem d_VT_haveSameUnits_16 : decode b_VT_haveSameUnits 16 = .ok (.ireturn, 1) := by decide +kernel
theorem d_VT_haveSameUnits_17 : decode b_VT_haveSameUnits 17 = .ok (.iconst 0, 1) := by decide +kernel
theorem d_VT_haveSameUnits_18 : decode b_VT_haveSameUnits 18 = .ok (.istore_n 2, 1) := by decide +kernel
theorem d_VT_haveSameUnits_19 : decode b_VT_haveSameUnits 19 = .ok (.iload_n 2, 1) := by decide +kernel
theorem d_VT_haveSameUnits_20 : decode b_VT_haveSameUnits 20 = .ok (.aload_n 0, 1) := by decide +kernel
theorem d_VT_haveSameUnits_21 : decode b_VT_haveSameUnits 21 = .ok (.invokeinterface 159 1, 5) := by decide +kernel
theorem d_VT_haveSameUnits_26 : decode b_VT_haveSameUnits 26 = .ok (.if_icmp .ge 28, 3) := by decide +kernel
theorem d_VT_haveSameUnits_29 : decode b_VT_haveSameUnits 29 = .ok (.aload_n 0, 1) := by decide +kernel
theorem d_VT_haveSameUnits_30 : decode b_VT_haveSameUnits 30 = .ok (.iload_n 2, 1) := by decide +kernel
theorem d_VT_haveSameUnits_31 : decode b_VT_haveSameUnits 31 = .ok (.invokeinterface 120 2, 5) := by decide +kernel
theorem d_VT_haveSameUnits_36 : decode b_VT_haveSameUnits 36 = .ok (.aload_n 1, 1) := by decide +kernel
theorem d_VT_haveSameUnits_37 : decode b_VT_haveSameUnits 37 = .ok (.iload_n 2, 1) := by decide +kernel
theorem d_VT_haveSameUnits_38 : decode b_VT_haveSameUnits 38 = .ok (.invokeinterface 120 2, 5) := by decide +kernel
theorem d_VT_haveSameUnits_43 : decode b_VT_haveSameUnits 43 = .ok (.if_icmp .eq 5, 3) := by decide +kernel
theorem d_VT_haveSameUnits_46 : decode b_VT_haveSameUnits 46 = .ok (.iconst 0, 1) := by decide +kernel
theorem d_VT_haveSameUnits_47 : decode b_VT_haveSameUnits 47 = .ok (.ireturn, 1) := by decide +kernel
theorem d_VT_haveSameUnits_48 : decode b_VT_haveSameUnits 48 = .ok (.iinc 2 1, 3) := by decide +kernel
theorem d_VT_haveSameUnits_51 : decode b_VT_haveSameUnits 51 = .ok (.goto (-32), 3) := by decide +kernel
theorem d_VT_haveSameUnits_54 : decode b_VT_haveSameUnits 54 = .ok (.iconst 1, 1) := by decide +kernel
theorem d_VT_haveSameUnits_55 : decode b_VT_haveSameUnits 55 = .ok (.ireturn, 1) := by decide +kernel
