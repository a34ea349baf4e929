theorem d_Mod_insert_45 : decode b_Mod_insert 45 = .ok (.aload_n 0, 1) := by decide +kernel
theorem d_Mod_insert_46 : decode b_Mod_insert 46 = .ok (.getfield 45, 3) := by decide +kernel
theorem d_Mod_insert_49 : decode b_Mod_insert 49 = .ok (.iconst 1, 1) := by decide +kernel
theorem d_Mod_insert_50 : decode b_Mod_insert 50 = .ok (.if_icmp .ne 29, 3) := by decide +kernel
theorem d_Mod_insert_53 : decode b_Mod_insert 53 = .ok (.aload_n 0, 1) := by decide +kernel
theorem d_Mod_insert_54 : decode b_Mod_insert 54 = .ok (.getfield 20, 3) := by decide +kernel
theorem d_Mod_insert_57 : decode b_Mod_insert 57 = .ok (.iconst 0, 1) := by decide +kernel
theorem d_Mod_insert_58 : decode b_Mod_insert 58 = .ok (.iaload, 1) := by decide +kernel
theorem d_Mod_insert_59 : decode b_Mod_insert 59 = .ok (.bipush 10, 2) := by decide +kernel
theorem d_Mod_insert_61 : decode b_Mod_insert 61 = .ok (.if_icmp .eq 18, 3) := by decide +kernel
theorem d_Mod_insert_64 : decode b_Mod_insert 64 = .ok (.aload_n 0, 1) := by decide +kernel
theorem d_Mod_insert_65 : decode b_Mod_insert 65 = .ok (.getfield 20, 3) := by decide +kernel
theorem d_Mod_insert_68 : decode b_Mod_insert 68 = .ok (.iconst 0, 1) := by decide +kernel
theorem d_Mod_insert_69 : decode b_Mod_insert 69 = .ok (.iaload, 1) := by decide +kernel
theorem d_Mod_insert_70 : decode b_Mod_insert 70 = .ok (.bipush 13, 2) := by decide +kernel
theorem d_Mod_insert_72 : decode b_Mod_insert 72 = .ok (.if_icmp .eq 7, 3) := by decide +kernel
theorem d_Mod_insert_75 : decode b_Mod_insert 75 = .ok (.iconst 1, 1) := by decide +kernel
theorem d_Mod_insert_76 : decode b_Mod_insert 76 = .ok (.goto 4, 3) := by decide +kernel
theorem d_Mod_insert_79 : decode b_Mod_insert 79 = .ok (.iconst 0, 1) := by decide +kernel
theorem d_Mod_insert_80 : decode b_Mod_insert 80 = .ok (.istore_n 2, 1) := by decide +kernel
theorem d_Mod_insert_81 : decode b_Mod_insert 81 = .ok (.aload_n 0, 1) := by decide +kernel
theorem d_Mod_insert_82 : decode b_Mod_insert 82 = .ok (.iload_n 1, 1) := by decide +kernel
theorem d_Mod_insert_83 : decode b_Mod_insert 83 = .ok (.iload_n 1, 1) := by decide +kernel
theorem d_Mod_insert_84 : decode b_Mod_insert 84 = .ok (.aload_n 0, 1) := by decide +kernel
theorem d_Mod_insert_85 : decode b_Mod_insert 85 = .ok (.getfield 45, 3) := by decide +kernel
theorem d_Mod_insert_88 : decode b_Mod_insert 88 = .ok (.invokevirtual 114, 3) := by decide +kernel
theorem d_Mod_insert_91 : decode b_Mod_insert 91 = .ok (.iload_n 2, 1) := by decide +kernel
theorem d_Mod_insert_92 : decode b_Mod_insert 92 = .ok (.ifCond .eq 22, 3) := by decide +kernel
theorem d_Mod_insert_95 : decode b_Mod_insert 95 = .ok (.aload_n 0, 1) := by decide +kernel
theorem d_Mod_insert_96 : decode b_Mod_insert 96 = .ok (.getfield 23, 3) := by decide +kernel
theorem d_Mod_insert_99 : decode b_Mod_insert 99 = .ok (.iload_n 1, 1) := by decide +kernel
theorem d_Mod_insert_100 : decode b_Mod_insert 100 = .ok (.if_icmp .ne 14, 3) := by decide +kernel
theorem d_Mod_insert_103 : decode b_Mod_insert 103 = .ok (.aload_n 0, 1) := by decide +kernel
theorem d_Mod_insert_104 : decode b_Mod_insert 104 = .ok (.aload_n 0, 1) := by decide +kernel
theorem d_Mod_insert_105 : decode b_Mod_insert 105 = .ok (.getfield 48, 3) := by decide +kernel
theorem d_Mod_insert_108 : decode b_Mod_insert 108 = .ok (.invokevirtual 105, 3) := by decide +kernel
theorem d_Mod_insert_111 : decode b_Mod_insert 111 = .ok (.goto 7, 3) := by decide +kernel
theorem d_Mod_insert_114 : decode b_Mod_insert 114 = .ok (.aload_n 0, 1) := by decide +kernel
theorem d_Mod_insert_115 : decode b_Mod_insert 115 = .ok (.invokevirtual 118, 3) := by decide +kernel
theorem d_Mod_insert_118 : decode b_Mod_insert 118 = .ok (.aload_n 0, 1) := by decide +kernel
theorem d_Mod_insert_119 : decode b_Mod_insert 119 = .ok (.iload_n 2, 1) := by decide +kernel
theorem d_Mod_insert_120 : decode b_Mod_insert 120 = .ok (.ifCond .eq 9, 3) := by decide +kernel
theorem d_Mod_insert_123 : decode b_Mod_insert 123 = .ok (.iload_n 1, 1) := by decide +kernel
theorem d_Mod_insert_124 : decode b_Mod_insert 124 = .ok (.iconst 1, 1) := by decide +kernel
theorem d_Mod_insert_125 : decode b_Mod_insert 125 = .ok (.iadd, 1) := by decide +kernel
theorem d_Mod_insert_126 : decode b_Mod_insert 126 = .ok (.goto 4, 3) := by decide +kernel
theorem d_Mod_insert_129 : decode b_Mod_insert 129 = .ok (.iconst (-1), 1) := by decide +kernel
theorem d_Mod_insert_130 : decode b_Mod_insert 130 = .ok (.putfield 23, 3) := by decide +kernel
theorem d_Mod_insert_133 : decode b_Mod_insert 133 = .ok (.iconst 1, 1) := by decide +kernel
theorem d_Mod_insert_134 : decode b_Mod_insert 134 = .ok (.ireturn, 1) := by decide +kernel
theorem d_Mod_remove_0 : decode b_Mod_remove 0 = .ok (.aload_n 0, 1) := by decide +kernel
theorem d_Mod_remove_1 : decode b_Mod_remove 1 = .ok (.iload_n 1, 1) := by decide +kernel
theorem d_Mod_remove_2 : decode b_Mod_remove 2 = .ok (.invokevirtual 108, 3) := by decide +kernel
theorem d_Mod_remove_5 : decode b_Mod_remove 5 = .ok (.ifCond .eq 32, 3) := by decide +kernel
theorem d_Mod_remove_8 : decode b_Mod_remove 8 = .ok (.aload_n 0, 1) := by decide +kernel
theorem d_Mod_remove_9 : decode b_Mod_remove 9 = .ok (.iload_n 2, 1) := by decide +kernel
theorem d_Mod_remove_10 : decode b_Mod_remove 10 = .ok (.invokevirtual 108, 3) := by decide +kernel
theorem d_Mod_remove_13 : decode b_Mod_remove 13 = .ok (.ifCond .eq 24, 3) := by decide +kernel
theorem d_Mod_remove_16 : decode b_Mod_remove 16 = .ok (.iload_n 1, 1) := by decide +kernel
theorem d_Mod_remove_17 : decode b_Mod_remove 17 = .ok (.iload_n 2, 1) := by decide +kernel
theorem d_Mod_remove_18 : decode b_Mod_remove 18 = .ok (.if_icmp .ge 19, 3) := by decide +kernel
theorem d_Mod_remove_21 : decode b_Mod_remove 21 = .ok (.aload_n 0, 1) := by decide +kernel
theorem d_Mod_remove_22 : decode b_Mod_remove 22 = .ok (.iload_n 1, 1) := by decide +kernel
theorem d_Mod_remove_23 : decode b_Mod_remove 23 = .ok (.invokevirtual 111, 3) := by decide +kernel
theorem d_Mod_remove_26 : decode b_Mod_remove 26 = .ok (.ifCond .eq 11, 3) := by decide +kernel
theorem d_Mod_remove_29 : decode b_Mod_remove 29 = .ok (.aload_n 0, 1) := by decide +kernel
theorem d_Mod_remove_30 : decode b_Mod_remove 30 = .ok (.iload_n 2, 1) := by decide +kernel
theorem d_Mod_remove_31 : decode b_Mod_remove 31 = .ok (.invokevirtual 111, 3) := by decide +kernel
theorem d_Mod_remove_34 : decode b_Mod_remove 34 = .ok (.ifCond .ne 5, 3) := by decide +kernel
theorem d_Mod_remove_37 : decode b_Mod_remove 37 = .ok (.iconst 0, 1) := by decide +kernel
theorem d_Mod_remove_38 : decode b_Mod_remove 38 = .ok (.ireturn, 1) := by decide +kernel
theorem d_Mod_remove_39 : decode b_Mod_remove 39 = .ok (.aload_n 0, 1) := by decide +kernel
theorem d_Mod_remove_40 : decode b_Mod_remove 40 = .ok (.iload_n 1, 1) := by decide +kernel
theorem d_Mod_remove_41 : decode b_Mod_remove 41 = .ok (.iload_n 2, 1) := by decide +kernel
theorem d_Mod_remove_42 : decode b_Mod_remove 42 = .ok (.iconst 0, 1) := by decide +kernel
theorem d_Mod_remove_43 : decode b_Mod_remove 43 = .ok (.invokevirtual 114, 3) := by decide +kernel
theorem d_Mod_remove_46 : decode b_Mod_remove 46 = .ok (.aload_n 0, 1) := by decide +kernel
theorem d_Mod_remove_47 : decode b_Mod_remove 47 = .ok (.invokevirtual 118, 3) := by decide +kernel
theorem d_Mod_remove_50 : decode b_Mod_remove 50 = .ok (.aload_n 0, 1) := by decide +kernel
theorem d_Mod_remove_51 : decode b_Mod_remove 51 = .ok (.iconst (-1), 1) := by decide +kernel
theorem d_Mod_remove_52 : decode b_Mod_remove 52 = .ok (.putfield 23, 3) := by decide +kernel
theorem d_Mod_remove_55 : decode b_Mod_remove 55 = .ok (.iconst 1, 1) := by decide +kernel
theorem d_Mod_remove_56 : decode b_Mod_remove 56 = .ok (.ireturn, 1) := by decide +kernel
theorem d_Mod_replace_0 : decode b_Mod_replace 0 = .ok (.aload_n 0, 1) := by decide +kernel
theorem d_Mod_replace_1 : decode b_Mod_replace 1 = .ok (.iload_n 1, 1) := by decide +kernel
theorem d_Mod_replace_2 : decode b_Mod_replace 2 = .ok (.invokevirtual 108, 3) := by decide +kernel
theorem d_Mod_replace_5 : decode b_Mod_replace 5 = .ok (.ifCond .eq 63, 3) := by decide +kernel
theorem d_Mod_replace_8 : decode b_Mod_replace 8 = .ok (.aload_n 0, 1) := by decide +kernel
theorem d_Mod_replace_9 : decode b_Mod_replace 9 = .ok (.iload_n 2, 1) := by decide +kernel
theorem d_Mod_replace_10 : decode b_Mod_replace 10 = .ok (.invokevirtual 108, 3) := by decide +kernel
theorem d_Mod_replace_13 : decode b_Mod_replace 13 = .ok (.ifCond .eq 55, 3) := by decide +kernel
theorem d_Mod_replace_16 : decode b_Mod_replace 16 = .ok (.iload_n 1, 1) := by decide +kernel
theorem d_Mod_replace_17 : decode b_Mod_replace 17 = .ok (.iload_n 2, 1) := by decide +kernel
theorem d_Mod_replace_18 : decode b_Mod_replace 18 = .ok (.if_icmp .gt 50, 3) := by decide +kernel
theorem d_Mod_replace_21 : decode b_Mod_replace 21 = .ok (.aload_n 0, 1) := by decide +kernel
theorem d_Mod_replace_22 : decode b_Mod_replace 22 = .ok (.getfield 45, 3) := by decide +kernel
theorem d_Mod_replace_25 : decode b_Mod_replace 25 = .ok (.ifCond .eq 43, 3) := by decide +kernel
theorem d_Mod_replace_28 : decode b_Mod_replace 28 = .ok (.aload_n 0, 1) := by decide +kernel
theorem d_Mod_replace_29 : decode b_Mod_replace 29 = .ok (.getfield 13, 3) := by decide +kernel
theorem d_Mod_replace_32 : decode b_Mod_replace 32 = .ok (.aload_n 0, 1) := by decide +kernel
theorem d_Mod_replace_33 : decode b_Mod_replace 33 = .ok (.getfield 48, 3) := by decide +kernel
theorem d_Mod_replace_36 : decode b_Mod_replace 36 = .ok (.iaload, 1) := by decide +kernel
theorem d_Mod_replace_37 : decode b_Mod_replace 37 = .ok (.iload_n 2, 1) := by decide +kernel
theorem d_Mod_replace_38 : decode b_Mod_replace 38 = .ok (.iload_n 1, 1) := by decide +kernel
theorem d_Mod_replace_39 : decode b_Mod_replace 39 = .ok (.isub, 1) := by decide +kernel
theorem d_Mod_replace_40 : decode b_Mod_replace 40 = .ok (.isub, 1) := by decide +kernel
theorem d_Mod_replace_41 : decode b_Mod_replace 41 = .ok (.aload_n 0, 1) := by decide +kernel
theorem d_Mod_replace_42 : decode b_Mod_replace 42 = .ok (.getfield 45, 3) := by decide +kernel
theorem d_Mod_replace_45 : decode b_Mod_replace 45 = .ok (.iadd, 1) := by decide +kernel
theorem d_Mod_replace_46 : decode b_Mod_replace 46 = .ok (.sipush 160, 3) := by decide +kernel
theorem d_Mod_replace_49 : decode b_Mod_replace 49 = .ok (.if_icmp .gt 19, 3) := by decide +kernel
theorem d_Mod_replace_52 : decode b_Mod_replace 52 = .ok (.aload_n 0, 1) := by decide +kernel
theorem d_Mod_replace_53 : decode b_Mod_replace 53 = .ok (.iload_n 1, 1) := by decide +kernel
theorem d_Mod_replace_54 : decode b_Mod_replace 54 = .ok (.invokevirtual 111, 3) := by decide +kernel
theorem d_Mod_replace_57 : decode b_Mod_replace 57 = .ok (.ifCond .eq 11, 3) := by decide +kernel
theorem d_Mod_replace_60 : decode b_Mod_replace 60 = .ok (.aload_n 0, 1) := by decide +kernel
theorem d_Mod_replace_61 : decode b_Mod_replace 61 = .ok (.iload_n 2, 1) := by decide +kernel
theorem d_Mod_replace_62 : decode b_Mod_replace 62 = .ok (.invokevirtual 111, 3) := by decide +kernel
theorem d_Mod_replace_65 : decode b_Mod_replace 65 = .ok (.ifCond .ne 5, 3) := by decide +kernel
theorem d_Mod_replace_68 : decode b_Mod_replace 68 = .ok (.iconst 0, 1) := by decide +kernel
theorem d_Mod_replace_69 : decode b_Mod_replace 69 = .ok (.ireturn, 1) := by decide +kernel
theorem d_Mod_replace_70 : decode b_Mod_replace 70 = .ok (.aload_n 0, 1) := by decide +kernel
theorem d_Mod_replace_71 : decode b_Mod_replace 71 = .ok (.iload_n 1, 1) := by decide +kernel
theorem d_Mod_replace_72 : decode b_Mod_replace 72 = .ok (.iload_n 2, 1) := by decide +kernel
theorem d_Mod_replace_73 : decode b_Mod_replace 73 = .ok (.aload_n 0, 1) := by decide +kernel
theorem d_Mod_replace_74 : decode b_Mod_replace 74 = .ok (.getfield 45, 3) := by decide +kernel
theorem d_Mod_replace_77 : decode b_Mod_replace 77 = .ok (.invokevirtual 114, 3) := by decide +kernel
theorem d_Mod_replace_80 : decode b_Mod_replace 80 = .ok (.aload_n 0, 1) := by decide +kernel
theorem d_Mod_replace_81 : decode b_Mod_replace 81 = .ok (.invokevirtual 118, 3) := by decide +kernel
theorem d_Mod_replace_84 : decode b_Mod_replace 84 = .ok (.aload_n 0, 1) := by decide +kernel
theorem d_Mod_replace_85 : decode b_Mod_replace 85 = .ok (.iconst (-1), 1) := by decide +kernel
theorem d_Mod_replace_86 : decode b_Mod_replace 86 = .ok (.putfield 23, 3) := by decide +kernel
theorem d_Mod_replace_89 : decode b_Mod_replace 89 = .ok (.iconst 1, 1) := by decide +kernel
theorem d_Mod_replace_90 : decode b_Mod_replace 90 = .ok (.ireturn, 1) := by decide +kernel
theorem d_Mod_undo_0 : decode b_Mod_undo 0 = .ok (.aload_n 0, 1) := by decide +kernel
theorem d_Mod_undo_1 : decode b_Mod_undo 1 = .ok (.getfield 48, 3) := by decide +kernel
theorem d_Mod_undo_4 : decode b_Mod_undo 4 = .ok (.ifCond .ne 5, 3) := by decide +kernel
theorem d_Mod_undo_7 : decode b_Mod_undo 7 = .ok (.iconst 0, 1) := by decide +kernel
theorem d_Mod_undo_8 : decode b_Mod_undo 8 = .ok (.ireturn, 1) := by decide +kernel
theorem d_Mod_undo_9 : decode b_Mod_undo 9 = .ok (.aload_n 0, 1) := by decide +kernel
theorem d_Mod_undo_10 : decode b_Mod_undo 10 = .ok (.dup, 1) := by decide +kernel
theorem d_Mod_undo_11 : decode b_Mod_undo 11 = .ok (.getfield 48, 3) := by decide +kernel
theorem d_Mod_undo_14 : decode b_Mod_undo 14 = .ok (.iconst 1, 1) := by decide +kernel
theorem d_Mod_undo_15 : decode b_Mod_undo 15 = .ok (.isub, 1) := by decide +kernel
theorem d_Mod_undo_16 : decode b_Mod_undo 16 = .ok (.putfield 48, 3) := by decide +kernel
theorem d_Mod_undo_19 : decode b_Mod_undo 19 = .ok (.aload_n 0, 1) := by decide +kernel
theorem d_Mod_undo_20 : decode b_Mod_undo 20 = .ok (.iconst (-1), 1) := by decide +kernel
theorem d_Mod_undo_21 : decode b_Mod_undo 21 = .ok (.putfield 23, 3) := by decide +kernel
theorem d_Mod_undo_24 : decode b_Mod_undo 24 = .ok (.iconst 1, 1) := by decide +kernel
theorem d_Mod_undo_25 : decode b_Mod_undo 25 = .ok (.ireturn, 1) := by decide +kernel
theorem d_Mod_redo_0 : decode b_Mod_redo 0 = .ok (.aload_n 0, 1) := by decide +kernel
theorem d_Mod_redo_1 : decode b_Mod_redo 1 = .ok (.getfield 48, 3) := by decide +kernel
theorem d_Mod_redo_4 : decode b_Mod_redo 4 = .ok (.aload_n 0, 1) := by decide +kernel
theorem d_Mod_redo_5 : decode b_Mod_redo 5 = .ok (.getfield 102, 3) := by decide +kernel
theorem d_Mod_redo_8 : decode b_Mod_redo 8 = .ok (.if_icmp .ne 5, 3) := by decide +kernel
theorem d_Mod_redo_11 : decode b_Mod_redo 11 = .ok (.iconst 0, 1) := by decide +kernel
theorem d_Mod_redo_12 : decode b_Mod_redo 12 = .ok (.ireturn, 1) := by decide +kernel
theorem d_Mod_redo_13 : decode b_Mod_redo 13 = .ok (.aload_n 0, 1) := by decide +kernel
theorem d_Mod_redo_14 : decode b_Mod_redo 14 = .ok (.dup, 1) := by decide +kernel
theorem d_Mod_redo_15 : decode b_Mod_redo 15 = .ok (.getfield 48, 3) := by decide +kernel
theorem d_Mod_redo_18 : decode b_Mod_redo 18 = .ok (.iconst 1, 1) := by decide +kernel
theorem d_Mod_redo_19 : decode b_Mod_redo 19 = .ok (.iadd, 1) := by decide +kernel
theorem d_Mod_redo_20 : decode b_Mod_redo 20 = .ok (.putfield 48, 3) := by decide +kernel
theorem d_Mod_redo_23 : decode b_Mod_redo 23 = .ok (.aload_n 0, 1) := by decide +kernel
theorem d_Mod_redo_24 : decode b_Mod_redo 24 = .ok (.iconst (-1), 1) := by decide +kernel
theorem d_Mod_redo_25 : decode b_Mod_redo 25 = .ok (.putfield 23, 3) := by decide +kernel
theorem d_Mod_redo_28 : decode b_Mod_redo 28 = .ok (.iconst 1, 1) := by decide +kernel
theorem d_Mod_redo_29 : decode b_Mod_redo 29 = .ok (.ireturn, 1) := by decide +kernel
theorem d_Mod_steps_0 : decode b_Mod_steps 0 = .ok (.iload_n 1, 1) := by decide +kernel
theorem d_Mod_steps_1 : decode b_Mod_steps 1 = .ok (.ifCond .ne 10, 3) := by decide +kernel
theorem d_Mod_steps_4 : decode b_Mod_steps 4 = .ok (.aload_n 0, 1) := by decide +kernel
theorem d_Mod_steps_5 : decode b_Mod_steps 5 = .ok (.getfield 48, 3) := by decide +kernel
theorem d_Mod_steps_8 : decode b_Mod_steps 8 = .ok (.goto 21, 3) := by decide +kernel
theorem d_Mod_steps_11 : decode b_Mod_steps 11 = .ok (.iload_n 1, 1) := by decide +kernel
theorem d_Mod_steps_12 : decode b_Mod_steps 12 = .ok (.iconst 1, 1) := by decide +kernel
theorem d_Mod_steps_13 : decode b_Mod_steps 13 = .ok (.if_icmp .ne 15, 3) := by decide +kernel
theorem d_Mod_steps_16 : decode b_Mod_steps 16 = .ok (.aload_n 0, 1) := by decide +kernel
theorem d_Mod_steps_17 : decode b_Mod_steps 17 = .ok (.getfield 102, 3) := by decide +kernel
theorem d_Mod_steps_20 : decode b_Mod_steps 20 = .ok (.aload_n 0, 1) := by decide +kernel
theorem d_Mod_steps_21 : decode b_Mod_steps 21 = .ok (.getfield 48, 3) := by decide +kernel
theorem d_Mod_steps_24 : decode b_Mod_steps 24 = .ok (.isub, 1) := by decide +kernel
theorem d_Mod_steps_25 : decode b_Mod_steps 25 = .ok (.goto 4, 3) := by decide +kernel
theorem d_Mod_steps_28 : decode b_Mod_steps 28 = .ok (.iconst (-1), 1) := by decide +kernel
theorem d_Mod_steps_29 : decode b_Mod_steps 29 = .ok (.ireturn, 1) := by decide +kernel
theorem d_Mod_seal_0 : decode b_Mod_seal 0 = .ok (.aload_n 0, 1) := by decide +kernel
theorem d_Mod_seal_1 : decode b_Mod_seal 1 = .ok (.iconst (-1), 1) := by decide +kernel
theorem d_Mod_seal_2 : decode b_Mod_seal 2 = .ok (.putfield 23, 3) := by decide +kernel
theorem d_Mod_seal_5 : decode b_Mod_seal 5 = .ok (.return_, 1) := by decide +kernel
theorem d_Mod_guard_0 : decode b_Mod_guard 0 = .ok (.iload_n 1, 1) := by decide +kernel
theorem d_Mod_guard_1 : decode b_Mod_guard 1 = .ok (.ifCond .eq 15, 3) := by decide +kernel
theorem d_Mod_guard_4 : decode b_Mod_guard 4 = .ok (.iload_n 1, 1) := by decide +kernel
theorem d_Mod_guard_5 : decode b_Mod_guard 5 = .ok (.iconst 1, 1) := by decide +kernel
theorem d_Mod_guard_6 : decode b_Mod_guard 6 = .ok (.if_icmp .eq 10, 3) := by decide +kernel
theorem d_Mod_guard_9 : decode b_Mod_guard 9 = .ok (.iload_n 1, 1) := by decide +kernel
theorem d_Mod_guard_10 : decode b_Mod_guard 10 = .ok (.iconst 3, 1) := by decide +kernel
theorem d_Mod_guard_11 : decode b_Mod_guard 11 = .ok (.if_icmp .eq 5, 3) := by decide +kernel
theorem d_Mod_guard_14 : decode b_Mod_guard 14 = .ok (.iconst 0, 1) := by decide +kernel
theorem d_Mod_guard_15 : decode b_Mod_guard 15 = .ok (.ireturn, 1) := by decide +kernel
theorem d_Mod_guard_16 : decode b_Mod_guard 16 = .ok (.aload_n 0, 1) := by decide +kernel
theorem d_Mod_guard_17 : decode b_Mod_guard 17 = .ok (.iload_n 1, 1) := by decide +kernel
theorem d_Mod_guard_18 : decode b_Mod_guard 18 = .ok (.putfield 89, 3) := by decide +kernel
theorem d_Mod_guard_21 : decode b_Mod_guard 21 = .ok (.aload_n 0, 1) := by decide +kernel
theorem d_Mod_guard_22 : decode b_Mod_guard 22 = .ok (.iconst (-1), 1) := by decide +kernel
theorem d_Mod_guard_23 : decode b_Mod_guard 23 = .ok (.putfield 23, 3) := by decide +kernel
theorem d_Mod_guard_26 : decode b_Mod_guard 26 = .ok (.iconst 1, 1) := by decide +kernel
theorem d_Mod_guard_27 : decode b_Mod_guard 27 = .ok (.ireturn, 1) := by decide +kernel
theorem d_Mod_snapshot_0 : decode b_Mod_snapshot 0 = .ok (.iconst 1, 1) := by decide +kernel
theorem d_Mod_snapshot_1 : decode b_Mod_snapshot 1 = .ok (.istore_n 1, 1) := by decide +kernel
theorem d_Mod_snapshot_2 : decode b_Mod_snapshot 2 = .ok (.iload_n 1, 1) := by decide +kernel
theorem d_Mod_snapshot_3 : decode b_Mod_snapshot 3 = .ok (.iconst 4, 1) := by decide +kernel
theorem d_Mod_snapshot_4 : decode b_Mod_snapshot 4 = .ok (.if_icmp .gt 18, 3) := by decide +kernel
theorem d_Mod_snapshot_7 : decode b_Mod_snapshot 7 = .ok (.aload_n 0, 1) := by decide +kernel
theorem d_Mod_snapshot_8 : decode b_Mod_snapshot 8 = .ok (.getfield 16, 3) := by decide +kernel
theorem d_Mod_snapshot_11 : decode b_Mod_snapshot 11 = .ok (.iload_n 1, 1) := by decide +kernel
theorem d_Mod_snapshot_12 : decode b_Mod_snapshot 12 = .ok (.baload, 1) := by decide +kernel
theorem d_Mod_snapshot_13 : decode b_Mod_snapshot 13 = .ok (.ifCond .eq 9, 3) := by decide +kernel
theorem d_Mod_snapshot_16 : decode b_Mod_snapshot 16 = .ok (.iinc 1 1, 3) := by decide +kernel
theorem d_Mod_snapshot_19 : decode b_Mod_snapshot 19 = .ok (.goto (-17), 3) := by decide +kernel
theorem d_Mod_snapshot_22 : decode b_Mod_snapshot 22 = .ok (.iload_n 1, 1) := by decide +kernel
theorem d_Mod_snapshot_23 : decode b_Mod_snapshot 23 = .ok (.iconst 4, 1) := by decide +kernel
theorem d_Mod_snapshot_24 : decode b_Mod_snapshot 24 = .ok (.if_icmp .le 5, 3) := by decide +kernel
theorem d_Mod_snapshot_27 : decode b_Mod_snapshot 27 = .ok (.iconst (-1), 1) := by decide +kernel
theorem d_Mod_snapshot_28 : decode b_Mod_snapshot 28 = .ok (.ireturn, 1) := by decide +kernel
theorem d_Mod_snapshot_29 : decode b_Mod_snapshot 29 = .ok (.aload_n 0, 1) := by decide +kernel
theorem d_Mod_snapshot_30 : decode b_Mod_snapshot 30 = .ok (.getfield 16, 3) := by decide +kernel
theorem d_Mod_snapshot_33 : decode b_Mod_snapshot 33 = .ok (.iload_n 1, 1) := by decide +kernel
theorem d_Mod_snapshot_34 : decode b_Mod_snapshot 34 = .ok (.iconst 1, 1) := by decide +kernel
theorem d_Mod_snapshot_35 : decode b_Mod_snapshot 35 = .ok (.bastore, 1) := by decide +kernel
theorem d_Mod_snapshot_36 : decode b_Mod_snapshot 36 = .ok (.aload_n 0, 1) := by decide +kernel
theorem d_Mod_snapshot_37 : decode b_Mod_snapshot 37 = .ok (.aload_n 0, 1) := by decide +kernel
theorem d_Mod_snapshot_38 : decode b_Mod_snapshot 38 = .ok (.getfield 48, 3) := by decide +kernel
theorem d_Mod_snapshot_41 : decode b_Mod_snapshot 41 = .ok (.bipush 8, 2) := by decide +kernel
theorem d_Mod_snapshot_43 : decode b_Mod_snapshot 43 = .ok (.iload_n 1, 1) := by decide +kernel
theorem d_Mod_snapshot_44 : decode b_Mod_snapshot 44 = .ok (.iadd, 1) := by decide +kernel
theorem d_Mod_snapshot_45 : decode b_Mod_snapshot 45 = .ok (.invokevirtual 99, 3) := by decide +kernel
theorem d_Mod_snapshot_48 : decode b_Mod_snapshot 48 = .ok (.iload_n 1, 1) := by decide +kernel
theorem d_Mod_snapshot_49 : decode b_Mod_snapshot 49 = .ok (.ireturn, 1) := by decide +kernel
theorem d_Mod_release_0 : decode b_Mod_release 0 = .ok (.iload_n 1, 1) := by decide +kernel
theorem d_Mod_release_1 : decode b_Mod_release 1 = .ok (.iconst 1, 1) := by decide +kernel
theorem d_Mod_release_2 : decode b_Mod_release 2 = .ok (.if_icmp .lt 17, 3) := by decide +kernel
theorem d_Mod_release_5 : decode b_Mod_release 5 = .ok (.iload_n 1, 1) := by decide +kernel
theorem d_Mod_release_6 : decode b_Mod_release 6 = .ok (.iconst 4, 1) := by decide +kernel
theorem d_Mod_release_7 : decode b_Mod_release 7 = .ok (.if_icmp .gt 12, 3) := by decide +kernel
theorem d_Mod_release_10 : decode b_Mod_release 10 = .ok (.aload_n 0, 1) := by decide +kernel
theorem d_Mod_release_11 : decode b_Mod_release 11 = .ok (.getfield 16, 3) := by decide +kernel
theorem d_Mod_release_14 : decode b_Mod_release 14 = .ok (.iload_n 1, 1) := by decide +kernel
theorem d_Mod_release_15 : decode b_Mod_release 15 = .ok (.baload, 1) := by decide +kernel
theorem d_Mod_release_16 : decode b_Mod_release 16 = .ok (.ifCond .ne 5, 3) := by decide +kernel
theorem d_Mod_release_19 : decode b_Mod_release 19 = .ok (.iconst 0, 1) := by decide +kernel
theorem d_Mod_release_20 : decode b_Mod_release 20 = .ok (.ireturn, 1) := by decide +kernel
theorem d_Mod_release_21 : decode b_Mod_release 21 = .ok (.aload_n 0, 1) := by decide +kernel
theorem d_Mod_release_22 : decode b_Mod_release 22 = .ok (.getfield 16, 3) := by decide +kernel
theorem d_Mod_release_25 : decode b_Mod_release 25 = .ok (.iload_n 1, 1) := by decide +kernel
theorem d_Mod_release_26 : decode b_Mod_release 26 = .ok (.iconst 0, 1) := by decide +kernel
theorem d_Mod_release_27 : decode b_Mod_release 27 = .ok (.bastore, 1) := by decide +kernel
theorem d_Mod_release_28 : decode b_Mod_release 28 = .ok (.iconst 1, 1) := by decide +kernel
theorem d_Mod_release_29 : decode b_Mod_release 29 = .ok (.ireturn, 1) := by decide +kernel
theorem d_Mod_unit_0 : decode b_Mod_unit 0 = .ok (.aload_n 0, 1) := by decide +kernel
theorem d_Mod_unit_1 : decode b_Mod_unit 1 = .ok (.iload_n 1, 1) := by decide +kernel
theorem d_Mod_unit_2 : decode b_Mod_unit 2 = .ok (.invokevirtual 121, 3) := by decide +kernel
theorem d_Mod_unit_5 : decode b_Mod_unit 5 = .ok (.istore_n 3, 1) := by decide +kernel
theorem d_Mod_unit_6 : decode b_Mod_unit 6 = .ok (.iload_n 3, 1) := by decide +kernel
theorem d_Mod_unit_7 : decode b_Mod_unit 7 = .ok (.ifCond .lt 17, 3) := by decide +kernel
theorem d_Mod_unit_10 : decode b_Mod_unit 10 = .ok (.iload_n 2, 1) := by decide +kernel
theorem d_Mod_unit_11 : decode b_Mod_unit 11 = .ok (.ifCond .lt 13, 3) := by decide +kernel
theorem d_Mod_unit_14 : decode b_Mod_unit 14 = .ok (.iload_n 2, 1) := by decide +kernel
theorem d_Mod_unit_15 : decode b_Mod_unit 15 = .ok (.aload_n 0, 1) := by decide +kernel
theorem d_Mod_unit_16 : decode b_Mod_unit 16 = .ok (.getfield 13, 3) := by decide +kernel
theorem d_Mod_unit_19 : decode b_Mod_unit 19 = .ok (.iload_n 3, 1) := by decide +kernel
theorem d_Mod_unit_20 : decode b_Mod_unit 20 = .ok (.iaload, 1) := by decide +kernel
theorem d_Mod_unit_21 : decode b_Mod_unit 21 = .ok (.if_icmp .lt 7, 3) := by decide +kernel
theorem d_Mod_unit_24 : decode b_Mod_unit 24 = .ok (.iconst (-1), 1) := by decide +kernel
theorem d_Mod_unit_25 : decode b_Mod_unit 25 = .ok (.goto 15, 3) := by decide +kernel
theorem d_Mod_unit_28 : decode b_Mod_unit 28 = .ok (.aload_n 0, 1) := by decide +kernel
theorem d_Mod_unit_29 : decode b_Mod_unit 29 = .ok (.getfield 7, 3) := by decide +kernel
theorem d_Mod_unit_32 : decode b_Mod_unit 32 = .ok (.sipush 160, 3) := by decide +kernel
theorem d_Mod_unit_35 : decode b_Mod_unit 35 = .ok (.iload_n 3, 1) := by decide +kernel
theorem d_Mod_unit_36 : decode b_Mod_unit 36 = .ok (.imul, 1) := by decide +kernel
theorem d_Mod_unit_37 : decode b_Mod_unit 37 = .ok (.iload_n 2, 1) := by decide +kernel
theorem d_Mod_unit_38 : decode b_Mod_unit 38 = .ok (.iadd, 1) := by decide +kernel
theorem d_Mod_unit_39 : decode b_Mod_unit 39 = .ok (.iaload, 1) := by decide +kernel
theorem d_Mod_unit_40 : decode b_Mod_unit 40 = .ok (.ireturn, 1) := by decide +kernel
theorem d_Mod_looks_0 : decode b_Mod_looks 0 = .ok (.aload_n 0, 1) := by decide +kernel
theorem d_Mod_looks_1 : decode b_Mod_looks 1 = .ok (.iload_n 1, 1) := by decide +kernel
theorem d_Mod_looks_2 : decode b_Mod_looks 2 = .ok (.invokevirtual 121, 3) := by decide +kernel
theorem d_Mod_looks_5 : decode b_Mod_looks 5 = .ok (.istore_n 3, 1) := by decide +kernel
theorem d_Mod_looks_6 : decode b_Mod_looks 6 = .ok (.iload_n 3, 1) := by decide +kernel
theorem d_Mod_looks_7 : decode b_Mod_looks 7 = .ok (.ifCond .lt 12, 3) := by decide +kernel
theorem d_Mod_looks_10 : decode b_Mod_looks 10 = .ok (.iload_n 2, 1) := by decide +kernel
theorem d_Mod_looks_11 : decode b_Mod_looks 11 = .ok (.ifCond .lt 8, 3) := by decide +kernel
theorem d_Mod_looks_14 : decode b_Mod_looks 14 = .ok (.iload_n 2, 1) := by decide +kernel
theorem d_Mod_looks_15 : decode b_Mod_looks 15 = .ok (.iconst 3, 1) := by decide +kernel
theorem d_Mod_looks_16 : decode b_Mod_looks 16 = .ok (.if_icmp .le 5, 3) := by decide +kernel
theorem d_Mod_looks_19 : decode b_Mod_looks 19 = .ok (.iconst 0, 1) := by decide +kernel
theorem d_Mod_looks_20 : decode b_Mod_looks 20 = .ok (.ireturn, 1) := by decide +kernel
theorem d_Mod_looks_21 : decode b_Mod_looks 21 = .ok (.aload_n 0, 1) := by decide +kernel
theorem d_Mod_looks_22 : decode b_Mod_looks 22 = .ok (.iload_n 3, 1) := by decide +kernel
theorem d_Mod_looks_23 : decode b_Mod_looks 23 = .ok (.iload_n 2, 1) := by decide +kernel
theorem d_Mod_looks_24 : decode b_Mod_looks 24 = .ok (.invokevirtual 92, 3) := by decide +kernel
theorem d_Mod_looks_27 : decode b_Mod_looks 27 = .ok (.iconst 1, 1) := by decide +kernel
theorem d_Mod_looks_28 : decode b_Mod_looks 28 = .ok (.ireturn, 1) := by decide +kernel
theorem d_Mod_count_0 : decode b_Mod_count 0 = .ok (.aload_n 0, 1) := by decide +kernel
theorem d_Mod_count_1 : decode b_Mod_count 1 = .ok (.iload_n 1, 1) := by decide +kernel
theorem d_Mod_count_2 : decode b_Mod_count 2 = .ok (.iload_n 2, 1) := by decide +kernel
theorem d_Mod_count_3 : decode b_Mod_count 3 = .ok (.invokevirtual 125, 3) := by decide +kernel
theorem d_Mod_count_6 : decode b_Mod_count 6 = .ok (.ifCond .eq 10, 3) := by decide +kernel
theorem d_Mod_count_9 : decode b_Mod_count 9 = .ok (.aload_n 0, 1) := by decide +kernel
theorem d_Mod_count_10 : decode b_Mod_count 10 = .ok (.getfield 73, 3) := by decide +kernel
theorem d_Mod_count_13 : decode b_Mod_count 13 = .ok (.goto 4, 3) := by decide +kernel
theorem d_Mod_count_16 : decode b_Mod_count 16 = .ok (.iconst (-1), 1) := by decide +kernel
theorem d_Mod_count_17 : decode b_Mod_count 17 = .ok (.ireturn, 1) := by decide +kernel
theorem d_Mod_place_0 : decode b_Mod_place 0 = .ok (.aload_n 0, 1) := by decide +kernel
theorem d_Mod_place_1 : decode b_Mod_place 1 = .ok (.iload_n 1, 1) := by decide +kernel
theorem d_Mod_place_2 : decode b_Mod_place 2 = .ok (.iload_n 2, 1) := by decide +kernel
theorem d_Mod_place_3 : decode b_Mod_place 3 = .ok (.invokevirtual 125, 3) := by decide +kernel
theorem d_Mod_place_6 : decode b_Mod_place 6 = .ok (.ifCond .eq 24, 3) := by decide +kernel
theorem d_Mod_place_9 : decode b_Mod_place 9 = .ok (.iload_n 3, 1) := by decide +kernel
theorem d_Mod_place_10 : decode b_Mod_place 10 = .ok (.ifCond .lt 20, 3) := by decide +kernel
theorem d_Mod_place_13 : decode b_Mod_place 13 = .ok (.iload_n 3, 1) := by decide +kernel
theorem d_Mod_place_14 : decode b_Mod_place 14 = .ok (.aload_n 0, 1) := by decide +kernel
theorem d_Mod_place_15 : decode b_Mod_place 15 = .ok (.getfield 73, 3) := by decide +kernel
theorem d_Mod_place_18 : decode b_Mod_place 18 = .ok (.if_icmp .gt 12, 3) := by decide +kernel
theorem d_Mod_place_21 : decode b_Mod_place 21 = .ok (.aload_n 0, 1) := by decide +kernel
theorem d_Mod_place_22 : decode b_Mod_place 22 = .ok (.getfield 36, 3) := by decide +kernel
theorem d_Mod_place_25 : decode b_Mod_place 25 = .ok (.iload_n 3, 1) := by decide +kernel
theorem d_Mod_place_26 : decode b_Mod_place 26 = .ok (.iaload, 1) := by decide +kernel
theorem d_Mod_place_27 : decode b_Mod_place 27 = .ok (.goto 4, 3) := by decide +kernel
theorem d_Mod_place_30 : decode b_Mod_place 30 = .ok (.iconst (-1), 1) := by decide +kernel
theorem d_Mod_place_31 : decode b_Mod_place 31 = .ok (.ireturn, 1) := by decide +kernel
theorem d_Mod_item_0 : decode b_Mod_item 0 = .ok (.aload_n 0, 1) := by decide +kernel
theorem d_Mod_item_1 : decode b_Mod_item 1 = .ok (.iload_n 1, 1) := by decide +kernel
theorem d_Mod_item_2 : decode b_Mod_item 2 = .ok (.iload_n 2, 1) := by decide +kernel
theorem d_Mod_item_3 : decode b_Mod_item 3 = .ok (.invokevirtual 125, 3) := by decide +kernel
theorem d_Mod_item_6 : decode b_Mod_item 6 = .ok (.ifCond .eq 20, 3) := by decide +kernel
theorem d_Mod_item_9 : decode b_Mod_item 9 = .ok (.iload_n 3, 1) := by decide +kernel
theorem d_Mod_item_10 : decode b_Mod_item 10 = .ok (.ifCond .lt 16, 3) := by decide +kernel
theorem d_Mod_item_13 : decode b_Mod_item 13 = .ok (.iload_n 3, 1) := by decide +kernel
theorem d_Mod_item_14 : decode b_Mod_item 14 = .ok (.aload_n 0, 1) := by decide +kernel
theorem d_Mod_item_15 : decode b_Mod_item 15 = .ok (.getfield 36, 3) := by decide +kernel
theorem d_Mod_item_18 : decode b_Mod_item 18 = .ok (.aload_n 0, 1) := by decide +kernel
theorem d_Mod_item_19 : decode b_Mod_item 19 = .ok (.getfield 73, 3) := by decide +kernel
theorem d_Mod_item_22 : decode b_Mod_item 22 = .ok (.iaload, 1) := by decide +kernel
theorem d_Mod_item_23 : decode b_Mod_item 23 = .ok (.if_icmp .le 5, 3) := by decide +kernel
theorem d_Mod_item_26 : decode b_Mod_item 26 = .ok (.iconst (-1), 1) := by decide +kernel
theorem d_Mod_item_27 : decode b_Mod_item 27 = .ok (.ireturn, 1) := by decide +kernel
theorem d_Mod_item_28 : decode b_Mod_item 28 = .ok (.iconst 0, 1) := by decide +kernel
theorem d_Mod_item_29 : decode b_Mod_item 29 = .ok (.istore 4, 2) := by decide +kernel
theorem d_Mod_item_31 : decode b_Mod_item 31 = .ok (.iload 4, 2) := by decide +kernel
theorem d_Mod_item_33 : decode b_Mod_item 33 = .ok (.iconst 1, 1) := by decide +kernel
theorem d_Mod_item_34 : decode b_Mod_item 34 = .ok (.iadd, 1) := by decide +kernel
theorem d_Mod_item_35 : decode b_Mod_item 35 = .ok (.aload_n 0, 1) := by decide +kernel
theorem d_Mod_item_36 : decode b_Mod_item 36 = .ok (.getfield 73, 3) := by decide +kernel
theorem d_Mod_item_39 : decode b_Mod_item 39 = .ok (.if_icmp .ge 22, 3) := by decide +kernel
theorem d_Mod_item_42 : decode b_Mod_item 42 = .ok (.aload_n 0, 1) := by decide +kernel
theorem d_Mod_item_43 : decode b_Mod_item 43 = .ok (.getfield 36, 3) := by decide +kernel
theorem d_Mod_item_46 : decode b_Mod_item 46 = .ok (.iload 4, 2) := by decide +kernel
theorem d_Mod_item_48 : decode b_Mod_item 48 = .ok (.iconst 1, 1) := by decide +kernel
theorem d_Mod_item_49 : decode b_Mod_item 49 = .ok (.iadd, 1) := by decide +kernel
theorem d_Mod_item_50 : decode b_Mod_item 50 = .ok (.iaload, 1) := by decide +kernel
theorem d_Mod_item_51 : decode b_Mod_item 51 = .ok (.iload_n 3, 1) := by decide +kernel
theorem d_Mod_item_52 : decode b_Mod_item 52 = .ok (.if_icmp .gt 9, 3) := by decide +kernel
theorem d_Mod_item_55 : decode b_Mod_item 55 = .ok (.iinc 4 1, 3) := by decide +kernel
theorem d_Mod_item_58 : decode b_Mod_item 58 = .ok (.goto (-27), 3) := by decide +kernel
theorem d_Mod_item_61 : decode b_Mod_item 61 = .ok (.iload_n 2, 1) := by decide +kernel
theorem d_Mod_item_62 : decode b_Mod_item 62 = .ok (.iconst 2, 1) := by decide +kernel
theorem d_Mod_item_63 : decode b_Mod_item 63 = .ok (.if_icmp .eq 23, 3) := by decide +kernel
theorem d_Mod_item_66 : decode b_Mod_item 66 = .ok (.iload_n 3, 1) := by decide +kernel
theorem d_Mod_item_67 : decode b_Mod_item 67 = .ok (.aload_n 0, 1) := by decide +kernel
theorem d_Mod_item_68 : decode b_Mod_item 68 = .ok (.getfield 36, 3) := by decide +kernel
theorem d_Mod_item_71 : decode b_Mod_item 71 = .ok (.aload_n 0, 1) := by decide +kernel
theorem d_Mod_item_72 : decode b_Mod_item 72 = .ok (.getfield 73, 3) := by decide +kernel
theorem d_Mod_item_75 : decode b_Mod_item 75 = .ok (.iaload, 1) := by decide +kernel
theorem d_Mod_item_76 : decode b_Mod_item 76 = .ok (.if_icmp .ne 10, 3) := by decide +kernel
theorem d_Mod_item_79 : decode b_Mod_item 79 = .ok (.aload_n 0, 1) := by decide +kernel
theorem d_Mod_item_80 : decode b_Mod_item 80 = .ok (.getfield 73, 3) := by decide +kernel
theorem d_Mod_item_83 : decode b_Mod_item 83 = .ok (.goto 5, 3) := by decide +kernel
theorem d_Mod_item_86 : decode b_Mod_item 86 = .ok (.iload 4, 2) := by decide +kernel
theorem d_Mod_item_88 : decode b_Mod_item 88 = .ok (.ireturn, 1) := by decide +kernel
theorem d_Mod_same_0 : decode b_Mod_same 0 = .ok (.aload_n 0, 1) := by decide +kernel
theorem d_Mod_same_1 : decode b_Mod_same 1 = .ok (.iload_n 1, 1) := by decide +kernel
theorem d_Mod_same_2 : decode b_Mod_same 2 = .ok (.invokevirtual 121, 3) := by decide +kernel
theorem d_Mod_same_5 : decode b_Mod_same 5 = .ok (.istore_n 3, 1) := by decide +kernel
theorem d_Mod_same_6 : decode b_Mod_same 6 = .ok (.aload_n 0, 1) := by decide +kernel
theorem d_Mod_same_7 : decode b_Mod_same 7 = .ok (.iload_n 2, 1) := by decide +kernel
theorem d_Mod_same_8 : decode b_Mod_same 8 = .ok (.invokevirtual 121, 3) := by decide +kernel
theorem d_Mod_same_11 : decode b_Mod_same 11 = .ok (.istore 4, 2) := by decide +kernel
theorem d_Mod_same_13 : decode b_Mod_same 13 = .ok (.iload_n 3, 1) := by decide +kernel
theorem d_Mod_same_14 : decode b_Mod_same 14 = .ok (.ifCond .lt 28, 3) := by decide +kernel
theorem d_Mod_same_17 : decode b_Mod_same 17 = .ok (.iload 4, 2) := by decide +kernel
theorem d_Mod_same_19 : decode b_Mod_same 19 = .ok (.ifCond .lt 23, 3) := by decide +kernel
theorem d_Mod_same_22 : decode b_Mod_same 22 = .ok (.aload_n 0, 1) := by decide +kernel
theorem d_Mod_same_23 : decode b_Mod_same 23 = .ok (.getfield 13, 3) := by decide +kernel
theorem d_Mod_same_26 : decode b_Mod_same 26 = .ok (.iload_n 3, 1) := by decide +kernel
theorem d_Mod_same_27 : decode b_Mod_same 27 = .ok (.iaload, 1) := by decide +kernel
theorem d_Mod_same_28 : decode b_Mod_same 28 = .ok (.aload_n 0, 1) := by decide +kernel
theorem d_Mod_same_29 : decode b_Mod_same 29 = .ok (.getfield 13, 3) := by decide +kernel
theorem d_Mod_same_32 : decode b_Mod_same 32 = .ok (.iload 4, 2) := by decide +kernel
theorem d_Mod_same_34 : decode b_Mod_same 34 = .ok (.iaload, 1) := by decide +kernel
theorem d_Mod_same_35 : decode b_Mod_same 35 = .ok (.if_icmp .ne 7, 3) := by decide +kernel
theorem d_Mod_same_38 : decode b_Mod_same 38 = .ok (.iconst 1, 1) := by decide +kernel
theorem d_Mod_same_39 : decode b_Mod_same 39 = .ok (.goto 4, 3) := by decide +kernel
theorem d_Mod_same_42 : decode b_Mod_same 42 = .ok (.iconst 0, 1) := by decide +kernel
theorem d_Mod_same_43 : decode b_Mod_same 43 = .ok (.istore 5, 2) := by decide +kernel
theorem d_Mod_same_45 : decode b_Mod_same 45 = .ok (.iconst 0, 1) := by decide +kernel
theorem d_Mod_same_46 : decode b_Mod_same 46 = .ok (.istore 6, 2) := by decide +kernel
theorem d_Mod_same_48 : decode b_Mod_same 48 = .ok (.iload 5, 2) := by decide +kernel
theorem d_Mod_same_50 : decode b_Mod_same 50 = .ok (.ifCond .eq 57, 3) := by decide +kernel
theorem d_Mod_same_53 : decode b_Mod_same 53 = .ok (.iload 6, 2) := by decide +kernel
theorem d_Mod_same_55 : decode b_Mod_same 55 = .ok (.aload_n 0, 1) := by decide +kernel
theorem d_Mod_same_56 : decode b_Mod_same 56 = .ok (.getfield 13, 3) := by decide +kernel
theorem d_Mod_same_59 : decode b_Mod_same 59 = .ok (.iload_n 3, 1) := by decide +kernel
theorem d_Mod_same_60 : decode b_Mod_same 60 = .ok (.iaload, 1) := by decide +kernel
theorem d_Mod_same_61 : decode b_Mod_same 61 = .ok (.if_icmp .ge 46, 3) := by decide +kernel
theorem d_Mod_same_64 : decode b_Mod_same 64 = .ok (.aload_n 0, 1) := by decide +kernel
theorem d_Mod_same_65 : decode b_Mod_same 65 = .ok (.getfield 7, 3) := by decide +kernel
theorem d_Mod_same_68 : decode b_Mod_same 68 = .ok (.sipush 160, 3) := by decide +kernel
theorem d_Mod_same_71 : decode b_Mod_same 71 = .ok (.iload_n 3, 1) := by decide +kernel
theorem d_Mod_same_72 : decode b_Mod_same 72 = .ok (.imul, 1) := by decide +kernel
theorem d_Mod_same_73 : decode b_Mod_same 73 = .ok (.iload 6, 2) := by decide +kernel
theorem d_Mod_same_75 : decode b_Mod_same 75 = .ok (.iadd, 1) := by decide +kernel
theorem d_Mod_same_76 : decode b_Mod_same 76 = .ok (.iaload, 1) := by decide +kernel
theorem d_Mod_same_77 : decode b_Mod_same 77 = .ok (.aload_n 0, 1) := by decide +kernel
theorem d_Mod_same_78 : decode b_Mod_same 78 = .ok (.getfield 7, 3) := by decide +kernel
theorem d_Mod_same_81 : decode b_Mod_same 81 = .ok (.sipush 160, 3) := by decide +kernel
theorem d_Mod_same_84 : decode b_Mod_same 84 = .ok (.iload 4, 2) := by decide +kernel
theorem d_Mod_same_86 : decode b_Mod_same 86 = .ok (.imul, 1) := by decide +kernel
theorem d_Mod_same_87 : decode b_Mod_same 87 = .ok (.iload 6, 2) := by decide +kernel
theorem d_Mod_same_89 : decode b_Mod_same 89 = .ok (.iadd, 1) := by decide +kernel
theorem d_Mod_same_90 : decode b_Mod_same 90 = .ok (.iaload, 1) := by decide +kernel
theorem d_Mod_same_91 : decode b_Mod_same 91 = .ok (.if_icmp .ne 7, 3) := by decide +kernel
theorem d_Mod_same_94 : decode b_Mod_same 94 = .ok (.iconst 1, 1) := by decide +kernel
theorem d_Mod_same_95 : decode b_Mod_same 95 = .ok (.goto 4, 3) := by decide +kernel
theorem d_Mod_same_98 : decode b_Mod_same 98 = .ok (.iconst 0, 1) := by decide +kernel
theorem d_Mod_same_99 : decode b_Mod_same 99 = .ok (.istore 5, 2) := by decide +kernel
theorem d_Mod_same_101 : decode b_Mod_same 101 = .ok (.iinc 6 1, 3) := by decide +kernel
theorem d_Mod_same_104 : decode b_Mod_same 104 = .ok (.goto (-56), 3) := by decide +kernel
theorem d_Mod_same_107 : decode b_Mod_same 107 = .ok (.iload 5, 2) := by decide +kernel
theorem d_Mod_same_109 : decode b_Mod_same 109 = .ok (.ireturn, 1) := by decide +kernel
theorem d_Mod_isPattern_0 : decode b_Mod_isPattern 0 = .ok (.aload_n 0, 1) := by decide +kernel
theorem d_Mod_isPattern_1 : decode b_Mod_isPattern 1 = .ok (.getfield 45, 3) := by decide +kernel
theorem d_Mod_isPattern_4 : decode b_Mod_isPattern 4 = .ok (.ifCond .le 7, 3) := by decide +kernel
theorem d_Mod_isPattern_7 : decode b_Mod_isPattern 7 = .ok (.iconst 1, 1) := by decide +kernel
theorem d_Mod_isPattern_8 : decode b_Mod_isPattern 8 = .ok (.goto 4, 3) := by decide +kernel
theorem d_Mod_isPattern_11 : decode b_Mod_isPattern 11 = .ok (.iconst 0, 1) := by decide +kernel
theorem d_Mod_isPattern_12 : decode b_Mod_isPattern 12 = .ok (.istore_n 1, 1) := by decide +kernel
theorem d_Mod_isPattern_13 : decode b_Mod_isPattern 13 = .ok (.iconst 0, 1) := by decide +kernel
theorem d_Mod_isPattern_14 : decode b_Mod_isPattern 14 = .ok (.istore_n 2, 1) := by decide +kernel
theorem d_Mod_isPattern_15 : decode b_Mod_isPattern 15 = .ok (.iload_n 2, 1) := by decide +kernel
theorem d_Mod_isPattern_16 : decode b_Mod_isPattern 16 = .ok (.aload_n 0, 1) := by decide +kernel
theorem d_Mod_isPattern_17 : decode b_Mod_isPattern 17 = .ok (.getfield 45, 3) := by decide +kernel
theorem d_Mod_isPattern_20 : decode b_Mod_isPattern 20 = .ok (.if_icmp .ge 47, 3) := by decide +kernel
theorem d_Mod_isPattern_23 : decode b_Mod_isPattern 23 = .ok (.iload_n 1, 1) := by decide +kernel
theorem d_Mod_isPattern_24 : decode b_Mod_isPattern 24 = .ok (.ifCond .eq 35, 3) := by decide +kernel
theorem d_Mod_isPattern_27 : decode b_Mod_isPattern 27 = .ok (.aload_n 0, 1) := by decide +kernel
theorem d_Mod_isPattern_28 : decode b_Mod_isPattern 28 = .ok (.getfield 20, 3) := by decide +kernel
theorem d_Mod_isPattern_31 : decode b_Mod_isPattern 31 = .ok (.iload_n 2, 1) := by decide +kernel
theorem d_Mod_isPattern_32 : decode b_Mod_isPattern 32 = .ok (.iaload, 1) := by decide +kernel
theorem d_Mod_isPattern_33 : decode b_Mod_isPattern 33 = .ok (.bipush 42, 2) := by decide +kernel
theorem d_Mod_isPattern_35 : decode b_Mod_isPattern 35 = .ok (.if_icmp .ne 20, 3) := by decide +kernel
theorem d_Mod_isPattern_38 : decode b_Mod_isPattern 38 = .ok (.iload_n 2, 1) := by decide +kernel
theorem d_Mod_isPattern_39 : decode b_Mod_isPattern 39 = .ok (.ifCond .le 20, 3) := by decide +kernel
theorem d_Mod_isPattern_42 : decode b_Mod_isPattern 42 = .ok (.aload_n 0, 1) := by decide +kernel
theorem d_Mod_isPattern_43 : decode b_Mod_isPattern 43 = .ok (.getfield 20, 3) := by decide +kernel
theorem d_Mod_isPattern_46 : decode b_Mod_isPattern 46 = .ok (.iload_n 2, 1) := by decide +kernel
theorem d_Mod_isPattern_47 : decode b_Mod_isPattern 47 = .ok (.iconst 1, 1) := by decide +kernel
theorem d_Mod_isPattern_48 : decode b_Mod_isPattern 48 = .ok (.isub, 1) := by decide +kernel
theorem d_Mod_isPattern_49 : decode b_Mod_isPattern 49 = .ok (.iaload, 1) := by decide +kernel
theorem d_Mod_isPattern_50 : decode b_Mod_isPattern 50 = .ok (.bipush 42, 2) := by decide +kernel
theorem d_Mod_isPattern_52 : decode b_Mod_isPattern 52 = .ok (.if_icmp .eq 7, 3) := by decide +kernel
theorem d_Mod_isPattern_55 : decode b_Mod_isPattern 55 = .ok (.iconst 1, 1) := by decide +kernel
theorem d_Mod_isPattern_56 : decode b_Mod_isPattern 56 = .ok (.goto 4, 3) := by decide +kernel
theorem d_Mod_isPattern_59 : decode b_Mod_isPattern 59 = .ok (.iconst 0, 1) := by decide +kernel
theorem d_Mod_isPattern_60 : decode b_Mod_isPattern 60 = .ok (.istore_n 1, 1) := by decide +kernel
theorem d_Mod_isPattern_61 : decode b_Mod_isPattern 61 = .ok (.iinc 2 1, 3) := by decide +kernel
theorem d_Mod_isPattern_64 : decode b_Mod_isPattern 64 = .ok (.goto (-49), 3) := by decide +kernel
theorem d_Mod_isPattern_67 : decode b_Mod_isPattern 67 = .ok (.iload_n 1, 1) := by decide +kernel
theorem d_Mod_isPattern_68 : decode b_Mod_isPattern 68 = .ok (.ireturn, 1) := by decide +kernel
theorem d_Mod_stands_0 : decode b_Mod_stands 0 = .ok (.iload_n 0, 1) := by decide +kernel
theorem d_Mod_stands_1 : decode b_Mod_stands 1 = .ok (.bipush 46, 2) := by decide +kernel
theorem d_Mod_stands_3 : decode b_Mod_stands 3 = .ok (.if_icmp .ne 23, 3) := by decide +kernel
theorem d_Mod_stands_6 : decode b_Mod_stands 6 = .ok (.iload_n 1, 1) := by decide +kernel
theorem d_Mod_stands_7 : decode b_Mod_stands 7 = .ok (.bipush 10, 2) := by decide +kernel
theorem d_Mod_stands_9 : decode b_Mod_stands 9 = .ok (.if_icmp .eq 13, 3) := by decide +kernel
theorem d_Mod_stands_12 : decode b_Mod_stands 12 = .ok (.iload_n 1, 1) := by decide +kernel
theorem d_Mod_stands_13 : decode b_Mod_stands 13 = .ok (.bipush 13, 2) := by decide +kernel
theorem d_Mod_stands_15 : decode b_Mod_stands 15 = .ok (.if_icmp .eq 7, 3) := by decide +kernel
theorem d_Mod_stands_18 : decode b_Mod_stands 18 = .ok (.iconst 1, 1) := by decide +kernel
theorem d_Mod_stands_19 : decode b_Mod_stands 19 = .ok (.goto 17, 3) := by decide +kernel
theorem d_Mod_stands_22 : decode b_Mod_stands 22 = .ok (.iconst 0, 1) := by decide +kernel
theorem d_Mod_stands_23 : decode b_Mod_stands 23 = .ok (.goto 13, 3) := by decide +kernel
theorem d_Mod_stands_26 : decode b_Mod_stands 26 = .ok (.iload_n 1, 1) := by decide +kernel
theorem d_Mod_stands_27 : decode b_Mod_stands 27 = .ok (.iload_n 0, 1) := by decide +kernel
theorem d_Mod_stands_28 : decode b_Mod_stands 28 = .ok (.if_icmp .ne 7, 3) := by decide +kernel
theorem d_Mod_stands_31 : decode b_Mod_stands 31 = .ok (.iconst 1, 1) := by decide +kernel
theorem d_Mod_stands_32 : decode b_Mod_stands 32 = .ok (.goto 4, 3) := by decide +kernel
theorem d_Mod_stands_35 : decode b_Mod_stands 35 = .ok (.iconst 0, 1) := by decide +kernel
theorem d_Mod_stands_36 : decode b_Mod_stands 36 = .ok (.ireturn, 1) := by decide +kernel
theorem d_Mod_match_0 : decode b_Mod_match 0 = .ok (.aload_n 0, 1) := by decide +kernel
theorem d_Mod_match_1 : decode b_Mod_match 1 = .ok (.getfield 13, 3) := by decide +kernel
theorem d_Mod_match_4 : decode b_Mod_match 4 = .ok (.iload_n 1, 1) := by decide +kernel
theorem d_Mod_match_5 : decode b_Mod_match 5 = .ok (.iaload, 1) := by decide +kernel
theorem d_Mod_match_6 : decode b_Mod_match 6 = .ok (.istore_n 3, 1) := by decide +kernel
theorem d_Mod_match_7 : decode b_Mod_match 7 = .ok (.iconst 0, 1) := by decide +kernel
theorem d_Mod_match_8 : decode b_Mod_match 8 = .ok (.istore 4, 2) := by decide +kernel
theorem d_Mod_match_10 : decode b_Mod_match 10 = .ok (.iload 4, 2) := by decide +kernel
theorem d_Mod_match_12 : decode b_Mod_match 12 = .ok (.iload_n 3, 1) := by decide +kernel
theorem d_Mod_match_13 : decode b_Mod_match 13 = .ok (.if_icmp .gt 27, 3) := by decide +kernel
theorem d_Mod_match_16 : decode b_Mod_match 16 = .ok (.aload_n 0, 1) := by decide +kernel
theorem d_Mod_match_17 : decode b_Mod_match 17 = .ok (.getfield 39, 3) := by decide +kernel
theorem d_Mod_match_20 : decode b_Mod_match 20 = .ok (.iload 4, 2) := by decide +kernel
theorem d_Mod_match_22 : decode b_Mod_match 22 = .ok (.iload 4, 2) := by decide +kernel
theorem d_Mod_match_24 : decode b_Mod_match 24 = .ok (.iload_n 2, 1) := by decide +kernel
theorem d_Mod_match_25 : decode b_Mod_match 25 = .ok (.if_icmp .ne 7, 3) := by decide +kernel
theorem d_Mod_match_28 : decode b_Mod_match 28 = .ok (.iconst 1, 1) := by decide +kernel
theorem d_Mod_match_29 : decode b_Mod_match 29 = .ok (.goto 4, 3) := by decide +kernel
theorem d_Mod_match_32 : decode b_Mod_match 32 = .ok (.iconst 0, 1) := by decide +kernel
theorem d_Mod_match_33 : decode b_Mod_match 33 = .ok (.bastore, 1) := by decide +kernel
theorem d_Mod_match_34 : decode b_Mod_match 34 = .ok (.iinc 4 1, 3) := by decide +kernel
theorem d_Mod_match_37 : decode b_Mod_match 37 = .ok (.goto (-27), 3) := by decide +kernel
theorem d_Mod_match_40 : decode b_Mod_match 40 = .ok (.iconst 0, 1) := by decide +kernel
theorem d_Mod_match_41 : decode b_Mod_match 41 = .ok (.istore 4, 2) := by decide +kernel
theorem d_Mod_match_43 : decode b_Mod_match 43 = .ok (.iload 4, 2) := by decide +kernel
theorem d_Mod_match_45 : decode b_Mod_match 45 = .ok (.aload_n 0, 1) := by decide +kernel
theorem d_Mod_match_46 : decode b_Mod_match 46 = .ok (.getfield 45, 3) := by decide +kernel
theorem d_Mod_match_49 : decode b_Mod_match 49 = .ok (.if_icmp .ge 224, 3) := by decide +kernel
theorem d_Mod_match_52 : decode b_Mod_match 52 = .ok (.iload 4, 2) := by decide +kernel
theorem d_Mod_match_54 : decode b_Mod_match 54 = .ok (.iconst 1, 1) := by decide +kernel
theorem d_Mod_match_55 : decode b_Mod_match 55 = .ok (.iadd, 1) := by decide +kernel
theorem d_Mod_match_56 : decode b_Mod_match 56 = .ok (.aload_n 0, 1) := by decide +kernel
theorem d_Mod_match_57 : decode b_Mod_match 57 = .ok (.getfield 45, 3) := by decide +kernel
theorem d_Mod_match_60 : decode b_Mod_match 60 = .ok (.if_icmp .ge 21, 3) := by decide +kernel
theorem d_Mod_match_63 : decode b_Mod_match 63 = .ok (.aload_n 0, 1) := by decide +kernel
theorem d_Mod_match_64 : decode b_Mod_match 64 = .ok (.getfield 20, 3) := by decide +kernel
theorem d_Mod_match_67 : decode b_Mod_match 67 = .ok (.iload 4, 2) := by decide +kernel
theorem d_Mod_match_69 : decode b_Mod_match 69 = .ok (.iconst 1, 1) := by decide +kernel
theorem d_Mod_match_70 : decode b_Mod_match 70 = .ok (.iadd, 1) := by decide +kernel
theorem d_Mod_match_71 : decode b_Mod_match 71 = .ok (.iaload, 1) := by decide +kernel
theorem d_Mod_match_72 : decode b_Mod_match 72 = .ok (.bipush 42, 2) := by decide +kernel
theorem d_Mod_match_74 : decode b_Mod_match 74 = .ok (.if_icmp .ne 7, 3) := by decide +kernel
theorem d_Mod_match_77 : decode b_Mod_match 77 = .ok (.iconst 1, 1) := by decide +kernel
theorem d_Mod_match_78 : decode b_Mod_match 78 = .ok (.goto 4, 3) := by decide +kernel
theorem d_Mod_match_81 : decode b_Mod_match 81 = .ok (.iconst 0, 1) := by decide +kernel
theorem d_Mod_match_82 : decode b_Mod_match 82 = .ok (.istore 5, 2) := by decide +kernel
theorem d_Mod_match_84 : decode b_Mod_match 84 = .ok (.aload_n 0, 1) := by decide +kernel
theorem d_Mod_match_85 : decode b_Mod_match 85 = .ok (.getfield 20, 3) := by decide +kernel
theorem d_Mod_match_88 : decode b_Mod_match 88 = .ok (.iload 4, 2) := by decide +kernel
theorem d_Mod_match_90 : decode b_Mod_match 90 = .ok (.iaload, 1) := by decide +kernel
theorem d_Mod_match_91 : decode b_Mod_match 91 = .ok (.bipush 42, 2) := by decide +kernel
theorem d_Mod_match_93 : decode b_Mod_match 93 = .ok (.if_icmp .eq 88, 3) := by decide +kernel
theorem d_Mod_match_96 : decode b_Mod_match 96 = .ok (.iload 5, 2) := by decide +kernel
theorem d_Mod_match_98 : decode b_Mod_match 98 = .ok (.ifCond .eq 83, 3) := by decide +kernel
theorem d_Mod_match_101 : decode b_Mod_match 101 = .ok (.iload_n 2, 1) := by decide +kernel
theorem d_Mod_match_102 : decode b_Mod_match 102 = .ok (.istore 6, 2) := by decide +kernel
theorem d_Mod_match_104 : decode b_Mod_match 104 = .ok (.iload 6, 2) := by decide +kernel
theorem d_Mod_match_106 : decode b_Mod_match 106 = .ok (.iload_n 3, 1) := by decide +kernel
theorem d_Mod_match_107 : decode b_Mod_match 107 = .ok (.if_icmp .ge 71, 3) := by decide +kernel
theorem d_Mod_match_110 : decode b_Mod_match 110 = .ok (.aload_n 0, 1) := by decide +kernel
theorem d_Mod_match_111 : decode b_Mod_match 111 = .ok (.getfield 39, 3) := by decide +kernel
theorem d_Mod_match_114 : decode b_Mod_match 114 = .ok (.iload 6, 2) := by decide +kernel
theorem d_Mod_match_116 : decode b_Mod_match 116 = .ok (.iconst 1, 1) := by decide +kernel
theorem d_Mod_match_117 : decode b_Mod_match 117 = .ok (.iadd, 1) := by decide +kernel
theorem d_Mod_match_118 : decode b_Mod_match 118 = .ok (.aload_n 0, 1) := by decide +kernel
theorem d_Mod_match_119 : decode b_Mod_match 119 = .ok (.getfield 39, 3) := by decide +kernel
theorem d_Mod_match_122 : decode b_Mod_match 122 = .ok (.iload 6, 2) := by decide +kernel
theorem d_Mod_match_124 : decode b_Mod_match 124 = .ok (.iconst 1, 1) := by decide +kernel
theorem d_Mod_match_125 : decode b_Mod_match 125 = .ok (.iadd, 1) := by decide +kernel
theorem d_Mod_match_126 : decode b_Mod_match 126 = .ok (.baload, 1) := by decide +kernel
theorem d_Mod_match_127 : decode b_Mod_match 127 = .ok (.ifCond .ne 39, 3) := by decide +kernel
theorem d_Mod_match_130 : decode b_Mod_match 130 = .ok (.aload_n 0, 1) := by decide +kernel
theorem d_Mod_match_131 : decode b_Mod_match 131 = .ok (.getfield 39, 3) := by decide +kernel
theorem d_Mod_match_134 : decode b_Mod_match 134 = .ok (.iload 6, 2) := by decide +kernel
theorem d_Mod_match_136 : decode b_Mod_match 136 = .ok (.baload, 1) := by decide +kernel
theorem d_Mod_match_137 : decode b_Mod_match 137 = .ok (.ifCond .eq 33, 3) := by decide +kernel
theorem d_Mod_match_140 : decode b_Mod_match 140 = .ok (.aload_n 0, 1) := by decide +kernel
theorem d_Mod_match_141 : decode b_Mod_match 141 = .ok (.getfield 20, 3) := by decide +kernel
theorem d_Mod_match_144 : decode b_Mod_match 144 = .ok (.iload 4, 2) := by decide +kernel
theorem d_Mod_match_146 : decode b_Mod_match 146 = .ok (.iaload, 1) := by decide +kernel
theorem d_Mod_match_147 : decode b_Mod_match 147 = .ok (.aload_n 0, 1) := by decide +kernel
theorem d_Mod_match_148 : decode b_Mod_match 148 = .ok (.getfield 7, 3) := by decide +kernel
theorem d_Mod_match_151 : decode b_Mod_match 151 = .ok (.sipush 160, 3) := by decide +kernel
theorem d_Mod_match_154 : decode b_Mod_match 154 = .ok (.iload_n 1, 1) := by decide +kernel
theorem d_Mod_match_155 : decode b_Mod_match 155 = .ok (.imul, 1) := by decide +kernel
theorem d_Mod_match_156 : decode b_Mod_match 156 = .ok (.iload 6, 2) := by decide +kernel
theorem d_Mod_match_158 : decode b_Mod_match 158 = .ok (.iadd, 1) := by decide +kernel
theorem d_Mod_match_159 : decode b_Mod_match 159 = .ok (.iaload, 1) := by decide +kernel
theorem d_Mod_match_160 : decode b_Mod_match 160 = .ok (.invokestatic 129, 3) := by decide +kernel
theorem d_Mod_match_163 : decode b_Mod_match 163 = .ok (.ifCond .eq 7, 3) := by decide +kernel
theorem d_Mod_match_166 : decode b_Mod_match 166 = .ok (.iconst 1, 1) := by decide +kernel
theorem d_Mod_match_167 : decode b_Mod_match 167 = .ok (.goto 4, 3) := by decide +kernel
theorem d_Mod_match_170 : decode b_Mod_match 170 = .ok (.iconst 0, 1) := by decide +kernel
theorem d_Mod_match_171 : decode b_Mod_match 171 = .ok (.bastore, 1) := by decide +kernel
theorem d_Mod_match_172 : decode b_Mod_match 172 = .ok (.iinc 6 1, 3) := by decide +kernel
theorem d_Mod_match_175 : decode b_Mod_match 175 = .ok (.goto (-71), 3) := by decide +kernel
theorem d_Mod_match_178 : decode b_Mod_match 178 = .ok (.goto 89, 3) := by decide +kernel
theorem d_Mod_match_181 : decode b_Mod_match 181 = .ok (.aload_n 0, 1) := by decide +kernel
theorem d_Mod_match_182 : decode b_Mod_match 182 = .ok (.getfield 20, 3) := by decide +kernel
theorem d_Mod_match_185 : decode b_Mod_match 185 = .ok (.iload 4, 2) := by decide +kernel
theorem d_Mod_match_187 : decode b_Mod_match 187 = .ok (.iaload, 1) := by decide +kernel
theorem d_Mod_match_188 : decode b_Mod_match 188 = .ok (.bipush 42, 2) := by decide +kernel
theorem d_Mod_match_190 : decode b_Mod_match 190 = .ok (.if_icmp .eq 77, 3) := by decide +kernel
theorem d_Mod_match_193 : decode b_Mod_match 193 = .ok (.iload_n 3, 1) := by decide +kernel
theorem d_Mod_match_194 : decode b_Mod_match 194 = .ok (.istore 6, 2) := by decide +kernel
theorem d_Mod_match_196 : decode b_Mod_match 196 = .ok (.iload 6, 2) := by decide +kernel
theorem d_Mod_match_198 : decode b_Mod_match 198 = .ok (.iload_n 2, 1) := by decide +kernel
theorem d_Mod_match_199 : decode b_Mod_match 199 = .ok (.if_icmp .le 61, 3) := by decide +kernel
theorem d_Mod_match_202 : decode b_Mod_match 202 = .ok (.aload_n 0, 1) := by decide +kernel
theorem d_Mod_match_203 : decode b_Mod_match 203 = .ok (.getfield 39, 3) := by decide +kernel
theorem d_Mod_match_206 : decode b_Mod_match 206 = .ok (.iload 6, 2) := by decide +kernel
theorem d_Mod_match_208 : decode b_Mod_match 208 = .ok (.aload_n 0, 1) := by decide +kernel
theorem d_Mod_match_209 : decode b_Mod_match 209 = .ok (.getfield 39, 3) := by decide +kernel
theorem d_Mod_match_212 : decode b_Mod_match 212 = .ok (.iload 6, 2) := by decide +kernel
theorem d_Mod_match_214 : decode b_Mod_match 214 = .ok (.iconst 1, 1) := by decide +kernel
theorem d_Mod_match_215 : decode b_Mod_match 215 = .ok (.isub, 1) := by decide +kernel
theorem d_Mod_match_216 : decode b_Mod_match 216 = .ok (.baload, 1) := by decide +kernel
theorem d_Mod_match_217 : decode b_Mod_match 217 = .ok (.ifCond .eq 35, 3) := by decide +kernel
theorem d_Mod_match_220 : decode b_Mod_match 220 = .ok (.aload_n 0, 1) := by decide +kernel
theorem d_Mod_match_221 : decode b_Mod_match 221 = .ok (.getfield 20, 3) := by decide +kernel
theorem d_Mod_match_224 : decode b_Mod_match 224 = .ok (.iload 4, 2) := by decide +kernel
theorem d_Mod_match_226 : decode b_Mod_match 226 = .ok (.iaload, 1) := by decide +kernel
theorem d_Mod_match_227 : decode b_Mod_match 227 = .ok (.aload_n 0, 1) := by decide +kernel
theorem d_Mod_match_228 : decode b_Mod_match 228 = .ok (.getfield 7, 3) := by decide +kernel
theorem d_Mod_match_231 : decode b_Mod_match 231 = .ok (.sipush 160, 3) := by decide +kernel
theorem d_Mod_match_234 : decode b_Mod_match 234 = .ok (.iload_n 1, 1) := by decide +kernel
theorem d_Mod_match_235 : decode b_Mod_match 235 = .ok (.imul, 1) := by decide +kernel
theorem d_Mod_match_236 : decode b_Mod_match 236 = .ok (.iload 6, 2) := by decide +kernel
theorem d_Mod_match_238 : decode b_Mod_match 238 = .ok (.iadd, 1) := by decide +kernel
theorem d_Mod_match_239 : decode b_Mod_match 239 = .ok (.iconst 1, 1) := by decide +kernel
theorem d_Mod_match_240 : decode b_Mod_match 240 = .ok (.isub, 1) := by decide +kernel
theorem d_Mod_match_241 : decode b_Mod_match 241 = .ok (.iaload, 1) := by decide +kernel
theorem d_Mod_match_242 : decode b_Mod_match 242 = .ok (.invokestatic 129, 3) := by decide +kernel
theorem d_Mod_match_245 : decode b_Mod_match 245 = .ok (.ifCond .eq 7, 3) := by decide +kernel
theorem d_Mod_match_248 : decode b_Mod_match 248 = .ok (.iconst 1, 1) := by decide +kernel
theorem d_Mod_match_249 : decode b_Mod_match 249 = .ok (.goto 4, 3) := by decide +kernel
theorem d_Mod_match_252 : decode b_Mod_match 252 = .ok (.iconst 0, 1) := by decide +kernel
theorem d_Mod_match_253 : decode b_Mod_match 253 = .ok (.bastore, 1) := by decide +kernel
theorem d_Mod_match_254 : decode b_Mod_match 254 = .ok (.iinc 6 (-1), 3) := by decide +kernel
theorem d_Mod_match_257 : decode b_Mod_match 257 = .ok (.goto (-61), 3) := by decide +kernel
theorem d_Mod_match_260 : decode b_Mod_match 260 = .ok (.aload_n 0, 1) := by decide +kernel
theorem d_Mod_match_261 : decode b_Mod_match 261 = .ok (.getfield 39, 3) := by decide +kernel
theorem d_Mod_match_264 : decode b_Mod_match 264 = .ok (.iload_n 2, 1) := by decide +kernel
theorem d_Mod_match_265 : decode b_Mod_match 265 = .ok (.iconst 0, 1) := by decide +kernel
theorem d_Mod_match_266 : decode b_Mod_match 266 = .ok (.bastore, 1) := by decide +kernel
theorem d_Mod_match_267 : decode b_Mod_match 267 = .ok (.iinc 4 1, 3) := by decide +kernel
theorem d_Mod_match_270 : decode b_Mod_match 270 = .ok (.goto (-227), 3) := by decide +kernel
theorem d_Mod_match_273 : decode b_Mod_match 273 = .ok (.iload_n 3, 1) := by decide +kernel
theorem d_Mod_match_274 : decode b_Mod_match 274 = .ok (.istore 4, 2) := by decide +kernel
theorem d_Mod_match_276 : decode b_Mod_match 276 = .ok (.iload 4, 2) := by decide +kernel
theorem d_Mod_match_278 : decode b_Mod_match 278 = .ok (.iload_n 2, 1) := by decide +kernel
theorem d_Mod_match_279 : decode b_Mod_match 279 = .ok (.if_icmp .lt 19, 3) := by decide +kernel
theorem d_Mod_match_282 : decode b_Mod_match 282 = .ok (.aload_n 0, 1) := by decide +kernel
theorem d_Mod_match_283 : decode b_Mod_match 283 = .ok (.getfield 39, 3) := by decide +kernel
theorem d_Mod_match_286 : decode b_Mod_match 286 = .ok (.iload 4, 2) := by decide +kernel
theorem d_Mod_match_288 : decode b_Mod_match 288 = .ok (.baload, 1) := by decide +kernel
theorem d_Mod_match_289 : decode b_Mod_match 289 = .ok (.ifCond .ne 9, 3) := by decide +kernel
theorem d_Mod_match_292 : decode b_Mod_match 292 = .ok (.iinc 4 (-1), 3) := by decide +kernel
theorem d_Mod_match_295 : decode b_Mod_match 295 = .ok (.goto (-19), 3) := by decide +kernel
theorem d_Mod_match_298 : decode b_Mod_match 298 = .ok (.iload 4, 2) := by decide +kernel
theorem d_Mod_match_300 : decode b_Mod_match 300 = .ok (.iload_n 2, 1) := by decide +kernel
theorem d_Mod_match_301 : decode b_Mod_match 301 = .ok (.if_icmp .ge 7, 3) := by decide +kernel
theorem d_Mod_match_304 : decode b_Mod_match 304 = .ok (.iconst (-1), 1) := by decide +kernel
theorem d_Mod_match_305 : decode b_Mod_match 305 = .ok (.goto 5, 3) := by decide +kernel
theorem d_Mod_match_308 : decode b_Mod_match 308 = .ok (.iload 4, 2) := by decide +kernel
theorem d_Mod_match_310 : decode b_Mod_match 310 = .ok (.ireturn, 1) := by decide +kernel
theorem d_Mod_find_0 : decode b_Mod_find 0 = .ok (.aload_n 0, 1) := by decide +kernel
theorem d_Mod_find_1 : decode b_Mod_find 1 = .ok (.iload_n 1, 1) := by decide +kernel
theorem d_Mod_find_2 : decode b_Mod_find 2 = .ok (.invokevirtual 121, 3) := by decide +kernel
theorem d_Mod_find_5 : decode b_Mod_find 5 = .ok (.istore_n 3, 1) := by decide +kernel
theorem d_Mod_find_6 : decode b_Mod_find 6 = .ok (.iload_n 3, 1) := by decide +kernel
theorem d_Mod_find_7 : decode b_Mod_find 7 = .ok (.ifCond .lt 24, 3) := by decide +kernel
theorem d_Mod_find_10 : decode b_Mod_find 10 = .ok (.iload_n 2, 1) := by decide +kernel
theorem d_Mod_find_11 : decode b_Mod_find 11 = .ok (.ifCond .lt 20, 3) := by decide +kernel
theorem d_Mod_find_14 : decode b_Mod_find 14 = .ok (.iload_n 2, 1) := by decide +kernel
theorem d_Mod_find_15 : decode b_Mod_find 15 = .ok (.aload_n 0, 1) := by decide +kernel
theorem d_Mod_find_16 : decode b_Mod_find 16 = .ok (.getfield 13, 3) := by decide +kernel
theorem d_Mod_find_19 : decode b_Mod_find 19 = .ok (.iload_n 3, 1) := by decide +kernel
theorem d_Mod_find_20 : decode b_Mod_find 20 = .ok (.iaload, 1) := by decide +kernel
theorem d_Mod_find_21 : decode b_Mod_find 21 = .ok (.if_icmp .gt 10, 3) := by decide +kernel
theorem d_Mod_find_24 : decode b_Mod_find 24 = .ok (.aload_n 0, 1) := by decide +kernel
theorem d_Mod_find_25 : decode b_Mod_find 25 = .ok (.invokevirtual 132, 3) := by decide +kernel
theorem d_Mod_find_28 : decode b_Mod_find 28 = .ok (.ifCond .ne 5, 3) := by decide +kernel
theorem d_Mod_find_31 : decode b_Mod_find 31 = .ok (.iconst (-1), 1) := by decide +kernel
theorem d_Mod_find_32 : decode b_Mod_find 32 = .ok (.ireturn, 1) := by decide +kernel
theorem d_Mod_find_33 : decode b_Mod_find 33 = .ok (.iload_n 2, 1) := by decide +kernel
theorem d_Mod_find_34 : decode b_Mod_find 34 = .ok (.istore 4, 2) := by decide +kernel
theorem d_Mod_find_36 : decode b_Mod_find 36 = .ok (.iload 4, 2) := by decide +kernel
theorem d_Mod_find_38 : decode b_Mod_find 38 = .ok (.aload_n 0, 1) := by decide +kernel
theorem d_Mod_find_39 : decode b_Mod_find 39 = .ok (.getfield 13, 3) := by decide +kernel
theorem d_Mod_find_42 : decode b_Mod_find 42 = .ok (.iload_n 3, 1) := by decide +kernel
theorem d_Mod_find_43 : decode b_Mod_find 43 = .ok (.iaload, 1) := by decide +kernel
theorem d_Mod_find_44 : decode b_Mod_find 44 = .ok (.if_icmp .gt 32, 3) := by decide +kernel
theorem d_Mod_find_47 : decode b_Mod_find 47 = .ok (.aload_n 0, 1) := by decide +kernel
theorem d_Mod_find_48 : decode b_Mod_find 48 = .ok (.iload_n 3, 1) := by decide +kernel
theorem d_Mod_find_49 : decode b_Mod_find 49 = .ok (.iload 4, 2) := by decide +kernel
theorem d_Mod_find_51 : decode b_Mod_find 51 = .ok (.invokevirtual 136, 3) := by decide +kernel
theorem d_Mod_find_54 : decode b_Mod_find 54 = .ok (.istore 5, 2) := by decide +kernel
theorem d_Mod_find_56 : decode b_Mod_find 56 = .ok (.iload 5, 2) := by decide +kernel
theorem d_Mod_find_58 : decode b_Mod_find 58 = .ok (.ifCond .lt 12, 3) := by decide +kernel
theorem d_Mod_find_61 : decode b_Mod_find 61 = .ok (.aload_n 0, 1) := by decide +kernel
theorem d_Mod_find_62 : decode b_Mod_find 62 = .ok (.iload 5, 2) := by decide +kernel
theorem d_Mod_find_64 : decode b_Mod_find 64 = .ok (.putfield 42, 3) := by decide +kernel
theorem d_Mod_find_67 : decode b_Mod_find 67 = .ok (.iload 4, 2) := by decide +kernel
theorem d_Mod_find_69 : decode b_Mod_find 69 = .ok (.ireturn, 1) := by decide +kernel
theorem d_Mod_find_70 : decode b_Mod_find 70 = .ok (.iinc 4 1, 3) := by decide +kernel
theorem d_Mod_find_73 : decode b_Mod_find 73 = .ok (.goto (-37), 3) := by decide +kernel
theorem d_Mod_find_76 : decode b_Mod_find 76 = .ok (.iconst (-1), 1) := by decide +kernel
theorem d_Mod_find_77 : decode b_Mod_find 77 = .ok (.ireturn, 1) := by decide +kernel
theorem d_Mod_end_0 : decode b_Mod_end 0 = .ok (.aload_n 0, 1) := by decide +kernel
theorem d_Mod_end_1 : decode b_Mod_end 1 = .ok (.getfield 42, 3) := by decide +kernel
theorem d_Mod_end_4 : decode b_Mod_end 4 = .ok (.ireturn, 1) := by decide +kernel
