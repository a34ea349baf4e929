theorem d_Mod_init_0 : decode b_Mod_init 0 = .ok (.aload_n 0, 1) := by decide +kernel
theorem d_Mod_init_1 : decode b_Mod_init 1 = .ok (.invokespecial 1, 3) := by decide +kernel
theorem d_Mod_init_4 : decode b_Mod_init 4 = .ok (.aload_n 0, 1) := by decide +kernel
theorem d_Mod_init_5 : decode b_Mod_init 5 = .ok (.sipush 2080, 3) := by decide +kernel
theorem d_Mod_init_8 : decode b_Mod_init 8 = .ok (.newarray .int, 2) := by decide +kernel
theorem d_Mod_init_10 : decode b_Mod_init 10 = .ok (.putfield 7, 3) := by decide +kernel
theorem d_Mod_init_13 : decode b_Mod_init 13 = .ok (.aload_n 0, 1) := by decide +kernel
theorem d_Mod_init_14 : decode b_Mod_init 14 = .ok (.bipush 13, 2) := by decide +kernel
theorem d_Mod_init_16 : decode b_Mod_init 16 = .ok (.newarray .int, 2) := by decide +kernel
theorem d_Mod_init_18 : decode b_Mod_init 18 = .ok (.putfield 13, 3) := by decide +kernel
theorem d_Mod_init_21 : decode b_Mod_init 21 = .ok (.aload_n 0, 1) := by decide +kernel
theorem d_Mod_init_22 : decode b_Mod_init 22 = .ok (.iconst 5, 1) := by decide +kernel
theorem d_Mod_init_23 : decode b_Mod_init 23 = .ok (.newarray .boolean, 2) := by decide +kernel
theorem d_Mod_init_25 : decode b_Mod_init 25 = .ok (.putfield 16, 3) := by decide +kernel
theorem d_Mod_init_28 : decode b_Mod_init 28 = .ok (.aload_n 0, 1) := by decide +kernel
theorem d_Mod_init_29 : decode b_Mod_init 29 = .ok (.bipush 24, 2) := by decide +kernel
theorem d_Mod_init_31 : decode b_Mod_init 31 = .ok (.newarray .int, 2) := by decide +kernel
theorem d_Mod_init_33 : decode b_Mod_init 33 = .ok (.putfield 20, 3) := by decide +kernel
theorem d_Mod_init_36 : decode b_Mod_init 36 = .ok (.aload_n 0, 1) := by decide +kernel
theorem d_Mod_init_37 : decode b_Mod_init 37 = .ok (.iconst (-1), 1) := by decide +kernel
theorem d_Mod_init_38 : decode b_Mod_init 38 = .ok (.putfield 23, 3) := by decide +kernel
theorem d_Mod_init_41 : decode b_Mod_init 41 = .ok (.aload_n 0, 1) := by decide +kernel
theorem d_Mod_init_42 : decode b_Mod_init 42 = .ok (.sipush 160, 3) := by decide +kernel
theorem d_Mod_init_45 : decode b_Mod_init 45 = .ok (.newarray .int, 2) := by decide +kernel
theorem d_Mod_init_47 : decode b_Mod_init 47 = .ok (.putfield 27, 3) := by decide +kernel
theorem d_Mod_init_50 : decode b_Mod_init 50 = .ok (.aload_n 0, 1) := by decide +kernel
theorem d_Mod_init_51 : decode b_Mod_init 51 = .ok (.sipush 161, 3) := by decide +kernel
theorem d_Mod_init_54 : decode b_Mod_init 54 = .ok (.newarray .int, 2) := by decide +kernel
theorem d_Mod_init_56 : decode b_Mod_init 56 = .ok (.putfield 30, 3) := by decide +kernel
theorem d_Mod_init_59 : decode b_Mod_init 59 = .ok (.aload_n 0, 1) := by decide +kernel
theorem d_Mod_init_60 : decode b_Mod_init 60 = .ok (.sipush 161, 3) := by decide +kernel
theorem d_Mod_init_63 : decode b_Mod_init 63 = .ok (.newarray .int, 2) := by decide +kernel
theorem d_Mod_init_65 : decode b_Mod_init 65 = .ok (.putfield 33, 3) := by decide +kernel
theorem d_Mod_init_68 : decode b_Mod_init 68 = .ok (.aload_n 0, 1) := by decide +kernel
theorem d_Mod_init_69 : decode b_Mod_init 69 = .ok (.sipush 162, 3) := by decide +kernel
theorem d_Mod_init_72 : decode b_Mod_init 72 = .ok (.newarray .int, 2) := by decide +kernel
theorem d_Mod_init_74 : decode b_Mod_init 74 = .ok (.putfield 36, 3) := by decide +kernel
theorem d_Mod_init_77 : decode b_Mod_init 77 = .ok (.aload_n 0, 1) := by decide +kernel
theorem d_Mod_init_78 : decode b_Mod_init 78 = .ok (.sipush 161, 3) := by decide +kernel
theorem d_Mod_init_81 : decode b_Mod_init 81 = .ok (.newarray .boolean, 2) := by decide +kernel
theorem d_Mod_init_83 : decode b_Mod_init 83 = .ok (.putfield 39, 3) := by decide +kernel
theorem d_Mod_init_86 : decode b_Mod_init 86 = .ok (.aload_n 0, 1) := by decide +kernel
theorem d_Mod_init_87 : decode b_Mod_init 87 = .ok (.iconst (-1), 1) := by decide +kernel
theorem d_Mod_init_88 : decode b_Mod_init 88 = .ok (.putfield 42, 3) := by decide +kernel
theorem d_Mod_init_91 : decode b_Mod_init 91 = .ok (.aload_n 0, 1) := by decide +kernel
theorem d_Mod_init_92 : decode b_Mod_init 92 = .ok (.iload_n 1, 1) := by decide +kernel
theorem d_Mod_init_93 : decode b_Mod_init 93 = .ok (.iconst 1, 1) := by decide +kernel
theorem d_Mod_init_94 : decode b_Mod_init 94 = .ok (.if_icmp .ne 7, 3) := by decide +kernel
theorem d_Mod_init_97 : decode b_Mod_init 97 = .ok (.iconst (-1), 1) := by decide +kernel
theorem d_Mod_init_98 : decode b_Mod_init 98 = .ok (.goto 4, 3) := by decide +kernel
theorem d_Mod_init_101 : decode b_Mod_init 101 = .ok (.iconst (-1), 1) := by decide +kernel
theorem d_Mod_init_102 : decode b_Mod_init 102 = .ok (.putfield 42, 3) := by decide +kernel
theorem d_Mod_init_105 : decode b_Mod_init 105 = .ok (.return_, 1) := by decide +kernel
theorem d_Mod_type_0 : decode b_Mod_type 0 = .ok (.aload_n 0, 1) := by decide +kernel
theorem d_Mod_type_1 : decode b_Mod_type 1 = .ok (.getfield 45, 3) := by decide +kernel
theorem d_Mod_type_4 : decode b_Mod_type 4 = .ok (.bipush 24, 2) := by decide +kernel
theorem d_Mod_type_6 : decode b_Mod_type 6 = .ok (.if_icmp .ne 5, 3) := by decide +kernel
theorem d_Mod_type_9 : decode b_Mod_type 9 = .ok (.iconst 0, 1) := by decide +kernel
theorem d_Mod_type_10 : decode b_Mod_type 10 = .ok (.ireturn, 1) := by decide +kernel
theorem d_Mod_type_11 : decode b_Mod_type 11 = .ok (.aload_n 0, 1) := by decide +kernel
theorem d_Mod_type_12 : decode b_Mod_type 12 = .ok (.getfield 20, 3) := by decide +kernel
theorem d_Mod_type_15 : decode b_Mod_type 15 = .ok (.aload_n 0, 1) := by decide +kernel
theorem d_Mod_type_16 : decode b_Mod_type 16 = .ok (.getfield 45, 3) := by decide +kernel
theorem d_Mod_type_19 : decode b_Mod_type 19 = .ok (.iload_n 1, 1) := by decide +kernel
theorem d_Mod_type_20 : decode b_Mod_type 20 = .ok (.iastore, 1) := by decide +kernel
theorem d_Mod_type_21 : decode b_Mod_type 21 = .ok (.aload_n 0, 1) := by decide +kernel
theorem d_Mod_type_22 : decode b_Mod_type 22 = .ok (.dup, 1) := by decide +kernel
theorem d_Mod_type_23 : decode b_Mod_type 23 = .ok (.getfield 45, 3) := by decide +kernel
theorem d_Mod_type_26 : decode b_Mod_type 26 = .ok (.iconst 1, 1) := by decide +kernel
theorem d_Mod_type_27 : decode b_Mod_type 27 = .ok (.iadd, 1) := by decide +kernel
theorem d_Mod_type_28 : decode b_Mod_type 28 = .ok (.putfield 45, 3) := by decide +kernel
theorem d_Mod_type_31 : decode b_Mod_type 31 = .ok (.iconst 1, 1) := by decide +kernel
theorem d_Mod_type_32 : decode b_Mod_type 32 = .ok (.ireturn, 1) := by decide +kernel
theorem d_Mod_scrap_0 : decode b_Mod_scrap 0 = .ok (.aload_n 0, 1) := by decide +kernel
theorem d_Mod_scrap_1 : decode b_Mod_scrap 1 = .ok (.iconst 0, 1) := by decide +kernel
theorem d_Mod_scrap_2 : decode b_Mod_scrap 2 = .ok (.putfield 45, 3) := by decide +kernel
theorem d_Mod_scrap_5 : decode b_Mod_scrap 5 = .ok (.return_, 1) := by decide +kernel
theorem d_Mod_slot_0 : decode b_Mod_slot 0 = .ok (.iload_n 1, 1) := by decide +kernel
theorem d_Mod_slot_1 : decode b_Mod_slot 1 = .ok (.ifCond .ne 8, 3) := by decide +kernel
theorem d_Mod_slot_4 : decode b_Mod_slot 4 = .ok (.aload_n 0, 1) := by decide +kernel
theorem d_Mod_slot_5 : decode b_Mod_slot 5 = .ok (.getfield 48, 3) := by decide +kernel
theorem d_Mod_slot_8 : decode b_Mod_slot 8 = .ok (.ireturn, 1) := by decide +kernel
theorem d_Mod_slot_9 : decode b_Mod_slot 9 = .ok (.iload_n 1, 1) := by decide +kernel
theorem d_Mod_slot_10 : decode b_Mod_slot 10 = .ok (.iconst 1, 1) := by decide +kernel
theorem d_Mod_slot_11 : decode b_Mod_slot 11 = .ok (.if_icmp .lt 17, 3) := by decide +kernel
theorem d_Mod_slot_14 : decode b_Mod_slot 14 = .ok (.iload_n 1, 1) := by decide +kernel
theorem d_Mod_slot_15 : decode b_Mod_slot 15 = .ok (.iconst 4, 1) := by decide +kernel
theorem d_Mod_slot_16 : decode b_Mod_slot 16 = .ok (.if_icmp .gt 12, 3) := by decide +kernel
theorem d_Mod_slot_19 : decode b_Mod_slot 19 = .ok (.aload_n 0, 1) := by decide +kernel
theorem d_Mod_slot_20 : decode b_Mod_slot 20 = .ok (.getfield 16, 3) := by decide +kernel
theorem d_Mod_slot_23 : decode b_Mod_slot 23 = .ok (.iload_n 1, 1) := by decide +kernel
theorem d_Mod_slot_24 : decode b_Mod_slot 24 = .ok (.baload, 1) := by decide +kernel
theorem d_Mod_slot_25 : decode b_Mod_slot 25 = .ok (.ifCond .ne 7, 3) := by decide +kernel
theorem d_Mod_slot_28 : decode b_Mod_slot 28 = .ok (.iconst (-1), 1) := by decide +kernel
theorem d_Mod_slot_29 : decode b_Mod_slot 29 = .ok (.goto 7, 3) := by decide +kernel
theorem d_Mod_slot_32 : decode b_Mod_slot 32 = .ok (.bipush 8, 2) := by decide +kernel
theorem d_Mod_slot_34 : decode b_Mod_slot 34 = .ok (.iload_n 1, 1) := by decide +kernel
theorem d_Mod_slot_35 : decode b_Mod_slot 35 = .ok (.iadd, 1) := by decide +kernel
theorem d_Mod_slot_36 : decode b_Mod_slot 36 = .ok (.ireturn, 1) := by decide +kernel
theorem d_Mod_findPoints_0 : decode b_Mod_findPoints 0 = .ok (.aload_n 0, 1) := by decide +kernel
theorem d_Mod_findPoints_1 : decode b_Mod_findPoints 1 = .ok (.iconst 0, 1) := by decide +kernel
theorem d_Mod_findPoints_2 : decode b_Mod_findPoints 2 = .ok (.putfield 51, 3) := by decide +kernel
theorem d_Mod_findPoints_5 : decode b_Mod_findPoints 5 = .ok (.aload_n 0, 1) := by decide +kernel
theorem d_Mod_findPoints_6 : decode b_Mod_findPoints 6 = .ok (.getfield 13, 3) := by decide +kernel
theorem d_Mod_findPoints_9 : decode b_Mod_findPoints 9 = .ok (.iload_n 1, 1) := by decide +kernel
theorem d_Mod_findPoints_10 : decode b_Mod_findPoints 10 = .ok (.iaload, 1) := by decide +kernel
theorem d_Mod_findPoints_11 : decode b_Mod_findPoints 11 = .ok (.istore_n 2, 1) := by decide +kernel
theorem d_Mod_findPoints_12 : decode b_Mod_findPoints 12 = .ok (.iconst 0, 1) := by decide +kernel
theorem d_Mod_findPoints_13 : decode b_Mod_findPoints 13 = .ok (.istore_n 3, 1) := by decide +kernel
theorem d_Mod_findPoints_14 : decode b_Mod_findPoints 14 = .ok (.iload_n 3, 1) := by decide +kernel
theorem d_Mod_findPoints_15 : decode b_Mod_findPoints 15 = .ok (.iload_n 2, 1) := by decide +kernel
theorem d_Mod_findPoints_16 : decode b_Mod_findPoints 16 = .ok (.if_icmp .ge 154, 3) := by decide +kernel
theorem d_Mod_findPoints_19 : decode b_Mod_findPoints 19 = .ok (.aload_n 0, 1) := by decide +kernel
theorem d_Mod_findPoints_20 : decode b_Mod_findPoints 20 = .ok (.getfield 7, 3) := by decide +kernel
theorem d_Mod_findPoints_23 : decode b_Mod_findPoints 23 = .ok (.sipush 160, 3) := by decide +kernel
theorem d_Mod_findPoints_26 : decode b_Mod_findPoints 26 = .ok (.iload_n 1, 1) := by decide +kernel
theorem d_Mod_findPoints_27 : decode b_Mod_findPoints 27 = .ok (.imul, 1) := by decide +kernel
theorem d_Mod_findPoints_28 : decode b_Mod_findPoints 28 = .ok (.iload_n 3, 1) := by decide +kernel
theorem d_Mod_findPoints_29 : decode b_Mod_findPoints 29 = .ok (.iadd, 1) := by decide +kernel
theorem d_Mod_findPoints_30 : decode b_Mod_findPoints 30 = .ok (.iaload, 1) := by decide +kernel
theorem d_Mod_findPoints_31 : decode b_Mod_findPoints 31 = .ok (.istore 4, 2) := by decide +kernel
theorem d_Mod_findPoints_33 : decode b_Mod_findPoints 33 = .ok (.iload_n 3, 1) := by decide +kernel
theorem d_Mod_findPoints_34 : decode b_Mod_findPoints 34 = .ok (.iconst 1, 1) := by decide +kernel
theorem d_Mod_findPoints_35 : decode b_Mod_findPoints 35 = .ok (.iadd, 1) := by decide +kernel
theorem d_Mod_findPoints_36 : decode b_Mod_findPoints 36 = .ok (.iload_n 2, 1) := by decide +kernel
theorem d_Mod_findPoints_37 : decode b_Mod_findPoints 37 = .ok (.if_icmp .ge 20, 3) := by decide +kernel
theorem d_Mod_findPoints_40 : decode b_Mod_findPoints 40 = .ok (.aload_n 0, 1) := by decide +kernel
theorem d_Mod_findPoints_41 : decode b_Mod_findPoints 41 = .ok (.getfield 7, 3) := by decide +kernel
theorem d_Mod_findPoints_44 : decode b_Mod_findPoints 44 = .ok (.sipush 160, 3) := by decide +kernel
theorem d_Mod_findPoints_47 : decode b_Mod_findPoints 47 = .ok (.iload_n 1, 1) := by decide +kernel
theorem d_Mod_findPoints_48 : decode b_Mod_findPoints 48 = .ok (.imul, 1) := by decide +kernel
theorem d_Mod_findPoints_49 : decode b_Mod_findPoints 49 = .ok (.iload_n 3, 1) := by decide +kernel
theorem d_Mod_findPoints_50 : decode b_Mod_findPoints 50 = .ok (.iadd, 1) := by decide +kernel
theorem d_Mod_findPoints_51 : decode b_Mod_findPoints 51 = .ok (.iconst 1, 1) := by decide +kernel
theorem d_Mod_findPoints_52 : decode b_Mod_findPoints 52 = .ok (.iadd, 1) := by decide +kernel
theorem d_Mod_findPoints_53 : decode b_Mod_findPoints 53 = .ok (.iaload, 1) := by decide +kernel
theorem d_Mod_findPoints_54 : decode b_Mod_findPoints 54 = .ok (.goto 4, 3) := by decide +kernel
theorem d_Mod_findPoints_57 : decode b_Mod_findPoints 57 = .ok (.iconst 0, 1) := by decide +kernel
theorem d_Mod_findPoints_58 : decode b_Mod_findPoints 58 = .ok (.istore 5, 2) := by decide +kernel
theorem d_Mod_findPoints_60 : decode b_Mod_findPoints 60 = .ok (.iload 4, 2) := by decide +kernel
theorem d_Mod_findPoints_62 : decode b_Mod_findPoints 62 = .ok (.ldc 54, 2) := by decide +kernel
theorem d_Mod_findPoints_64 : decode b_Mod_findPoints 64 = .ok (.if_icmp .lt 28, 3) := by decide +kernel
theorem d_Mod_findPoints_67 : decode b_Mod_findPoints 67 = .ok (.iload 4, 2) := by decide +kernel
theorem d_Mod_findPoints_69 : decode b_Mod_findPoints 69 = .ok (.ldc 55, 2) := by decide +kernel
theorem d_Mod_findPoints_71 : decode b_Mod_findPoints 71 = .ok (.if_icmp .gt 21, 3) := by decide +kernel
theorem d_Mod_findPoints_74 : decode b_Mod_findPoints 74 = .ok (.iload 5, 2) := by decide +kernel
theorem d_Mod_findPoints_76 : decode b_Mod_findPoints 76 = .ok (.ldc 56, 2) := by decide +kernel
theorem d_Mod_findPoints_78 : decode b_Mod_findPoints 78 = .ok (.if_icmp .lt 14, 3) := by decide +kernel
theorem d_Mod_findPoints_81 : decode b_Mod_findPoints 81 = .ok (.iload 5, 2) := by decide +kernel
theorem d_Mod_findPoints_83 : decode b_Mod_findPoints 83 = .ok (.ldc 57, 2) := by decide +kernel
theorem d_Mod_findPoints_85 : decode b_Mod_findPoints 85 = .ok (.if_icmp .gt 7, 3) := by decide +kernel
theorem d_Mod_findPoints_88 : decode b_Mod_findPoints 88 = .ok (.iconst 1, 1) := by decide +kernel
theorem d_Mod_findPoints_89 : decode b_Mod_findPoints 89 = .ok (.goto 4, 3) := by decide +kernel
theorem d_Mod_findPoints_92 : decode b_Mod_findPoints 92 = .ok (.iconst 0, 1) := by decide +kernel
theorem d_Mod_findPoints_93 : decode b_Mod_findPoints 93 = .ok (.istore 6, 2) := by decide +kernel
theorem d_Mod_findPoints_95 : decode b_Mod_findPoints 95 = .ok (.aload_n 0, 1) := by decide +kernel
theorem d_Mod_findPoints_96 : decode b_Mod_findPoints 96 = .ok (.getfield 30, 3) := by decide +kernel
theorem d_Mod_findPoints_99 : decode b_Mod_findPoints 99 = .ok (.aload_n 0, 1) := by decide +kernel
theorem d_Mod_findPoints_100 : decode b_Mod_findPoints 100 = .ok (.getfield 51, 3) := by decide +kernel
theorem d_Mod_findPoints_103 : decode b_Mod_findPoints 103 = .ok (.iload_n 3, 1) := by decide +kernel
theorem d_Mod_findPoints_104 : decode b_Mod_findPoints 104 = .ok (.iastore, 1) := by decide +kernel
theorem d_Mod_findPoints_105 : decode b_Mod_findPoints 105 = .ok (.aload_n 0, 1) := by decide +kernel
theorem d_Mod_findPoints_106 : decode b_Mod_findPoints 106 = .ok (.getfield 33, 3) := by decide +kernel
theorem d_Mod_findPoints_109 : decode b_Mod_findPoints 109 = .ok (.aload_n 0, 1) := by decide +kernel
theorem d_Mod_findPoints_110 : decode b_Mod_findPoints 110 = .ok (.getfield 51, 3) := by decide +kernel
theorem d_Mod_findPoints_113 : decode b_Mod_findPoints 113 = .ok (.iload 6, 2) := by decide +kernel
theorem d_Mod_findPoints_115 : decode b_Mod_findPoints 115 = .ok (.ifCond .eq 24, 3) := by decide +kernel
theorem d_Mod_findPoints_118 : decode b_Mod_findPoints 118 = .ok (.ldc 58, 2) := by decide +kernel
theorem d_Mod_findPoints_120 : decode b_Mod_findPoints 120 = .ok (.sipush 1024, 3) := by decide +kernel
theorem d_Mod_findPoints_123 : decode b_Mod_findPoints 123 = .ok (.iload 4, 2) := by decide +kernel
theorem d_Mod_findPoints_125 : decode b_Mod_findPoints 125 = .ok (.ldc 54, 2) := by decide +kernel
theorem d_Mod_findPoints_127 : decode b_Mod_findPoints 127 = .ok (.isub, 1) := by decide +kernel
theorem d_Mod_findPoints_128 : decode b_Mod_findPoints 128 = .ok (.imul, 1) := by decide +kernel
theorem d_Mod_findPoints_129 : decode b_Mod_findPoints 129 = .ok (.iadd, 1) := by decide +kernel
theorem d_Mod_findPoints_130 : decode b_Mod_findPoints 130 = .ok (.iload 5, 2) := by decide +kernel
theorem d_Mod_findPoints_132 : decode b_Mod_findPoints 132 = .ok (.iadd, 1) := by decide +kernel
theorem d_Mod_findPoints_133 : decode b_Mod_findPoints 133 = .ok (.ldc 56, 2) := by decide +kernel
theorem d_Mod_findPoints_135 : decode b_Mod_findPoints 135 = .ok (.isub, 1) := by decide +kernel
theorem d_Mod_findPoints_136 : decode b_Mod_findPoints 136 = .ok (.goto 5, 3) := by decide +kernel
theorem d_Mod_findPoints_139 : decode b_Mod_findPoints 139 = .ok (.iload 4, 2) := by decide +kernel
theorem d_Mod_findPoints_141 : decode b_Mod_findPoints 141 = .ok (.iastore, 1) := by decide +kernel
theorem d_Mod_findPoints_142 : decode b_Mod_findPoints 142 = .ok (.aload_n 0, 1) := by decide +kernel
theorem d_Mod_findPoints_143 : decode b_Mod_findPoints 143 = .ok (.dup, 1) := by decide +kernel
theorem d_Mod_findPoints_144 : decode b_Mod_findPoints 144 = .ok (.getfield 51, 3) := by decide +kernel
theorem d_Mod_findPoints_147 : decode b_Mod_findPoints 147 = .ok (.iconst 1, 1) := by decide +kernel
theorem d_Mod_findPoints_148 : decode b_Mod_findPoints 148 = .ok (.iadd, 1) := by decide +kernel
theorem d_Mod_findPoints_149 : decode b_Mod_findPoints 149 = .ok (.putfield 51, 3) := by decide +kernel
theorem d_Mod_findPoints_152 : decode b_Mod_findPoints 152 = .ok (.iload 6, 2) := by decide +kernel
theorem d_Mod_findPoints_154 : decode b_Mod_findPoints 154 = .ok (.ifCond .eq 9, 3) := by decide +kernel
theorem d_Mod_findPoints_157 : decode b_Mod_findPoints 157 = .ok (.iload_n 3, 1) := by decide +kernel
theorem d_Mod_findPoints_158 : decode b_Mod_findPoints 158 = .ok (.iconst 2, 1) := by decide +kernel
theorem d_Mod_findPoints_159 : decode b_Mod_findPoints 159 = .ok (.iadd, 1) := by decide +kernel
theorem d_Mod_findPoints_160 : decode b_Mod_findPoints 160 = .ok (.goto 6, 3) := by decide +kernel
theorem d_Mod_findPoints_163 : decode b_Mod_findPoints 163 = .ok (.iload_n 3, 1) := by decide +kernel
theorem d_Mod_findPoints_164 : decode b_Mod_findPoints 164 = .ok (.iconst 1, 1) := by decide +kernel
theorem d_Mod_findPoints_165 : decode b_Mod_findPoints 165 = .ok (.iadd, 1) := by decide +kernel
theorem d_Mod_findPoints_166 : decode b_Mod_findPoints 166 = .ok (.istore_n 3, 1) := by decide +kernel
theorem d_Mod_findPoints_167 : decode b_Mod_findPoints 167 = .ok (.goto (-153), 3) := by decide +kernel
theorem d_Mod_findPoints_170 : decode b_Mod_findPoints 170 = .ok (.return_, 1) := by decide +kernel
theorem d_Mod_isMark_0 : decode b_Mod_isMark 0 = .ok (.iload_n 0, 1) := by decide +kernel
theorem d_Mod_isMark_1 : decode b_Mod_isMark 1 = .ok (.sipush 768, 3) := by decide +kernel
theorem d_Mod_isMark_4 : decode b_Mod_isMark 4 = .ok (.if_icmp .lt 14, 3) := by decide +kernel
theorem d_Mod_isMark_7 : decode b_Mod_isMark 7 = .ok (.iload_n 0, 1) := by decide +kernel
theorem d_Mod_isMark_8 : decode b_Mod_isMark 8 = .ok (.sipush 879, 3) := by decide +kernel
theorem d_Mod_isMark_11 : decode b_Mod_isMark 11 = .ok (.if_icmp .gt 7, 3) := by decide +kernel
theorem d_Mod_isMark_14 : decode b_Mod_isMark 14 = .ok (.iconst 1, 1) := by decide +kernel
theorem d_Mod_isMark_15 : decode b_Mod_isMark 15 = .ok (.goto 4, 3) := by decide +kernel
theorem d_Mod_isMark_18 : decode b_Mod_isMark 18 = .ok (.iconst 0, 1) := by decide +kernel
theorem d_Mod_isMark_19 : decode b_Mod_isMark 19 = .ok (.ireturn, 1) := by decide +kernel
theorem d_Mod_isPicture_0 : decode b_Mod_isPicture 0 = .ok (.iload_n 0, 1) := by decide +kernel
theorem d_Mod_isPicture_1 : decode b_Mod_isPicture 1 = .ok (.ldc 59, 2) := by decide +kernel
theorem d_Mod_isPicture_3 : decode b_Mod_isPicture 3 = .ok (.if_icmp .lt 13, 3) := by decide +kernel
theorem d_Mod_isPicture_6 : decode b_Mod_isPicture 6 = .ok (.iload_n 0, 1) := by decide +kernel
theorem d_Mod_isPicture_7 : decode b_Mod_isPicture 7 = .ok (.ldc 60, 2) := by decide +kernel
theorem d_Mod_isPicture_9 : decode b_Mod_isPicture 9 = .ok (.if_icmp .gt 7, 3) := by decide +kernel
theorem d_Mod_isPicture_12 : decode b_Mod_isPicture 12 = .ok (.iconst 1, 1) := by decide +kernel
theorem d_Mod_isPicture_13 : decode b_Mod_isPicture 13 = .ok (.goto 4, 3) := by decide +kernel
theorem d_Mod_isPicture_16 : decode b_Mod_isPicture 16 = .ok (.iconst 0, 1) := by decide +kernel
theorem d_Mod_isPicture_17 : decode b_Mod_isPicture 17 = .ok (.ireturn, 1) := by decide +kernel
theorem d_Mod_isFlag_0 : decode b_Mod_isFlag 0 = .ok (.iload_n 0, 1) := by decide +kernel
theorem d_Mod_isFlag_1 : decode b_Mod_isFlag 1 = .ok (.ldc 61, 2) := by decide +kernel
theorem d_Mod_isFlag_3 : decode b_Mod_isFlag 3 = .ok (.if_icmp .lt 13, 3) := by decide +kernel
theorem d_Mod_isFlag_6 : decode b_Mod_isFlag 6 = .ok (.iload_n 0, 1) := by decide +kernel
theorem d_Mod_isFlag_7 : decode b_Mod_isFlag 7 = .ok (.ldc 62, 2) := by decide +kernel
theorem d_Mod_isFlag_9 : decode b_Mod_isFlag 9 = .ok (.if_icmp .gt 7, 3) := by decide +kernel
theorem d_Mod_isFlag_12 : decode b_Mod_isFlag 12 = .ok (.iconst 1, 1) := by decide +kernel
theorem d_Mod_isFlag_13 : decode b_Mod_isFlag 13 = .ok (.goto 4, 3) := by decide +kernel
theorem d_Mod_isFlag_16 : decode b_Mod_isFlag 16 = .ok (.iconst 0, 1) := by decide +kernel
theorem d_Mod_isFlag_17 : decode b_Mod_isFlag 17 = .ok (.ireturn, 1) := by decide +kernel
theorem d_Mod_bound_0 : decode b_Mod_bound 0 = .ok (.aload_n 0, 1) := by decide +kernel
theorem d_Mod_bound_1 : decode b_Mod_bound 1 = .ok (.getfield 33, 3) := by decide +kernel
theorem d_Mod_bound_4 : decode b_Mod_bound 4 = .ok (.iload_n 1, 1) := by decide +kernel
theorem d_Mod_bound_5 : decode b_Mod_bound 5 = .ok (.iconst 1, 1) := by decide +kernel
theorem d_Mod_bound_6 : decode b_Mod_bound 6 = .ok (.isub, 1) := by decide +kernel
theorem d_Mod_bound_7 : decode b_Mod_bound 7 = .ok (.iaload, 1) := by decide +kernel
theorem d_Mod_bound_8 : decode b_Mod_bound 8 = .ok (.istore_n 2, 1) := by decide +kernel
theorem d_Mod_bound_9 : decode b_Mod_bound 9 = .ok (.aload_n 0, 1) := by decide +kernel
theorem d_Mod_bound_10 : decode b_Mod_bound 10 = .ok (.getfield 33, 3) := by decide +kernel
theorem d_Mod_bound_13 : decode b_Mod_bound 13 = .ok (.iload_n 1, 1) := by decide +kernel
theorem d_Mod_bound_14 : decode b_Mod_bound 14 = .ok (.iaload, 1) := by decide +kernel
theorem d_Mod_bound_15 : decode b_Mod_bound 15 = .ok (.istore_n 3, 1) := by decide +kernel
theorem d_Mod_bound_16 : decode b_Mod_bound 16 = .ok (.iload_n 2, 1) := by decide +kernel
theorem d_Mod_bound_17 : decode b_Mod_bound 17 = .ok (.bipush 13, 2) := by decide +kernel
theorem d_Mod_bound_19 : decode b_Mod_bound 19 = .ok (.if_icmp .ne 9, 3) := by decide +kernel
theorem d_Mod_bound_22 : decode b_Mod_bound 22 = .ok (.iload_n 3, 1) := by decide +kernel
theorem d_Mod_bound_23 : decode b_Mod_bound 23 = .ok (.bipush 10, 2) := by decide +kernel
theorem d_Mod_bound_25 : decode b_Mod_bound 25 = .ok (.if_icmp .eq 23, 3) := by decide +kernel
theorem d_Mod_bound_28 : decode b_Mod_bound 28 = .ok (.iload_n 2, 1) := by decide +kernel
theorem d_Mod_bound_29 : decode b_Mod_bound 29 = .ok (.bipush 31, 2) := by decide +kernel
theorem d_Mod_bound_31 : decode b_Mod_bound 31 = .ok (.if_icmp .le 19, 3) := by decide +kernel
theorem d_Mod_bound_34 : decode b_Mod_bound 34 = .ok (.iload_n 3, 1) := by decide +kernel
theorem d_Mod_bound_35 : decode b_Mod_bound 35 = .ok (.invokestatic 63, 3) := by decide +kernel
theorem d_Mod_bound_38 : decode b_Mod_bound 38 = .ok (.ifCond .ne 10, 3) := by decide +kernel
theorem d_Mod_bound_41 : decode b_Mod_bound 41 = .ok (.iload_n 3, 1) := by decide +kernel
theorem d_Mod_bound_42 : decode b_Mod_bound 42 = .ok (.sipush 8205, 3) := by decide +kernel
theorem d_Mod_bound_45 : decode b_Mod_bound 45 = .ok (.if_icmp .ne 5, 3) := by decide +kernel
theorem d_Mod_bound_48 : decode b_Mod_bound 48 = .ok (.iconst 1, 1) := by decide +kernel
theorem d_Mod_bound_49 : decode b_Mod_bound 49 = .ok (.ireturn, 1) := by decide +kernel
theorem d_Mod_bound_50 : decode b_Mod_bound 50 = .ok (.iload_n 1, 1) := by decide +kernel
theorem d_Mod_bound_51 : decode b_Mod_bound 51 = .ok (.iconst 2, 1) := by decide +kernel
theorem d_Mod_bound_52 : decode b_Mod_bound 52 = .ok (.isub, 1) := by decide +kernel
theorem d_Mod_bound_53 : decode b_Mod_bound 53 = .ok (.istore 4, 2) := by decide +kernel
theorem d_Mod_bound_55 : decode b_Mod_bound 55 = .ok (.iload_n 2, 1) := by decide +kernel
theorem d_Mod_bound_56 : decode b_Mod_bound 56 = .ok (.sipush 8205, 3) := by decide +kernel
theorem d_Mod_bound_59 : decode b_Mod_bound 59 = .ok (.if_icmp .ne 58, 3) := by decide +kernel
theorem d_Mod_bound_62 : decode b_Mod_bound 62 = .ok (.iload_n 3, 1) := by decide +kernel
theorem d_Mod_bound_63 : decode b_Mod_bound 63 = .ok (.invokestatic 67, 3) := by decide +kernel
theorem d_Mod_bound_66 : decode b_Mod_bound 66 = .ok (.ifCond .eq 51, 3) := by decide +kernel
theorem d_Mod_bound_69 : decode b_Mod_bound 69 = .ok (.iload 4, 2) := by decide +kernel
theorem d_Mod_bound_71 : decode b_Mod_bound 71 = .ok (.ifCond .lt 22, 3) := by decide +kernel
theorem d_Mod_bound_74 : decode b_Mod_bound 74 = .ok (.aload_n 0, 1) := by decide +kernel
theorem d_Mod_bound_75 : decode b_Mod_bound 75 = .ok (.getfield 33, 3) := by decide +kernel
theorem d_Mod_bound_78 : decode b_Mod_bound 78 = .ok (.iload 4, 2) := by decide +kernel
theorem d_Mod_bound_80 : decode b_Mod_bound 80 = .ok (.iaload, 1) := by decide +kernel
theorem d_Mod_bound_81 : decode b_Mod_bound 81 = .ok (.invokestatic 63, 3) := by decide +kernel
theorem d_Mod_bound_84 : decode b_Mod_bound 84 = .ok (.ifCond .eq 9, 3) := by decide +kernel
theorem d_Mod_bound_87 : decode b_Mod_bound 87 = .ok (.iinc 4 (-1), 3) := by decide +kernel
theorem d_Mod_bound_90 : decode b_Mod_bound 90 = .ok (.goto (-21), 3) := by decide +kernel
theorem d_Mod_bound_93 : decode b_Mod_bound 93 = .ok (.iload 4, 2) := by decide +kernel
theorem d_Mod_bound_95 : decode b_Mod_bound 95 = .ok (.ifCond .lt 20, 3) := by decide +kernel
theorem d_Mod_bound_98 : decode b_Mod_bound 98 = .ok (.aload_n 0, 1) := by decide +kernel
theorem d_Mod_bound_99 : decode b_Mod_bound 99 = .ok (.getfield 33, 3) := by decide +kernel
theorem d_Mod_bound_102 : decode b_Mod_bound 102 = .ok (.iload 4, 2) := by decide +kernel
theorem d_Mod_bound_104 : decode b_Mod_bound 104 = .ok (.iaload, 1) := by decide +kernel
theorem d_Mod_bound_105 : decode b_Mod_bound 105 = .ok (.invokestatic 67, 3) := by decide +kernel
theorem d_Mod_bound_108 : decode b_Mod_bound 108 = .ok (.ifCond .eq 7, 3) := by decide +kernel
theorem d_Mod_bound_111 : decode b_Mod_bound 111 = .ok (.iconst 1, 1) := by decide +kernel
theorem d_Mod_bound_112 : decode b_Mod_bound 112 = .ok (.goto 4, 3) := by decide +kernel
theorem d_Mod_bound_115 : decode b_Mod_bound 115 = .ok (.iconst 0, 1) := by decide +kernel
theorem d_Mod_bound_116 : decode b_Mod_bound 116 = .ok (.ireturn, 1) := by decide +kernel
theorem d_Mod_bound_117 : decode b_Mod_bound 117 = .ok (.iload 4, 2) := by decide +kernel
theorem d_Mod_bound_119 : decode b_Mod_bound 119 = .ok (.ifCond .lt 22, 3) := by decide +kernel
theorem d_Mod_bound_122 : decode b_Mod_bound 122 = .ok (.aload_n 0, 1) := by decide +kernel
theorem d_Mod_bound_123 : decode b_Mod_bound 123 = .ok (.getfield 33, 3) := by decide +kernel
theorem d_Mod_bound_126 : decode b_Mod_bound 126 = .ok (.iload 4, 2) := by decide +kernel
theorem d_Mod_bound_128 : decode b_Mod_bound 128 = .ok (.iaload, 1) := by decide +kernel
theorem d_Mod_bound_129 : decode b_Mod_bound 129 = .ok (.invokestatic 70, 3) := by decide +kernel
theorem d_Mod_bound_132 : decode b_Mod_bound 132 = .ok (.ifCond .eq 9, 3) := by decide +kernel
theorem d_Mod_bound_135 : decode b_Mod_bound 135 = .ok (.iinc 4 (-1), 3) := by decide +kernel
theorem d_Mod_bound_138 : decode b_Mod_bound 138 = .ok (.goto (-21), 3) := by decide +kernel
theorem d_Mod_bound_141 : decode b_Mod_bound 141 = .ok (.iload_n 2, 1) := by decide +kernel
theorem d_Mod_bound_142 : decode b_Mod_bound 142 = .ok (.invokestatic 70, 3) := by decide +kernel
theorem d_Mod_bound_145 : decode b_Mod_bound 145 = .ok (.ifCond .eq 25, 3) := by decide +kernel
theorem d_Mod_bound_148 : decode b_Mod_bound 148 = .ok (.iload_n 3, 1) := by decide +kernel
theorem d_Mod_bound_149 : decode b_Mod_bound 149 = .ok (.invokestatic 70, 3) := by decide +kernel
theorem d_Mod_bound_152 : decode b_Mod_bound 152 = .ok (.ifCond .eq 18, 3) := by decide +kernel
theorem d_Mod_bound_155 : decode b_Mod_bound 155 = .ok (.iload_n 1, 1) := by decide +kernel
theorem d_Mod_bound_156 : decode b_Mod_bound 156 = .ok (.iconst 2, 1) := by decide +kernel
theorem d_Mod_bound_157 : decode b_Mod_bound 157 = .ok (.isub, 1) := by decide +kernel
theorem d_Mod_bound_158 : decode b_Mod_bound 158 = .ok (.iload 4, 2) := by decide +kernel
theorem d_Mod_bound_160 : decode b_Mod_bound 160 = .ok (.isub, 1) := by decide +kernel
theorem d_Mod_bound_161 : decode b_Mod_bound 161 = .ok (.iconst 2, 1) := by decide +kernel
theorem d_Mod_bound_162 : decode b_Mod_bound 162 = .ok (.irem, 1) := by decide +kernel
theorem d_Mod_bound_163 : decode b_Mod_bound 163 = .ok (.ifCond .ne 7, 3) := by decide +kernel
theorem d_Mod_bound_166 : decode b_Mod_bound 166 = .ok (.iconst 1, 1) := by decide +kernel
theorem d_Mod_bound_167 : decode b_Mod_bound 167 = .ok (.goto 4, 3) := by decide +kernel
theorem d_Mod_bound_170 : decode b_Mod_bound 170 = .ok (.iconst 0, 1) := by decide +kernel
theorem d_Mod_bound_171 : decode b_Mod_bound 171 = .ok (.ireturn, 1) := by decide +kernel
theorem d_Mod_begin_0 : decode b_Mod_begin 0 = .ok (.aload_n 0, 1) := by decide +kernel
theorem d_Mod_begin_1 : decode b_Mod_begin 1 = .ok (.getfield 36, 3) := by decide +kernel
theorem d_Mod_begin_4 : decode b_Mod_begin 4 = .ok (.aload_n 0, 1) := by decide +kernel
theorem d_Mod_begin_5 : decode b_Mod_begin 5 = .ok (.getfield 73, 3) := by decide +kernel
theorem d_Mod_begin_8 : decode b_Mod_begin 8 = .ok (.iload_n 1, 1) := by decide +kernel
theorem d_Mod_begin_9 : decode b_Mod_begin 9 = .ok (.iastore, 1) := by decide +kernel
theorem d_Mod_begin_10 : decode b_Mod_begin 10 = .ok (.aload_n 0, 1) := by decide +kernel
theorem d_Mod_begin_11 : decode b_Mod_begin 11 = .ok (.dup, 1) := by decide +kernel
theorem d_Mod_begin_12 : decode b_Mod_begin 12 = .ok (.getfield 73, 3) := by decide +kernel
theorem d_Mod_begin_15 : decode b_Mod_begin 15 = .ok (.iconst 1, 1) := by decide +kernel
theorem d_Mod_begin_16 : decode b_Mod_begin 16 = .ok (.iadd, 1) := by decide +kernel
theorem d_Mod_begin_17 : decode b_Mod_begin 17 = .ok (.putfield 73, 3) := by decide +kernel
theorem d_Mod_begin_20 : decode b_Mod_begin 20 = .ok (.return_, 1) := by decide +kernel
theorem d_Mod_findLines_0 : decode b_Mod_findLines 0 = .ok (.aload_n 0, 1) := by decide +kernel
theorem d_Mod_findLines_1 : decode b_Mod_findLines 1 = .ok (.getfield 13, 3) := by decide +kernel
theorem d_Mod_findLines_4 : decode b_Mod_findLines 4 = .ok (.iload_n 1, 1) := by decide +kernel
theorem d_Mod_findLines_5 : decode b_Mod_findLines 5 = .ok (.iaload, 1) := by decide +kernel
theorem d_Mod_findLines_6 : decode b_Mod_findLines 6 = .ok (.istore_n 2, 1) := by decide +kernel
theorem d_Mod_findLines_7 : decode b_Mod_findLines 7 = .ok (.aload_n 0, 1) := by decide +kernel
theorem d_Mod_findLines_8 : decode b_Mod_findLines 8 = .ok (.iconst 0, 1) := by decide +kernel
theorem d_Mod_findLines_9 : decode b_Mod_findLines 9 = .ok (.invokevirtual 76, 3) := by decide +kernel
theorem d_Mod_findLines_12 : decode b_Mod_findLines 12 = .ok (.iconst 1, 1) := by decide +kernel
theorem d_Mod_findLines_13 : decode b_Mod_findLines 13 = .ok (.istore_n 3, 1) := by decide +kernel
theorem d_Mod_findLines_14 : decode b_Mod_findLines 14 = .ok (.iload_n 3, 1) := by decide +kernel
theorem d_Mod_findLines_15 : decode b_Mod_findLines 15 = .ok (.iload_n 2, 1) := by decide +kernel
theorem d_Mod_findLines_16 : decode b_Mod_findLines 16 = .ok (.if_icmp .gt 74, 3) := by decide +kernel
theorem d_Mod_findLines_19 : decode b_Mod_findLines 19 = .ok (.aload_n 0, 1) := by decide +kernel
theorem d_Mod_findLines_20 : decode b_Mod_findLines 20 = .ok (.getfield 7, 3) := by decide +kernel
theorem d_Mod_findLines_23 : decode b_Mod_findLines 23 = .ok (.sipush 160, 3) := by decide +kernel
theorem d_Mod_findLines_26 : decode b_Mod_findLines 26 = .ok (.iload_n 1, 1) := by decide +kernel
theorem d_Mod_findLines_27 : decode b_Mod_findLines 27 = .ok (.imul, 1) := by decide +kernel
theorem d_Mod_findLines_28 : decode b_Mod_findLines 28 = .ok (.iload_n 3, 1) := by decide +kernel
theorem d_Mod_findLines_29 : decode b_Mod_findLines 29 = .ok (.iadd, 1) := by decide +kernel
theorem d_Mod_findLines_30 : decode b_Mod_findLines 30 = .ok (.iconst 1, 1) := by decide +kernel
theorem d_Mod_findLines_31 : decode b_Mod_findLines 31 = .ok (.isub, 1) := by decide +kernel
theorem d_Mod_findLines_32 : decode b_Mod_findLines 32 = .ok (.iaload, 1) := by decide +kernel
theorem d_Mod_findLines_33 : decode b_Mod_findLines 33 = .ok (.istore 4, 2) := by decide +kernel
theorem d_Mod_findLines_35 : decode b_Mod_findLines 35 = .ok (.iload_n 3, 1) := by decide +kernel
theorem d_Mod_findLines_36 : decode b_Mod_findLines 36 = .ok (.iload_n 2, 1) := by decide +kernel
theorem d_Mod_findLines_37 : decode b_Mod_findLines 37 = .ok (.if_icmp .ge 18, 3) := by decide +kernel
theorem d_Mod_findLines_40 : decode b_Mod_findLines 40 = .ok (.aload_n 0, 1) := by decide +kernel
theorem d_Mod_findLines_41 : decode b_Mod_findLines 41 = .ok (.getfield 7, 3) := by decide +kernel
theorem d_Mod_findLines_44 : decode b_Mod_findLines 44 = .ok (.sipush 160, 3) := by decide +kernel
theorem d_Mod_findLines_47 : decode b_Mod_findLines 47 = .ok (.iload_n 1, 1) := by decide +kernel
theorem d_Mod_findLines_48 : decode b_Mod_findLines 48 = .ok (.imul, 1) := by decide +kernel
theorem d_Mod_findLines_49 : decode b_Mod_findLines 49 = .ok (.iload_n 3, 1) := by decide +kernel
theorem d_Mod_findLines_50 : decode b_Mod_findLines 50 = .ok (.iadd, 1) := by decide +kernel
theorem d_Mod_findLines_51 : decode b_Mod_findLines 51 = .ok (.iaload, 1) := by decide +kernel
theorem d_Mod_findLines_52 : decode b_Mod_findLines 52 = .ok (.goto 4, 3) := by decide +kernel
theorem d_Mod_findLines_55 : decode b_Mod_findLines 55 = .ok (.iconst 0, 1) := by decide +kernel
theorem d_Mod_findLines_56 : decode b_Mod_findLines 56 = .ok (.istore 5, 2) := by decide +kernel
theorem d_Mod_findLines_58 : decode b_Mod_findLines 58 = .ok (.iload 4, 2) := by decide +kernel
theorem d_Mod_findLines_60 : decode b_Mod_findLines 60 = .ok (.bipush 10, 2) := by decide +kernel
theorem d_Mod_findLines_62 : decode b_Mod_findLines 62 = .ok (.if_icmp .eq 17, 3) := by decide +kernel
theorem d_Mod_findLines_65 : decode b_Mod_findLines 65 = .ok (.iload 4, 2) := by decide +kernel
theorem d_Mod_findLines_67 : decode b_Mod_findLines 67 = .ok (.bipush 13, 2) := by decide +kernel
theorem d_Mod_findLines_69 : decode b_Mod_findLines 69 = .ok (.if_icmp .ne 15, 3) := by decide +kernel
theorem d_Mod_findLines_72 : decode b_Mod_findLines 72 = .ok (.iload 5, 2) := by decide +kernel
theorem d_Mod_findLines_74 : decode b_Mod_findLines 74 = .ok (.bipush 10, 2) := by decide +kernel
theorem d_Mod_findLines_76 : decode b_Mod_findLines 76 = .ok (.if_icmp .eq 8, 3) := by decide +kernel
theorem d_Mod_findLines_79 : decode b_Mod_findLines 79 = .ok (.aload_n 0, 1) := by decide +kernel
theorem d_Mod_findLines_80 : decode b_Mod_findLines 80 = .ok (.iload_n 3, 1) := by decide +kernel
theorem d_Mod_findLines_81 : decode b_Mod_findLines 81 = .ok (.invokevirtual 76, 3) := by decide +kernel
theorem d_Mod_findLines_84 : decode b_Mod_findLines 84 = .ok (.iinc 3 1, 3) := by decide +kernel
theorem d_Mod_findLines_87 : decode b_Mod_findLines 87 = .ok (.goto (-73), 3) := by decide +kernel
theorem d_Mod_findLines_90 : decode b_Mod_findLines 90 = .ok (.return_, 1) := by decide +kernel
theorem d_Mod_findItems_0 : decode b_Mod_findItems 0 = .ok (.aload_n 0, 1) := by decide +kernel
theorem d_Mod_findItems_1 : decode b_Mod_findItems 1 = .ok (.iconst 0, 1) := by decide +kernel
theorem d_Mod_findItems_2 : decode b_Mod_findItems 2 = .ok (.putfield 73, 3) := by decide +kernel
theorem d_Mod_findItems_5 : decode b_Mod_findItems 5 = .ok (.iload_n 2, 1) := by decide +kernel
theorem d_Mod_findItems_6 : decode b_Mod_findItems 6 = .ok (.ifCond .ne 29, 3) := by decide +kernel
theorem d_Mod_findItems_9 : decode b_Mod_findItems 9 = .ok (.iconst 0, 1) := by decide +kernel
theorem d_Mod_findItems_10 : decode b_Mod_findItems 10 = .ok (.istore_n 3, 1) := by decide +kernel
theorem d_Mod_findItems_11 : decode b_Mod_findItems 11 = .ok (.iload_n 3, 1) := by decide +kernel
theorem d_Mod_findItems_12 : decode b_Mod_findItems 12 = .ok (.aload_n 0, 1) := by decide +kernel
theorem d_Mod_findItems_13 : decode b_Mod_findItems 13 = .ok (.getfield 13, 3) := by decide +kernel
theorem d_Mod_findItems_16 : decode b_Mod_findItems 16 = .ok (.iload_n 1, 1) := by decide +kernel
theorem d_Mod_findItems_17 : decode b_Mod_findItems 17 = .ok (.iaload, 1) := by decide +kernel
theorem d_Mod_findItems_18 : decode b_Mod_findItems 18 = .ok (.if_icmp .ge 14, 3) := by decide +kernel
theorem d_Mod_findItems_21 : decode b_Mod_findItems 21 = .ok (.aload_n 0, 1) := by decide +kernel
theorem d_Mod_findItems_22 : decode b_Mod_findItems 22 = .ok (.iload_n 3, 1) := by decide +kernel
theorem d_Mod_findItems_23 : decode b_Mod_findItems 23 = .ok (.invokevirtual 76, 3) := by decide +kernel
theorem d_Mod_findItems_26 : decode b_Mod_findItems 26 = .ok (.iinc 3 1, 3) := by decide +kernel
theorem d_Mod_findItems_29 : decode b_Mod_findItems 29 = .ok (.goto (-18), 3) := by decide +kernel
theorem d_Mod_findItems_32 : decode b_Mod_findItems 32 = .ok (.goto 64, 3) := by decide +kernel
theorem d_Mod_findItems_35 : decode b_Mod_findItems 35 = .ok (.iload_n 2, 1) := by decide +kernel
theorem d_Mod_findItems_36 : decode b_Mod_findItems 36 = .ok (.iconst 2, 1) := by decide +kernel
theorem d_Mod_findItems_37 : decode b_Mod_findItems 37 = .ok (.if_icmp .ne 11, 3) := by decide +kernel
theorem d_Mod_findItems_40 : decode b_Mod_findItems 40 = .ok (.aload_n 0, 1) := by decide +kernel
theorem d_Mod_findItems_41 : decode b_Mod_findItems 41 = .ok (.iload_n 1, 1) := by decide +kernel
theorem d_Mod_findItems_42 : decode b_Mod_findItems 42 = .ok (.invokevirtual 80, 3) := by decide +kernel
theorem d_Mod_findItems_45 : decode b_Mod_findItems 45 = .ok (.goto 51, 3) := by decide +kernel
theorem d_Mod_findItems_48 : decode b_Mod_findItems 48 = .ok (.aload_n 0, 1) := by decide +kernel
theorem d_Mod_findItems_49 : decode b_Mod_findItems 49 = .ok (.iload_n 1, 1) := by decide +kernel
theorem d_Mod_findItems_50 : decode b_Mod_findItems 50 = .ok (.invokevirtual 83, 3) := by decide +kernel
theorem d_Mod_findItems_53 : decode b_Mod_findItems 53 = .ok (.iconst 0, 1) := by decide +kernel
theorem d_Mod_findItems_54 : decode b_Mod_findItems 54 = .ok (.istore_n 3, 1) := by decide +kernel
theorem d_Mod_findItems_55 : decode b_Mod_findItems 55 = .ok (.iload_n 3, 1) := by decide +kernel
theorem d_Mod_findItems_56 : decode b_Mod_findItems 56 = .ok (.aload_n 0, 1) := by decide +kernel
theorem d_Mod_findItems_57 : decode b_Mod_findItems 57 = .ok (.getfield 51, 3) := by decide +kernel
theorem d_Mod_findItems_60 : decode b_Mod_findItems 60 = .ok (.if_icmp .ge 36, 3) := by decide +kernel
theorem d_Mod_findItems_63 : decode b_Mod_findItems 63 = .ok (.iload_n 2, 1) := by decide +kernel
theorem d_Mod_findItems_64 : decode b_Mod_findItems 64 = .ok (.iconst 1, 1) := by decide +kernel
theorem d_Mod_findItems_65 : decode b_Mod_findItems 65 = .ok (.if_icmp .eq 15, 3) := by decide +kernel
theorem d_Mod_findItems_68 : decode b_Mod_findItems 68 = .ok (.iload_n 3, 1) := by decide +kernel
theorem d_Mod_findItems_69 : decode b_Mod_findItems 69 = .ok (.ifCond .eq 11, 3) := by decide +kernel
theorem d_Mod_findItems_72 : decode b_Mod_findItems 72 = .ok (.aload_n 0, 1) := by decide +kernel
theorem d_Mod_findItems_73 : decode b_Mod_findItems 73 = .ok (.iload_n 3, 1) := by decide +kernel
theorem d_Mod_findItems_74 : decode b_Mod_findItems 74 = .ok (.invokevirtual 86, 3) := by decide +kernel
theorem d_Mod_findItems_77 : decode b_Mod_findItems 77 = .ok (.ifCond .ne 13, 3) := by decide +kernel
theorem d_Mod_findItems_80 : decode b_Mod_findItems 80 = .ok (.aload_n 0, 1) := by decide +kernel
theorem d_Mod_findItems_81 : decode b_Mod_findItems 81 = .ok (.aload_n 0, 1) := by decide +kernel
theorem d_Mod_findItems_82 : decode b_Mod_findItems 82 = .ok (.getfield 30, 3) := by decide +kernel
theorem d_Mod_findItems_85 : decode b_Mod_findItems 85 = .ok (.iload_n 3, 1) := by decide +kernel
theorem d_Mod_findItems_86 : decode b_Mod_findItems 86 = .ok (.iaload, 1) := by decide +kernel
theorem d_Mod_findItems_87 : decode b_Mod_findItems 87 = .ok (.invokevirtual 76, 3) := by decide +kernel
theorem d_Mod_findItems_90 : decode b_Mod_findItems 90 = .ok (.iinc 3 1, 3) := by decide +kernel
theorem d_Mod_findItems_93 : decode b_Mod_findItems 93 = .ok (.goto (-38), 3) := by decide +kernel
theorem d_Mod_findItems_96 : decode b_Mod_findItems 96 = .ok (.aload_n 0, 1) := by decide +kernel
theorem d_Mod_findItems_97 : decode b_Mod_findItems 97 = .ok (.getfield 36, 3) := by decide +kernel
theorem d_Mod_findItems_100 : decode b_Mod_findItems 100 = .ok (.aload_n 0, 1) := by decide +kernel
theorem d_Mod_findItems_101 : decode b_Mod_findItems 101 = .ok (.getfield 73, 3) := by decide +kernel
theorem d_Mod_findItems_104 : decode b_Mod_findItems 104 = .ok (.aload_n 0, 1) := by decide +kernel
theorem d_Mod_findItems_105 : decode b_Mod_findItems 105 = .ok (.getfield 13, 3) := by decide +kernel
theorem d_Mod_findItems_108 : decode b_Mod_findItems 108 = .ok (.iload_n 1, 1) := by decide +kernel
theorem d_Mod_findItems_109 : decode b_Mod_findItems 109 = .ok (.iaload, 1) := by decide +kernel
theorem d_Mod_findItems_110 : decode b_Mod_findItems 110 = .ok (.iastore, 1) := by decide +kernel
theorem d_Mod_findItems_111 : decode b_Mod_findItems 111 = .ok (.return_, 1) := by decide +kernel
theorem d_Mod_lets_0 : decode b_Mod_lets 0 = .ok (.aload_n 0, 1) := by decide +kernel
theorem d_Mod_lets_1 : decode b_Mod_lets 1 = .ok (.getfield 89, 3) := by decide +kernel
theorem d_Mod_lets_4 : decode b_Mod_lets 4 = .ok (.ifCond .ne 7, 3) := by decide +kernel
theorem d_Mod_lets_7 : decode b_Mod_lets 7 = .ok (.iconst 1, 1) := by decide +kernel
theorem d_Mod_lets_8 : decode b_Mod_lets 8 = .ok (.goto 4, 3) := by decide +kernel
theorem d_Mod_lets_11 : decode b_Mod_lets 11 = .ok (.iconst 0, 1) := by decide +kernel
theorem d_Mod_lets_12 : decode b_Mod_lets 12 = .ok (.istore_n 2, 1) := by decide +kernel
theorem d_Mod_lets_13 : decode b_Mod_lets 13 = .ok (.aload_n 0, 1) := by decide +kernel
theorem d_Mod_lets_14 : decode b_Mod_lets 14 = .ok (.aload_n 0, 1) := by decide +kernel
theorem d_Mod_lets_15 : decode b_Mod_lets 15 = .ok (.getfield 48, 3) := by decide +kernel
theorem d_Mod_lets_18 : decode b_Mod_lets 18 = .ok (.aload_n 0, 1) := by decide +kernel
theorem d_Mod_lets_19 : decode b_Mod_lets 19 = .ok (.getfield 89, 3) := by decide +kernel
theorem d_Mod_lets_22 : decode b_Mod_lets 22 = .ok (.invokevirtual 92, 3) := by decide +kernel
theorem d_Mod_lets_25 : decode b_Mod_lets 25 = .ok (.iconst 0, 1) := by decide +kernel
theorem d_Mod_lets_26 : decode b_Mod_lets 26 = .ok (.istore_n 3, 1) := by decide +kernel
theorem d_Mod_lets_27 : decode b_Mod_lets 27 = .ok (.iload_n 3, 1) := by decide +kernel
theorem d_Mod_lets_28 : decode b_Mod_lets 28 = .ok (.aload_n 0, 1) := by decide +kernel
theorem d_Mod_lets_29 : decode b_Mod_lets 29 = .ok (.getfield 73, 3) := by decide +kernel
theorem d_Mod_lets_32 : decode b_Mod_lets 32 = .ok (.if_icmp .gt 29, 3) := by decide +kernel
theorem d_Mod_lets_35 : decode b_Mod_lets 35 = .ok (.iload_n 2, 1) := by decide +kernel
theorem d_Mod_lets_36 : decode b_Mod_lets 36 = .ok (.ifCond .ne 13, 3) := by decide +kernel
theorem d_Mod_lets_39 : decode b_Mod_lets 39 = .ok (.aload_n 0, 1) := by decide +kernel
theorem d_Mod_lets_40 : decode b_Mod_lets 40 = .ok (.getfield 36, 3) := by decide +kernel
theorem d_Mod_lets_43 : decode b_Mod_lets 43 = .ok (.iload_n 3, 1) := by decide +kernel
theorem d_Mod_lets_44 : decode b_Mod_lets 44 = .ok (.iaload, 1) := by decide +kernel
theorem d_Mod_lets_45 : decode b_Mod_lets 45 = .ok (.iload_n 1, 1) := by decide +kernel
theorem d_Mod_lets_46 : decode b_Mod_lets 46 = .ok (.if_icmp .ne 7, 3) := by decide +kernel
theorem d_Mod_lets_49 : decode b_Mod_lets 49 = .ok (.iconst 1, 1) := by decide +kernel
theorem d_Mod_lets_50 : decode b_Mod_lets 50 = .ok (.goto 4, 3) := by decide +kernel
theorem d_Mod_lets_53 : decode b_Mod_lets 53 = .ok (.iconst 0, 1) := by decide +kernel
theorem d_Mod_lets_54 : decode b_Mod_lets 54 = .ok (.istore_n 2, 1) := by decide +kernel
theorem d_Mod_lets_55 : decode b_Mod_lets 55 = .ok (.iinc 3 1, 3) := by decide +kernel
theorem d_Mod_lets_58 : decode b_Mod_lets 58 = .ok (.goto (-31), 3) := by decide +kernel
theorem d_Mod_lets_61 : decode b_Mod_lets 61 = .ok (.iload_n 2, 1) := by decide +kernel
theorem d_Mod_lets_62 : decode b_Mod_lets 62 = .ok (.ireturn, 1) := by decide +kernel
theorem d_Mod_make_0 : decode b_Mod_make 0 = .ok (.aload_n 0, 1) := by decide +kernel
theorem d_Mod_make_1 : decode b_Mod_make 1 = .ok (.iconst 0, 1) := by decide +kernel
theorem d_Mod_make_2 : decode b_Mod_make 2 = .ok (.putfield 96, 3) := by decide +kernel
theorem d_Mod_make_5 : decode b_Mod_make 5 = .ok (.aload_n 0, 1) := by decide +kernel
theorem d_Mod_make_6 : decode b_Mod_make 6 = .ok (.getfield 13, 3) := by decide +kernel
theorem d_Mod_make_9 : decode b_Mod_make 9 = .ok (.aload_n 0, 1) := by decide +kernel
theorem d_Mod_make_10 : decode b_Mod_make 10 = .ok (.getfield 48, 3) := by decide +kernel
theorem d_Mod_make_13 : decode b_Mod_make 13 = .ok (.iaload, 1) := by decide +kernel
theorem d_Mod_make_14 : decode b_Mod_make 14 = .ok (.istore 4, 2) := by decide +kernel
theorem d_Mod_make_16 : decode b_Mod_make 16 = .ok (.iconst 0, 1) := by decide +kernel
theorem d_Mod_make_17 : decode b_Mod_make 17 = .ok (.istore 5, 2) := by decide +kernel
theorem d_Mod_make_19 : decode b_Mod_make 19 = .ok (.iload 5, 2) := by decide +kernel
theorem d_Mod_make_21 : decode b_Mod_make 21 = .ok (.iload_n 1, 1) := by decide +kernel
theorem d_Mod_make_22 : decode b_Mod_make 22 = .ok (.if_icmp .ge 44, 3) := by decide +kernel
theorem d_Mod_make_25 : decode b_Mod_make 25 = .ok (.aload_n 0, 1) := by decide +kernel
theorem d_Mod_make_26 : decode b_Mod_make 26 = .ok (.getfield 27, 3) := by decide +kernel
theorem d_Mod_make_29 : decode b_Mod_make 29 = .ok (.aload_n 0, 1) := by decide +kernel
theorem d_Mod_make_30 : decode b_Mod_make 30 = .ok (.getfield 96, 3) := by decide +kernel
theorem d_Mod_make_33 : decode b_Mod_make 33 = .ok (.aload_n 0, 1) := by decide +kernel
theorem d_Mod_make_34 : decode b_Mod_make 34 = .ok (.getfield 7, 3) := by decide +kernel
theorem d_Mod_make_37 : decode b_Mod_make 37 = .ok (.sipush 160, 3) := by decide +kernel
theorem d_Mod_make_40 : decode b_Mod_make 40 = .ok (.aload_n 0, 1) := by decide +kernel
theorem d_Mod_make_41 : decode b_Mod_make 41 = .ok (.getfield 48, 3) := by decide +kernel
theorem d_Mod_make_44 : decode b_Mod_make 44 = .ok (.imul, 1) := by decide +kernel
theorem d_Mod_make_45 : decode b_Mod_make 45 = .ok (.iload 5, 2) := by decide +kernel
theorem d_Mod_make_47 : decode b_Mod_make 47 = .ok (.iadd, 1) := by decide +kernel
theorem d_Mod_make_48 : decode b_Mod_make 48 = .ok (.iaload, 1) := by decide +kernel
theorem d_Mod_make_49 : decode b_Mod_make 49 = .ok (.iastore, 1) := by decide +kernel
theorem d_Mod_make_50 : decode b_Mod_make 50 = .ok (.aload_n 0, 1) := by decide +kernel
theorem d_Mod_make_51 : decode b_Mod_make 51 = .ok (.dup, 1) := by decide +kernel
theorem d_Mod_make_52 : decode b_Mod_make 52 = .ok (.getfield 96, 3) := by decide +kernel
theorem d_Mod_make_55 : decode b_Mod_make 55 = .ok (.iconst 1, 1) := by decide +kernel
theorem d_Mod_make_56 : decode b_Mod_make 56 = .ok (.iadd, 1) := by decide +kernel
theorem d_Mod_make_57 : decode b_Mod_make 57 = .ok (.putfield 96, 3) := by decide +kernel
theorem d_Mod_make_60 : decode b_Mod_make 60 = .ok (.iinc 5 1, 3) := by decide +kernel
theorem d_Mod_make_63 : decode b_Mod_make 63 = .ok (.goto (-44), 3) := by decide +kernel
theorem d_Mod_make_66 : decode b_Mod_make 66 = .ok (.iconst 0, 1) := by decide +kernel
theorem d_Mod_make_67 : decode b_Mod_make 67 = .ok (.istore 5, 2) := by decide +kernel
theorem d_Mod_make_69 : decode b_Mod_make 69 = .ok (.iload 5, 2) := by decide +kernel
theorem d_Mod_make_71 : decode b_Mod_make 71 = .ok (.iload_n 3, 1) := by decide +kernel
theorem d_Mod_make_72 : decode b_Mod_make 72 = .ok (.if_icmp .ge 35, 3) := by decide +kernel
theorem d_Mod_make_75 : decode b_Mod_make 75 = .ok (.aload_n 0, 1) := by decide +kernel
theorem d_Mod_make_76 : decode b_Mod_make 76 = .ok (.getfield 27, 3) := by decide +kernel
theorem d_Mod_make_79 : decode b_Mod_make 79 = .ok (.aload_n 0, 1) := by decide +kernel
theorem d_Mod_make_80 : decode b_Mod_make 80 = .ok (.getfield 96, 3) := by decide +kernel
theorem d_Mod_make_83 : decode b_Mod_make 83 = .ok (.aload_n 0, 1) := by decide +kernel
theorem d_Mod_make_84 : decode b_Mod_make 84 = .ok (.getfield 20, 3) := by decide +kernel
theorem d_Mod_make_87 : decode b_Mod_make 87 = .ok (.iload 5, 2) := by decide +kernel
theorem d_Mod_make_89 : decode b_Mod_make 89 = .ok (.iaload, 1) := by decide +kernel
theorem d_Mod_make_90 : decode b_Mod_make 90 = .ok (.iastore, 1) := by decide +kernel
theorem d_Mod_make_91 : decode b_Mod_make 91 = .ok (.aload_n 0, 1) := by decide +kernel
theorem d_Mod_make_92 : decode b_Mod_make 92 = .ok (.dup, 1) := by decide +kernel
theorem d_Mod_make_93 : decode b_Mod_make 93 = .ok (.getfield 96, 3) := by decide +kernel
theorem d_Mod_make_96 : decode b_Mod_make 96 = .ok (.iconst 1, 1) := by decide +kernel
theorem d_Mod_make_97 : decode b_Mod_make 97 = .ok (.iadd, 1) := by decide +kernel
theorem d_Mod_make_98 : decode b_Mod_make 98 = .ok (.putfield 96, 3) := by decide +kernel
theorem d_Mod_make_101 : decode b_Mod_make 101 = .ok (.iinc 5 1, 3) := by decide +kernel
theorem d_Mod_make_104 : decode b_Mod_make 104 = .ok (.goto (-35), 3) := by decide +kernel
theorem d_Mod_make_107 : decode b_Mod_make 107 = .ok (.iload_n 2, 1) := by decide +kernel
theorem d_Mod_make_108 : decode b_Mod_make 108 = .ok (.istore 5, 2) := by decide +kernel
theorem d_Mod_make_110 : decode b_Mod_make 110 = .ok (.iload 5, 2) := by decide +kernel
theorem d_Mod_make_112 : decode b_Mod_make 112 = .ok (.iload 4, 2) := by decide +kernel
theorem d_Mod_make_114 : decode b_Mod_make 114 = .ok (.if_icmp .ge 44, 3) := by decide +kernel
theorem d_Mod_make_117 : decode b_Mod_make 117 = .ok (.aload_n 0, 1) := by decide +kernel
theorem d_Mod_make_118 : decode b_Mod_make 118 = .ok (.getfield 27, 3) := by decide +kernel
theorem d_Mod_make_121 : decode b_Mod_make 121 = .ok (.aload_n 0, 1) := by decide +kernel
theorem d_Mod_make_122 : decode b_Mod_make 122 = .ok (.getfield 96, 3) := by decide +kernel
theorem d_Mod_make_125 : decode b_Mod_make 125 = .ok (.aload_n 0, 1) := by decide +kernel
theorem d_Mod_make_126 : decode b_Mod_make 126 = .ok (.getfield 7, 3) := by decide +kernel
theorem d_Mod_make_129 : decode b_Mod_make 129 = .ok (.sipush 160, 3) := by decide +kernel
theorem d_Mod_make_132 : decode b_Mod_make 132 = .ok (.aload_n 0, 1) := by decide +kernel
theorem d_Mod_make_133 : decode b_Mod_make 133 = .ok (.getfield 48, 3) := by decide +kernel
theorem d_Mod_make_136 : decode b_Mod_make 136 = .ok (.imul, 1) := by decide +kernel
theorem d_Mod_make_137 : decode b_Mod_make 137 = .ok (.iload 5, 2) := by decide +kernel
theorem d_Mod_make_139 : decode b_Mod_make 139 = .ok (.iadd, 1) := by decide +kernel
theorem d_Mod_make_140 : decode b_Mod_make 140 = .ok (.iaload, 1) := by decide +kernel
theorem d_Mod_make_141 : decode b_Mod_make 141 = .ok (.iastore, 1) := by decide +kernel
theorem d_Mod_make_142 : decode b_Mod_make 142 = .ok (.aload_n 0, 1) := by decide +kernel
theorem d_Mod_make_143 : decode b_Mod_make 143 = .ok (.dup, 1) := by decide +kernel
theorem d_Mod_make_144 : decode b_Mod_make 144 = .ok (.getfield 96, 3) := by decide +kernel
theorem d_Mod_make_147 : decode b_Mod_make 147 = .ok (.iconst 1, 1) := by decide +kernel
theorem d_Mod_make_148 : decode b_Mod_make 148 = .ok (.iadd, 1) := by decide +kernel
theorem d_Mod_make_149 : decode b_Mod_make 149 = .ok (.putfield 96, 3) := by decide +kernel
theorem d_Mod_make_152 : decode b_Mod_make 152 = .ok (.iinc 5 1, 3) := by decide +kernel
theorem d_Mod_make_155 : decode b_Mod_make 155 = .ok (.goto (-45), 3) := by decide +kernel
theorem d_Mod_make_158 : decode b_Mod_make 158 = .ok (.return_, 1) := by decide +kernel
theorem d_Mod_show_0 : decode b_Mod_show 0 = .ok (.iconst 0, 1) := by decide +kernel
theorem d_Mod_show_1 : decode b_Mod_show 1 = .ok (.istore_n 2, 1) := by decide +kernel
theorem d_Mod_show_2 : decode b_Mod_show 2 = .ok (.iload_n 2, 1) := by decide +kernel
theorem d_Mod_show_3 : decode b_Mod_show 3 = .ok (.aload_n 0, 1) := by decide +kernel
theorem d_Mod_show_4 : decode b_Mod_show 4 = .ok (.getfield 96, 3) := by decide +kernel
theorem d_Mod_show_7 : decode b_Mod_show 7 = .ok (.if_icmp .ge 27, 3) := by decide +kernel
theorem d_Mod_show_10 : decode b_Mod_show 10 = .ok (.aload_n 0, 1) := by decide +kernel
theorem d_Mod_show_11 : decode b_Mod_show 11 = .ok (.getfield 7, 3) := by decide +kernel
theorem d_Mod_show_14 : decode b_Mod_show 14 = .ok (.sipush 160, 3) := by decide +kernel
theorem d_Mod_show_17 : decode b_Mod_show 17 = .ok (.iload_n 1, 1) := by decide +kernel
theorem d_Mod_show_18 : decode b_Mod_show 18 = .ok (.imul, 1) := by decide +kernel
theorem d_Mod_show_19 : decode b_Mod_show 19 = .ok (.iload_n 2, 1) := by decide +kernel
theorem d_Mod_show_20 : decode b_Mod_show 20 = .ok (.iadd, 1) := by decide +kernel
theorem d_Mod_show_21 : decode b_Mod_show 21 = .ok (.aload_n 0, 1) := by decide +kernel
theorem d_Mod_show_22 : decode b_Mod_show 22 = .ok (.getfield 27, 3) := by decide +kernel
theorem d_Mod_show_25 : decode b_Mod_show 25 = .ok (.iload_n 2, 1) := by decide +kernel
theorem d_Mod_show_26 : decode b_Mod_show 26 = .ok (.iaload, 1) := by decide +kernel
theorem d_Mod_show_27 : decode b_Mod_show 27 = .ok (.iastore, 1) := by decide +kernel
theorem d_Mod_show_28 : decode b_Mod_show 28 = .ok (.iinc 2 1, 3) := by decide +kernel
theorem d_Mod_show_31 : decode b_Mod_show 31 = .ok (.goto (-29), 3) := by decide +kernel
theorem d_Mod_show_34 : decode b_Mod_show 34 = .ok (.aload_n 0, 1) := by decide +kernel
theorem d_Mod_show_35 : decode b_Mod_show 35 = .ok (.getfield 13, 3) := by decide +kernel
theorem d_Mod_show_38 : decode b_Mod_show 38 = .ok (.iload_n 1, 1) := by decide +kernel
theorem d_Mod_show_39 : decode b_Mod_show 39 = .ok (.aload_n 0, 1) := by decide +kernel
theorem d_Mod_show_40 : decode b_Mod_show 40 = .ok (.getfield 96, 3) := by decide +kernel
theorem d_Mod_show_43 : decode b_Mod_show 43 = .ok (.iastore, 1) := by decide +kernel
theorem d_Mod_show_44 : decode b_Mod_show 44 = .ok (.return_, 1) := by decide +kernel
theorem d_Mod_step_0 : decode b_Mod_step 0 = .ok (.aload_n 0, 1) := by decide +kernel
theorem d_Mod_step_1 : decode b_Mod_step 1 = .ok (.getfield 48, 3) := by decide +kernel
theorem d_Mod_step_4 : decode b_Mod_step 4 = .ok (.bipush 8, 2) := by decide +kernel
theorem d_Mod_step_6 : decode b_Mod_step 6 = .ok (.if_icmp .ne 31, 3) := by decide +kernel
theorem d_Mod_step_9 : decode b_Mod_step 9 = .ok (.iconst 0, 1) := by decide +kernel
theorem d_Mod_step_10 : decode b_Mod_step 10 = .ok (.istore_n 1, 1) := by decide +kernel
theorem d_Mod_step_11 : decode b_Mod_step 11 = .ok (.iload_n 1, 1) := by decide +kernel
theorem d_Mod_step_12 : decode b_Mod_step 12 = .ok (.bipush 8, 2) := by decide +kernel
theorem d_Mod_step_14 : decode b_Mod_step 14 = .ok (.if_icmp .ge 17, 3) := by decide +kernel
theorem d_Mod_step_17 : decode b_Mod_step 17 = .ok (.aload_n 0, 1) := by decide +kernel
theorem d_Mod_step_18 : decode b_Mod_step 18 = .ok (.iload_n 1, 1) := by decide +kernel
theorem d_Mod_step_19 : decode b_Mod_step 19 = .ok (.iconst 1, 1) := by decide +kernel
theorem d_Mod_step_20 : decode b_Mod_step 20 = .ok (.iadd, 1) := by decide +kernel
theorem d_Mod_step_21 : decode b_Mod_step 21 = .ok (.iload_n 1, 1) := by decide +kernel
theorem d_Mod_step_22 : decode b_Mod_step 22 = .ok (.invokevirtual 99, 3) := by decide +kernel
theorem d_Mod_step_25 : decode b_Mod_step 25 = .ok (.iinc 1 1, 3) := by decide +kernel
theorem d_Mod_step_28 : decode b_Mod_step 28 = .ok (.goto (-17), 3) := by decide +kernel
theorem d_Mod_step_31 : decode b_Mod_step 31 = .ok (.aload_n 0, 1) := by decide +kernel
theorem d_Mod_step_32 : decode b_Mod_step 32 = .ok (.bipush 7, 2) := by decide +kernel
theorem d_Mod_step_34 : decode b_Mod_step 34 = .ok (.putfield 48, 3) := by decide +kernel
theorem d_Mod_step_37 : decode b_Mod_step 37 = .ok (.aload_n 0, 1) := by decide +kernel
theorem d_Mod_step_38 : decode b_Mod_step 38 = .ok (.dup, 1) := by decide +kernel
theorem d_Mod_step_39 : decode b_Mod_step 39 = .ok (.getfield 48, 3) := by decide +kernel
theorem d_Mod_step_42 : decode b_Mod_step 42 = .ok (.iconst 1, 1) := by decide +kernel
theorem d_Mod_step_43 : decode b_Mod_step 43 = .ok (.iadd, 1) := by decide +kernel
theorem d_Mod_step_44 : decode b_Mod_step 44 = .ok (.putfield 48, 3) := by decide +kernel
theorem d_Mod_step_47 : decode b_Mod_step 47 = .ok (.aload_n 0, 1) := by decide +kernel
theorem d_Mod_step_48 : decode b_Mod_step 48 = .ok (.aload_n 0, 1) := by decide +kernel
theorem d_Mod_step_49 : decode b_Mod_step 49 = .ok (.getfield 48, 3) := by decide +kernel
theorem d_Mod_step_52 : decode b_Mod_step 52 = .ok (.putfield 102, 3) := by decide +kernel
theorem d_Mod_step_55 : decode b_Mod_step 55 = .ok (.aload_n 0, 1) := by decide +kernel
theorem d_Mod_step_56 : decode b_Mod_step 56 = .ok (.aload_n 0, 1) := by decide +kernel
theorem d_Mod_step_57 : decode b_Mod_step 57 = .ok (.getfield 48, 3) := by decide +kernel
theorem d_Mod_step_60 : decode b_Mod_step 60 = .ok (.invokevirtual 105, 3) := by decide +kernel
theorem d_Mod_step_63 : decode b_Mod_step 63 = .ok (.return_, 1) := by decide +kernel
theorem d_Mod_copy_0 : decode b_Mod_copy 0 = .ok (.iconst 0, 1) := by decide +kernel
theorem d_Mod_copy_1 : decode b_Mod_copy 1 = .ok (.istore_n 3, 1) := by decide +kernel
theorem d_Mod_copy_2 : decode b_Mod_copy 2 = .ok (.iload_n 3, 1) := by decide +kernel
theorem d_Mod_copy_3 : decode b_Mod_copy 3 = .ok (.aload_n 0, 1) := by decide +kernel
theorem d_Mod_copy_4 : decode b_Mod_copy 4 = .ok (.getfield 13, 3) := by decide +kernel
theorem d_Mod_copy_7 : decode b_Mod_copy 7 = .ok (.iload_n 1, 1) := by decide +kernel
theorem d_Mod_copy_8 : decode b_Mod_copy 8 = .ok (.iaload, 1) := by decide +kernel
theorem d_Mod_copy_9 : decode b_Mod_copy 9 = .ok (.if_icmp .ge 33, 3) := by decide +kernel
theorem d_Mod_copy_12 : decode b_Mod_copy 12 = .ok (.aload_n 0, 1) := by decide +kernel
theorem d_Mod_copy_13 : decode b_Mod_copy 13 = .ok (.getfield 7, 3) := by decide +kernel
theorem d_Mod_copy_16 : decode b_Mod_copy 16 = .ok (.sipush 160, 3) := by decide +kernel
theorem d_Mod_copy_19 : decode b_Mod_copy 19 = .ok (.iload_n 2, 1) := by decide +kernel
theorem d_Mod_copy_20 : decode b_Mod_copy 20 = .ok (.imul, 1) := by decide +kernel
theorem d_Mod_copy_21 : decode b_Mod_copy 21 = .ok (.iload_n 3, 1) := by decide +kernel
theorem d_Mod_copy_22 : decode b_Mod_copy 22 = .ok (.iadd, 1) := by decide +kernel
theorem d_Mod_copy_23 : decode b_Mod_copy 23 = .ok (.aload_n 0, 1) := by decide +kernel
theorem d_Mod_copy_24 : decode b_Mod_copy 24 = .ok (.getfield 7, 3) := by decide +kernel
theorem d_Mod_copy_27 : decode b_Mod_copy 27 = .ok (.sipush 160, 3) := by decide +kernel
theorem d_Mod_copy_30 : decode b_Mod_copy 30 = .ok (.iload_n 1, 1) := by decide +kernel
theorem d_Mod_copy_31 : decode b_Mod_copy 31 = .ok (.imul, 1) := by decide +kernel
theorem d_Mod_copy_32 : decode b_Mod_copy 32 = .ok (.iload_n 3, 1) := by decide +kernel
theorem d_Mod_copy_33 : decode b_Mod_copy 33 = .ok (.iadd, 1) := by decide +kernel
theorem d_Mod_copy_34 : decode b_Mod_copy 34 = .ok (.iaload, 1) := by decide +kernel
theorem d_Mod_copy_35 : decode b_Mod_copy 35 = .ok (.iastore, 1) := by decide +kernel
theorem d_Mod_copy_36 : decode b_Mod_copy 36 = .ok (.iinc 3 1, 3) := by decide +kernel
theorem d_Mod_copy_39 : decode b_Mod_copy 39 = .ok (.goto (-37), 3) := by decide +kernel
theorem d_Mod_copy_42 : decode b_Mod_copy 42 = .ok (.aload_n 0, 1) := by decide +kernel
theorem d_Mod_copy_43 : decode b_Mod_copy 43 = .ok (.getfield 13, 3) := by decide +kernel
theorem d_Mod_copy_46 : decode b_Mod_copy 46 = .ok (.iload_n 2, 1) := by decide +kernel
theorem d_Mod_copy_47 : decode b_Mod_copy 47 = .ok (.aload_n 0, 1) := by decide +kernel
theorem d_Mod_copy_48 : decode b_Mod_copy 48 = .ok (.getfield 13, 3) := by decide +kernel
theorem d_Mod_copy_51 : decode b_Mod_copy 51 = .ok (.iload_n 1, 1) := by decide +kernel
theorem d_Mod_copy_52 : decode b_Mod_copy 52 = .ok (.iaload, 1) := by decide +kernel
theorem d_Mod_copy_53 : decode b_Mod_copy 53 = .ok (.iastore, 1) := by decide +kernel
theorem d_Mod_copy_54 : decode b_Mod_copy 54 = .ok (.return_, 1) := by decide +kernel
theorem d_Mod_isPlace_0 : decode b_Mod_isPlace 0 = .ok (.iload_n 1, 1) := by decide +kernel
theorem d_Mod_isPlace_1 : decode b_Mod_isPlace 1 = .ok (.ifCond .lt 20, 3) := by decide +kernel
theorem d_Mod_isPlace_4 : decode b_Mod_isPlace 4 = .ok (.iload_n 1, 1) := by decide +kernel
theorem d_Mod_isPlace_5 : decode b_Mod_isPlace 5 = .ok (.aload_n 0, 1) := by decide +kernel
theorem d_Mod_isPlace_6 : decode b_Mod_isPlace 6 = .ok (.getfield 13, 3) := by decide +kernel
theorem d_Mod_isPlace_9 : decode b_Mod_isPlace 9 = .ok (.aload_n 0, 1) := by decide +kernel
theorem d_Mod_isPlace_10 : decode b_Mod_isPlace 10 = .ok (.getfield 48, 3) := by decide +kernel
theorem d_Mod_isPlace_13 : decode b_Mod_isPlace 13 = .ok (.iaload, 1) := by decide +kernel
theorem d_Mod_isPlace_14 : decode b_Mod_isPlace 14 = .ok (.if_icmp .gt 7, 3) := by decide +kernel
theorem d_Mod_isPlace_17 : decode b_Mod_isPlace 17 = .ok (.iconst 1, 1) := by decide +kernel
theorem d_Mod_isPlace_18 : decode b_Mod_isPlace 18 = .ok (.goto 4, 3) := by decide +kernel
theorem d_Mod_isPlace_21 : decode b_Mod_isPlace 21 = .ok (.iconst 0, 1) := by decide +kernel
theorem d_Mod_isPlace_22 : decode b_Mod_isPlace 22 = .ok (.ireturn, 1) := by decide +kernel
theorem d_Mod_insert_0 : decode b_Mod_insert 0 = .ok (.aload_n 0, 1) := by decide +kernel
theorem d_Mod_insert_1 : decode b_Mod_insert 1 = .ok (.iload_n 1, 1) := by decide +kernel
theorem d_Mod_insert_2 : decode b_Mod_insert 2 = .ok (.invokevirtual 108, 3) := by decide +kernel
theorem d_Mod_insert_5 : decode b_Mod_insert 5 = .ok (.ifCond .eq 38, 3) := by decide +kernel
theorem d_Mod_insert_8 : decode b_Mod_insert 8 = .ok (.aload_n 0, 1) := by decide +kernel
theorem d_Mod_insert_9 : decode b_Mod_insert 9 = .ok (.getfield 45, 3) := by decide +kernel
theorem d_Mod_insert_12 : decode b_Mod_insert 12 = .ok (.ifCond .eq 31, 3) := by decide +kernel
theorem d_Mod_insert_15 : decode b_Mod_insert 15 = .ok (.aload_n 0, 1) := by decide +kernel
theorem d_Mod_insert_16 : decode b_Mod_insert 16 = .ok (.getfield 13, 3) := by decide +kernel
theorem d_Mod_insert_19 : decode b_Mod_insert 19 = .ok (.aload_n 0, 1) := by decide +kernel
theorem d_Mod_insert_20 : decode b_Mod_insert 20 = .ok (.getfield 48, 3) := by decide +kernel
theorem d_Mod_insert_23 : decode b_Mod_insert 23 = .ok (.iaload, 1) := by decide +kernel
theorem d_Mod_insert_24 : decode b_Mod_insert 24 = .ok (.aload_n 0, 1) := by decide +kernel
theorem d_Mod_insert_25 : decode b_Mod_insert 25 = .ok (.getfield 45, 3) := by decide +kernel
theorem d_Mod_insert_28 : decode b_Mod_insert 28 = .ok (.iadd, 1) := by decide +kernel
theorem d_Mod_insert_29 : decode b_Mod_insert 29 = .ok (.sipush 160, 3) := by decide +kernel
theorem d_Mod_insert_32 : decode b_Mod_insert 32 = .ok (.if_icmp .gt 11, 3) := by decide +kernel
theorem d_Mod_insert_35 : decode b_Mod_insert 35 = .ok (.aload_n 0, 1) := by decide +kernel
theorem d_Mod_insert_36 : decode b_Mod_insert 36 = .ok (.iload_n 1, 1) := by decide +kernel
theorem d_Mod_insert_37 : decode b_Mod_insert 37 = .ok (.invokevirtual 111, 3) := by decide +kernel
theorem d_Mod_insert_40 : decode b_Mod_insert 40 = .ok (.ifCond .ne 5, 3) := by decide +kernel
theorem d_Mod_insert_43 : decode b_Mod_insert 43 = .ok (.iconst 0, 1) := by decide +kernel
theorem d_Mod_insert_44 : decode b_Mod_insert 44 = .ok (.ireturn, 1) := by decide +kernel
