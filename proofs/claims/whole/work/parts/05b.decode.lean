theorem d_Itm_init_0 : decode b_Itm_init 0 = .ok (.aload_n 0, 1) := by decide +kernel
theorem d_Itm_init_1 : decode b_Itm_init 1 = .ok (.invokespecial 3, 3) := by decide +kernel
theorem d_Itm_init_4 : decode b_Itm_init 4 = .ok (.aload_n 0, 1) := by decide +kernel
theorem d_Itm_init_5 : decode b_Itm_init 5 = .ok (.sipush 161, 3) := by decide +kernel
theorem d_Itm_init_8 : decode b_Itm_init 8 = .ok (.newarray .int, 2) := by decide +kernel
theorem d_Itm_init_10 : decode b_Itm_init 10 = .ok (.putfield 9, 3) := by decide +kernel
theorem d_Itm_init_13 : decode b_Itm_init 13 = .ok (.aload_n 0, 1) := by decide +kernel
theorem d_Itm_init_14 : decode b_Itm_init 14 = .ok (.new 15, 3) := by decide +kernel
theorem d_Itm_init_17 : decode b_Itm_init 17 = .ok (.dup, 1) := by decide +kernel
theorem d_Itm_init_18 : decode b_Itm_init 18 = .ok (.invokespecial 17, 3) := by decide +kernel
theorem d_Itm_init_21 : decode b_Itm_init 21 = .ok (.putfield 18, 3) := by decide +kernel
theorem d_Itm_init_24 : decode b_Itm_init 24 = .ok (.aload_n 0, 1) := by decide +kernel
theorem d_Itm_init_25 : decode b_Itm_init 25 = .ok (.iconst 0, 1) := by decide +kernel
theorem d_Itm_init_26 : decode b_Itm_init 26 = .ok (.putfield 22, 3) := by decide +kernel
theorem d_Itm_init_29 : decode b_Itm_init 29 = .ok (.aload_n 0, 1) := by decide +kernel
theorem d_Itm_init_30 : decode b_Itm_init 30 = .ok (.iconst 0, 1) := by decide +kernel
theorem d_Itm_init_31 : decode b_Itm_init 31 = .ok (.putfield 26, 3) := by decide +kernel
theorem d_Itm_init_34 : decode b_Itm_init 34 = .ok (.aload_n 0, 1) := by decide +kernel
theorem d_Itm_init_35 : decode b_Itm_init 35 = .ok (.iconst 0, 1) := by decide +kernel
theorem d_Itm_init_36 : decode b_Itm_init 36 = .ok (.putfield 29, 3) := by decide +kernel
theorem d_Itm_init_39 : decode b_Itm_init 39 = .ok (.return_, 1) := by decide +kernel
theorem d_Itm_measure_0 : decode b_Itm_measure 0 = .ok (.aload_n 0, 1) := by decide +kernel
theorem d_Itm_measure_1 : decode b_Itm_measure 1 = .ok (.iconst 0, 1) := by decide +kernel
theorem d_Itm_measure_2 : decode b_Itm_measure 2 = .ok (.putfield 22, 3) := by decide +kernel
theorem d_Itm_measure_5 : decode b_Itm_measure 5 = .ok (.aload_n 0, 1) := by decide +kernel
theorem d_Itm_measure_6 : decode b_Itm_measure 6 = .ok (.aload_n 1, 1) := by decide +kernel
theorem d_Itm_measure_7 : decode b_Itm_measure 7 = .ok (.invokeinterface 32 1, 5) := by decide +kernel
theorem d_Itm_measure_12 : decode b_Itm_measure 12 = .ok (.putfield 26, 3) := by decide +kernel
theorem d_Itm_measure_15 : decode b_Itm_measure 15 = .ok (.aload_n 0, 1) := by decide +kernel
theorem d_Itm_measure_16 : decode b_Itm_measure 16 = .ok (.iload_n 2, 1) := by decide +kernel
theorem d_Itm_measure_17 : decode b_Itm_measure 17 = .ok (.putfield 29, 3) := by decide +kernel
theorem d_Itm_measure_20 : decode b_Itm_measure 20 = .ok (.aload_n 0, 1) := by decide +kernel
theorem d_Itm_measure_21 : decode b_Itm_measure 21 = .ok (.getfield 18, 3) := by decide +kernel
theorem d_Itm_measure_24 : decode b_Itm_measure 24 = .ok (.invokevirtual 37, 3) := by decide +kernel
theorem d_Itm_measure_27 : decode b_Itm_measure 27 = .ok (.iconst 0, 1) := by decide +kernel
theorem d_Itm_measure_28 : decode b_Itm_measure 28 = .ok (.istore_n 3, 1) := by decide +kernel
theorem d_Itm_measure_29 : decode b_Itm_measure 29 = .ok (.iload_n 3, 1) := by decide +kernel
theorem d_Itm_measure_30 : decode b_Itm_measure 30 = .ok (.aload_n 0, 1) := by decide +kernel
theorem d_Itm_measure_31 : decode b_Itm_measure 31 = .ok (.getfield 26, 3) := by decide +kernel
theorem d_Itm_measure_34 : decode b_Itm_measure 34 = .ok (.if_icmp .gt 38, 3) := by decide +kernel
theorem d_Itm_measure_37 : decode b_Itm_measure 37 = .ok (.aload_n 0, 1) := by decide +kernel
theorem d_Itm_measure_38 : decode b_Itm_measure 38 = .ok (.aload_n 1, 1) := by decide +kernel
theorem d_Itm_measure_39 : decode b_Itm_measure 39 = .ok (.iload_n 3, 1) := by decide +kernel
theorem d_Itm_measure_40 : decode b_Itm_measure 40 = .ok (.invokevirtual 40, 3) := by decide +kernel
theorem d_Itm_measure_43 : decode b_Itm_measure 43 = .ok (.ifCond .eq 23, 3) := by decide +kernel
theorem d_Itm_measure_46 : decode b_Itm_measure 46 = .ok (.aload_n 0, 1) := by decide +kernel
theorem d_Itm_measure_47 : decode b_Itm_measure 47 = .ok (.getfield 9, 3) := by decide +kernel
theorem d_Itm_measure_50 : decode b_Itm_measure 50 = .ok (.aload_n 0, 1) := by decide +kernel
theorem d_Itm_measure_51 : decode b_Itm_measure 51 = .ok (.getfield 22, 3) := by decide +kernel
theorem d_Itm_measure_54 : decode b_Itm_measure 54 = .ok (.iload_n 3, 1) := by decide +kernel
theorem d_Itm_measure_55 : decode b_Itm_measure 55 = .ok (.iastore, 1) := by decide +kernel
theorem d_Itm_measure_56 : decode b_Itm_measure 56 = .ok (.aload_n 0, 1) := by decide +kernel
theorem d_Itm_measure_57 : decode b_Itm_measure 57 = .ok (.dup, 1) := by decide +kernel
theorem d_Itm_measure_58 : decode b_Itm_measure 58 = .ok (.getfield 22, 3) := by decide +kernel
theorem d_Itm_measure_61 : decode b_Itm_measure 61 = .ok (.iconst 1, 1) := by decide +kernel
theorem d_Itm_measure_62 : decode b_Itm_measure 62 = .ok (.iadd, 1) := by decide +kernel
theorem d_Itm_measure_63 : decode b_Itm_measure 63 = .ok (.putfield 22, 3) := by decide +kernel
theorem d_Itm_measure_66 : decode b_Itm_measure 66 = .ok (.iinc 3 1, 3) := by decide +kernel
theorem d_Itm_measure_69 : decode b_Itm_measure 69 = .ok (.goto (-40), 3) := by decide +kernel
theorem d_Itm_measure_72 : decode b_Itm_measure 72 = .ok (.return_, 1) := by decide +kernel
theorem d_Itm_number_0 : decode b_Itm_number 0 = .ok (.aload_n 0, 1) := by decide +kernel
theorem d_Itm_number_1 : decode b_Itm_number 1 = .ok (.getfield 22, 3) := by decide +kernel
theorem d_Itm_number_4 : decode b_Itm_number 4 = .ok (.ireturn, 1) := by decide +kernel
theorem d_Itm_beginningOf_0 : decode b_Itm_beginningOf 0 = .ok (.iload_n 1, 1) := by decide +kernel
theorem d_Itm_beginningOf_1 : decode b_Itm_beginningOf 1 = .ok (.ifCond .lt 11, 3) := by decide +kernel
theorem d_Itm_beginningOf_4 : decode b_Itm_beginningOf 4 = .ok (.iload_n 1, 1) := by decide +kernel
theorem d_Itm_beginningOf_5 : decode b_Itm_beginningOf 5 = .ok (.aload_n 0, 1) := by decide +kernel
theorem d_Itm_beginningOf_6 : decode b_Itm_beginningOf 6 = .ok (.getfield 22, 3) := by decide +kernel
theorem d_Itm_beginningOf_9 : decode b_Itm_beginningOf 9 = .ok (.if_icmp .le 5, 3) := by decide +kernel
theorem d_Itm_beginningOf_12 : decode b_Itm_beginningOf 12 = .ok (.iconst (-1), 1) := by decide +kernel
theorem d_Itm_beginningOf_13 : decode b_Itm_beginningOf 13 = .ok (.ireturn, 1) := by decide +kernel
theorem d_Itm_beginningOf_14 : decode b_Itm_beginningOf 14 = .ok (.iload_n 1, 1) := by decide +kernel
theorem d_Itm_beginningOf_15 : decode b_Itm_beginningOf 15 = .ok (.aload_n 0, 1) := by decide +kernel
theorem d_Itm_beginningOf_16 : decode b_Itm_beginningOf 16 = .ok (.getfield 22, 3) := by decide +kernel
theorem d_Itm_beginningOf_19 : decode b_Itm_beginningOf 19 = .ok (.if_icmp .ne 10, 3) := by decide +kernel
theorem d_Itm_beginningOf_22 : decode b_Itm_beginningOf 22 = .ok (.aload_n 0, 1) := by decide +kernel
theorem d_Itm_beginningOf_23 : decode b_Itm_beginningOf 23 = .ok (.getfield 26, 3) := by decide +kernel
theorem d_Itm_beginningOf_26 : decode b_Itm_beginningOf 26 = .ok (.goto 9, 3) := by decide +kernel
theorem d_Itm_beginningOf_29 : decode b_Itm_beginningOf 29 = .ok (.aload_n 0, 1) := by decide +kernel
theorem d_Itm_beginningOf_30 : decode b_Itm_beginningOf 30 = .ok (.getfield 9, 3) := by decide +kernel
theorem d_Itm_beginningOf_33 : decode b_Itm_beginningOf 33 = .ok (.iload_n 1, 1) := by decide +kernel
theorem d_Itm_beginningOf_34 : decode b_Itm_beginningOf 34 = .ok (.iaload, 1) := by decide +kernel
theorem d_Itm_beginningOf_35 : decode b_Itm_beginningOf 35 = .ok (.ireturn, 1) := by decide +kernel
theorem d_Itm_having_0 : decode b_Itm_having 0 = .ok (.iload_n 1, 1) := by decide +kernel
theorem d_Itm_having_1 : decode b_Itm_having 1 = .ok (.aload_n 0, 1) := by decide +kernel
theorem d_Itm_having_2 : decode b_Itm_having 2 = .ok (.getfield 26, 3) := by decide +kernel
theorem d_Itm_having_5 : decode b_Itm_having 5 = .ok (.if_icmp .ne 16, 3) := by decide +kernel
theorem d_Itm_having_8 : decode b_Itm_having 8 = .ok (.aload_n 0, 1) := by decide +kernel
theorem d_Itm_having_9 : decode b_Itm_having 9 = .ok (.getfield 29, 3) := by decide +kernel
theorem d_Itm_having_12 : decode b_Itm_having 12 = .ok (.iconst 2, 1) := by decide +kernel
theorem d_Itm_having_13 : decode b_Itm_having 13 = .ok (.if_icmp .eq 8, 3) := by decide +kernel
theorem d_Itm_having_16 : decode b_Itm_having 16 = .ok (.aload_n 0, 1) := by decide +kernel
theorem d_Itm_having_17 : decode b_Itm_having 17 = .ok (.getfield 22, 3) := by decide +kernel
theorem d_Itm_having_20 : decode b_Itm_having 20 = .ok (.ireturn, 1) := by decide +kernel
theorem d_Itm_having_21 : decode b_Itm_having 21 = .ok (.aload_n 0, 1) := by decide +kernel
theorem d_Itm_having_22 : decode b_Itm_having 22 = .ok (.getfield 22, 3) := by decide +kernel
theorem d_Itm_having_25 : decode b_Itm_having 25 = .ok (.iconst 1, 1) := by decide +kernel
theorem d_Itm_having_26 : decode b_Itm_having 26 = .ok (.isub, 1) := by decide +kernel
theorem d_Itm_having_27 : decode b_Itm_having 27 = .ok (.istore_n 2, 1) := by decide +kernel
theorem d_Itm_having_28 : decode b_Itm_having 28 = .ok (.iload_n 2, 1) := by decide +kernel
theorem d_Itm_having_29 : decode b_Itm_having 29 = .ok (.ifCond .le 19, 3) := by decide +kernel
theorem d_Itm_having_32 : decode b_Itm_having 32 = .ok (.aload_n 0, 1) := by decide +kernel
theorem d_Itm_having_33 : decode b_Itm_having 33 = .ok (.getfield 9, 3) := by decide +kernel
theorem d_Itm_having_36 : decode b_Itm_having 36 = .ok (.iload_n 2, 1) := by decide +kernel
theorem d_Itm_having_37 : decode b_Itm_having 37 = .ok (.iaload, 1) := by decide +kernel
theorem d_Itm_having_38 : decode b_Itm_having 38 = .ok (.iload_n 1, 1) := by decide +kernel
theorem d_Itm_having_39 : decode b_Itm_having 39 = .ok (.if_icmp .le 9, 3) := by decide +kernel
theorem d_Itm_having_42 : decode b_Itm_having 42 = .ok (.iinc 2 (-1), 3) := by decide +kernel
theorem d_Itm_having_45 : decode b_Itm_having 45 = .ok (.goto (-17), 3) := by decide +kernel
theorem d_Itm_having_48 : decode b_Itm_having 48 = .ok (.iload_n 2, 1) := by decide +kernel
theorem d_Itm_having_49 : decode b_Itm_having 49 = .ok (.ireturn, 1) := by decide +kernel
theorem d_Itm_isInside_0 : decode b_Itm_isInside 0 = .ok (.iload_n 1, 1) := by decide +kernel
theorem d_Itm_isInside_1 : decode b_Itm_isInside 1 = .ok (.aload_n 0, 1) := by decide +kernel
theorem d_Itm_isInside_2 : decode b_Itm_isInside 2 = .ok (.getfield 26, 3) := by decide +kernel
theorem d_Itm_isInside_5 : decode b_Itm_isInside 5 = .ok (.if_icmp .ge 21, 3) := by decide +kernel
theorem d_Itm_isInside_8 : decode b_Itm_isInside 8 = .ok (.aload_n 0, 1) := by decide +kernel
theorem d_Itm_isInside_9 : decode b_Itm_isInside 9 = .ok (.getfield 9, 3) := by decide +kernel
theorem d_Itm_isInside_12 : decode b_Itm_isInside 12 = .ok (.aload_n 0, 1) := by decide +kernel
theorem d_Itm_isInside_13 : decode b_Itm_isInside 13 = .ok (.iload_n 1, 1) := by decide +kernel
theorem d_Itm_isInside_14 : decode b_Itm_isInside 14 = .ok (.invokevirtual 44, 3) := by decide +kernel
theorem d_Itm_isInside_17 : decode b_Itm_isInside 17 = .ok (.iaload, 1) := by decide +kernel
theorem d_Itm_isInside_18 : decode b_Itm_isInside 18 = .ok (.iload_n 1, 1) := by decide +kernel
theorem d_Itm_isInside_19 : decode b_Itm_isInside 19 = .ok (.if_icmp .eq 7, 3) := by decide +kernel
theorem d_Itm_isInside_22 : decode b_Itm_isInside 22 = .ok (.iconst 1, 1) := by decide +kernel
theorem d_Itm_isInside_23 : decode b_Itm_isInside 23 = .ok (.goto 4, 3) := by decide +kernel
theorem d_Itm_isInside_26 : decode b_Itm_isInside 26 = .ok (.iconst 0, 1) := by decide +kernel
theorem d_Itm_isInside_27 : decode b_Itm_isInside 27 = .ok (.ireturn, 1) := by decide +kernel
theorem d_Itm_begins_0 : decode b_Itm_begins 0 = .ok (.aload_n 0, 1) := by decide +kernel
theorem d_Itm_begins_1 : decode b_Itm_begins 1 = .ok (.getfield 29, 3) := by decide +kernel
theorem d_Itm_begins_4 : decode b_Itm_begins 4 = .ok (.iconst 2, 1) := by decide +kernel
theorem d_Itm_begins_5 : decode b_Itm_begins 5 = .ok (.if_icmp .ne 9, 3) := by decide +kernel
theorem d_Itm_begins_8 : decode b_Itm_begins 8 = .ok (.aload_n 1, 1) := by decide +kernel
theorem d_Itm_begins_9 : decode b_Itm_begins 9 = .ok (.iload_n 2, 1) := by decide +kernel
theorem d_Itm_begins_10 : decode b_Itm_begins 10 = .ok (.invokestatic 48, 3) := by decide +kernel
theorem d_Itm_begins_13 : decode b_Itm_begins 13 = .ok (.ireturn, 1) := by decide +kernel
theorem d_Itm_begins_14 : decode b_Itm_begins 14 = .ok (.iload_n 2, 1) := by decide +kernel
theorem d_Itm_begins_15 : decode b_Itm_begins 15 = .ok (.aload_n 0, 1) := by decide +kernel
theorem d_Itm_begins_16 : decode b_Itm_begins 16 = .ok (.getfield 26, 3) := by decide +kernel
theorem d_Itm_begins_19 : decode b_Itm_begins 19 = .ok (.if_icmp .eq 18, 3) := by decide +kernel
theorem d_Itm_begins_22 : decode b_Itm_begins 22 = .ok (.aload_n 0, 1) := by decide +kernel
theorem d_Itm_begins_23 : decode b_Itm_begins 23 = .ok (.getfield 29, 3) := by decide +kernel
theorem d_Itm_begins_26 : decode b_Itm_begins 26 = .ok (.ifCond .eq 13, 3) := by decide +kernel
theorem d_Itm_begins_29 : decode b_Itm_begins 29 = .ok (.aload_n 1, 1) := by decide +kernel
theorem d_Itm_begins_30 : decode b_Itm_begins 30 = .ok (.iload_n 2, 1) := by decide +kernel
theorem d_Itm_begins_31 : decode b_Itm_begins 31 = .ok (.invokestatic 51, 3) := by decide +kernel
theorem d_Itm_begins_34 : decode b_Itm_begins 34 = .ok (.ifCond .eq 5, 3) := by decide +kernel
theorem d_Itm_begins_37 : decode b_Itm_begins 37 = .ok (.iconst 0, 1) := by decide +kernel
theorem d_Itm_begins_38 : decode b_Itm_begins 38 = .ok (.ireturn, 1) := by decide +kernel
theorem d_Itm_begins_39 : decode b_Itm_begins 39 = .ok (.aload_n 0, 1) := by decide +kernel
theorem d_Itm_begins_40 : decode b_Itm_begins 40 = .ok (.getfield 29, 3) := by decide +kernel
theorem d_Itm_begins_43 : decode b_Itm_begins 43 = .ok (.iconst 3, 1) := by decide +kernel
theorem d_Itm_begins_44 : decode b_Itm_begins 44 = .ok (.if_icmp .ne 18, 3) := by decide +kernel
theorem d_Itm_begins_47 : decode b_Itm_begins 47 = .ok (.aload_n 0, 1) := by decide +kernel
theorem d_Itm_begins_48 : decode b_Itm_begins 48 = .ok (.getfield 18, 3) := by decide +kernel
theorem d_Itm_begins_51 : decode b_Itm_begins 51 = .ok (.aload_n 1, 1) := by decide +kernel
theorem d_Itm_begins_52 : decode b_Itm_begins 52 = .ok (.iload_n 2, 1) := by decide +kernel
theorem d_Itm_begins_53 : decode b_Itm_begins 53 = .ok (.invokestatic 54, 3) := by decide +kernel
theorem d_Itm_begins_56 : decode b_Itm_begins 56 = .ok (.invokevirtual 58, 3) := by decide +kernel
theorem d_Itm_begins_59 : decode b_Itm_begins 59 = .ok (.ifCond .eq 7, 3) := by decide +kernel
theorem d_Itm_begins_62 : decode b_Itm_begins 62 = .ok (.iconst 1, 1) := by decide +kernel
theorem d_Itm_begins_63 : decode b_Itm_begins 63 = .ok (.goto 4, 3) := by decide +kernel
theorem d_Itm_begins_66 : decode b_Itm_begins 66 = .ok (.iconst 0, 1) := by decide +kernel
theorem d_Itm_begins_67 : decode b_Itm_begins 67 = .ok (.ireturn, 1) := by decide +kernel
theorem d_Itm_beginsLine_0 : decode b_Itm_beginsLine 0 = .ok (.aload_n 0, 1) := by decide +kernel
theorem d_Itm_beginsLine_1 : decode b_Itm_beginsLine 1 = .ok (.iload_n 1, 1) := by decide +kernel
theorem d_Itm_beginsLine_2 : decode b_Itm_beginsLine 2 = .ok (.iconst 1, 1) := by decide +kernel
theorem d_Itm_beginsLine_3 : decode b_Itm_beginsLine 3 = .ok (.isub, 1) := by decide +kernel
theorem d_Itm_beginsLine_4 : decode b_Itm_beginsLine 4 = .ok (.invokeinterface 62 2, 5) := by decide +kernel
theorem d_Itm_beginsLine_9 : decode b_Itm_beginsLine 9 = .ok (.istore_n 2, 1) := by decide +kernel
theorem d_Itm_beginsLine_10 : decode b_Itm_beginsLine 10 = .ok (.iload_n 1, 1) := by decide +kernel
theorem d_Itm_beginsLine_11 : decode b_Itm_beginsLine 11 = .ok (.ifCond .eq 27, 3) := by decide +kernel
theorem d_Itm_beginsLine_14 : decode b_Itm_beginsLine 14 = .ok (.iload_n 2, 1) := by decide +kernel
theorem d_Itm_beginsLine_15 : decode b_Itm_beginsLine 15 = .ok (.bipush 10, 2) := by decide +kernel
theorem d_Itm_beginsLine_17 : decode b_Itm_beginsLine 17 = .ok (.if_icmp .eq 21, 3) := by decide +kernel
theorem d_Itm_beginsLine_20 : decode b_Itm_beginsLine 20 = .ok (.iload_n 2, 1) := by decide +kernel
theorem d_Itm_beginsLine_21 : decode b_Itm_beginsLine 21 = .ok (.bipush 13, 2) := by decide +kernel
theorem d_Itm_beginsLine_23 : decode b_Itm_beginsLine 23 = .ok (.if_icmp .ne 19, 3) := by decide +kernel
theorem d_Itm_beginsLine_26 : decode b_Itm_beginsLine 26 = .ok (.aload_n 0, 1) := by decide +kernel
theorem d_Itm_beginsLine_27 : decode b_Itm_beginsLine 27 = .ok (.iload_n 1, 1) := by decide +kernel
theorem d_Itm_beginsLine_28 : decode b_Itm_beginsLine 28 = .ok (.invokeinterface 62 2, 5) := by decide +kernel
theorem d_Itm_beginsLine_33 : decode b_Itm_beginsLine 33 = .ok (.bipush 10, 2) := by decide +kernel
theorem d_Itm_beginsLine_35 : decode b_Itm_beginsLine 35 = .ok (.if_icmp .eq 7, 3) := by decide +kernel
theorem d_Itm_beginsLine_38 : decode b_Itm_beginsLine 38 = .ok (.iconst 1, 1) := by decide +kernel
theorem d_Itm_beginsLine_39 : decode b_Itm_beginsLine 39 = .ok (.goto 4, 3) := by decide +kernel
theorem d_Itm_beginsLine_42 : decode b_Itm_beginsLine 42 = .ok (.iconst 0, 1) := by decide +kernel
theorem d_Itm_beginsLine_43 : decode b_Itm_beginsLine 43 = .ok (.ireturn, 1) := by decide +kernel
theorem d_Itm_isSecondHalf_0 : decode b_Itm_isSecondHalf 0 = .ok (.aload_n 0, 1) := by decide +kernel
theorem d_Itm_isSecondHalf_1 : decode b_Itm_isSecondHalf 1 = .ok (.iload_n 1, 1) := by decide +kernel
theorem d_Itm_isSecondHalf_2 : decode b_Itm_isSecondHalf 2 = .ok (.iconst 1, 1) := by decide +kernel
theorem d_Itm_isSecondHalf_3 : decode b_Itm_isSecondHalf 3 = .ok (.isub, 1) := by decide +kernel
theorem d_Itm_isSecondHalf_4 : decode b_Itm_isSecondHalf 4 = .ok (.invokeinterface 62 2, 5) := by decide +kernel
theorem d_Itm_isSecondHalf_9 : decode b_Itm_isSecondHalf 9 = .ok (.invokestatic 65, 3) := by decide +kernel
theorem d_Itm_isSecondHalf_12 : decode b_Itm_isSecondHalf 12 = .ok (.ifCond .eq 20, 3) := by decide +kernel
theorem d_Itm_isSecondHalf_15 : decode b_Itm_isSecondHalf 15 = .ok (.aload_n 0, 1) := by decide +kernel
theorem d_Itm_isSecondHalf_16 : decode b_Itm_isSecondHalf 16 = .ok (.iload_n 1, 1) := by decide +kernel
theorem d_Itm_isSecondHalf_17 : decode b_Itm_isSecondHalf 17 = .ok (.invokeinterface 62 2, 5) := by decide +kernel
theorem d_Itm_isSecondHalf_22 : decode b_Itm_isSecondHalf 22 = .ok (.invokestatic 68, 3) := by decide +kernel
theorem d_Itm_isSecondHalf_25 : decode b_Itm_isSecondHalf 25 = .ok (.ifCond .eq 7, 3) := by decide +kernel
theorem d_Itm_isSecondHalf_28 : decode b_Itm_isSecondHalf 28 = .ok (.iconst 1, 1) := by decide +kernel
theorem d_Itm_isSecondHalf_29 : decode b_Itm_isSecondHalf 29 = .ok (.goto 4, 3) := by decide +kernel
theorem d_Itm_isSecondHalf_32 : decode b_Itm_isSecondHalf 32 = .ok (.iconst 0, 1) := by decide +kernel
theorem d_Itm_isSecondHalf_33 : decode b_Itm_isSecondHalf 33 = .ok (.ireturn, 1) := by decide +kernel
theorem d_Itm_codeAt_0 : decode b_Itm_codeAt 0 = .ok (.aload_n 0, 1) := by decide +kernel
theorem d_Itm_codeAt_1 : decode b_Itm_codeAt 1 = .ok (.iload_n 1, 1) := by decide +kernel
theorem d_Itm_codeAt_2 : decode b_Itm_codeAt 2 = .ok (.invokeinterface 62 2, 5) := by decide +kernel
theorem d_Itm_codeAt_7 : decode b_Itm_codeAt 7 = .ok (.istore_n 2, 1) := by decide +kernel
theorem d_Itm_codeAt_8 : decode b_Itm_codeAt 8 = .ok (.aload_n 0, 1) := by decide +kernel
theorem d_Itm_codeAt_9 : decode b_Itm_codeAt 9 = .ok (.iload_n 1, 1) := by decide +kernel
theorem d_Itm_codeAt_10 : decode b_Itm_codeAt 10 = .ok (.iconst 1, 1) := by decide +kernel
theorem d_Itm_codeAt_11 : decode b_Itm_codeAt 11 = .ok (.iadd, 1) := by decide +kernel
theorem d_Itm_codeAt_12 : decode b_Itm_codeAt 12 = .ok (.invokeinterface 62 2, 5) := by decide +kernel
theorem d_Itm_codeAt_17 : decode b_Itm_codeAt 17 = .ok (.istore_n 3, 1) := by decide +kernel
theorem d_Itm_codeAt_18 : decode b_Itm_codeAt 18 = .ok (.iload_n 2, 1) := by decide +kernel
theorem d_Itm_codeAt_19 : decode b_Itm_codeAt 19 = .ok (.invokestatic 65, 3) := by decide +kernel
theorem d_Itm_codeAt_22 : decode b_Itm_codeAt 22 = .ok (.ifCond .eq 10, 3) := by decide +kernel
theorem d_Itm_codeAt_25 : decode b_Itm_codeAt 25 = .ok (.iload_n 3, 1) := by decide +kernel
theorem d_Itm_codeAt_26 : decode b_Itm_codeAt 26 = .ok (.invokestatic 68, 3) := by decide +kernel
theorem d_Itm_codeAt_29 : decode b_Itm_codeAt 29 = .ok (.ifCond .ne 5, 3) := by decide +kernel
theorem d_Itm_codeAt_32 : decode b_Itm_codeAt 32 = .ok (.iload_n 2, 1) := by decide +kernel
theorem d_Itm_codeAt_33 : decode b_Itm_codeAt 33 = .ok (.ireturn, 1) := by decide +kernel
theorem d_Itm_codeAt_34 : decode b_Itm_codeAt 34 = .ok (.ldc 71, 2) := by decide +kernel
theorem d_Itm_codeAt_36 : decode b_Itm_codeAt 36 = .ok (.sipush 1024, 3) := by decide +kernel
theorem d_Itm_codeAt_39 : decode b_Itm_codeAt 39 = .ok (.iload_n 2, 1) := by decide +kernel
theorem d_Itm_codeAt_40 : decode b_Itm_codeAt 40 = .ok (.ldc 72, 2) := by decide +kernel
theorem d_Itm_codeAt_42 : decode b_Itm_codeAt 42 = .ok (.isub, 1) := by decide +kernel
theorem d_Itm_codeAt_43 : decode b_Itm_codeAt 43 = .ok (.imul, 1) := by decide +kernel
theorem d_Itm_codeAt_44 : decode b_Itm_codeAt 44 = .ok (.iadd, 1) := by decide +kernel
theorem d_Itm_codeAt_45 : decode b_Itm_codeAt 45 = .ok (.iload_n 3, 1) := by decide +kernel
theorem d_Itm_codeAt_46 : decode b_Itm_codeAt 46 = .ok (.iadd, 1) := by decide +kernel
theorem d_Itm_codeAt_47 : decode b_Itm_codeAt 47 = .ok (.ldc 73, 2) := by decide +kernel
theorem d_Itm_codeAt_49 : decode b_Itm_codeAt 49 = .ok (.isub, 1) := by decide +kernel
theorem d_Itm_codeAt_50 : decode b_Itm_codeAt 50 = .ok (.ireturn, 1) := by decide +kernel
theorem d_Itm_isFirst_0 : decode b_Itm_isFirst 0 = .ok (.iload_n 0, 1) := by decide +kernel
theorem d_Itm_isFirst_1 : decode b_Itm_isFirst 1 = .ok (.ldc 72, 2) := by decide +kernel
theorem d_Itm_isFirst_3 : decode b_Itm_isFirst 3 = .ok (.if_icmp .lt 13, 3) := by decide +kernel
theorem d_Itm_isFirst_6 : decode b_Itm_isFirst 6 = .ok (.iload_n 0, 1) := by decide +kernel
theorem d_Itm_isFirst_7 : decode b_Itm_isFirst 7 = .ok (.ldc 74, 2) := by decide +kernel
theorem d_Itm_isFirst_9 : decode b_Itm_isFirst 9 = .ok (.if_icmp .gt 7, 3) := by decide +kernel
theorem d_Itm_isFirst_12 : decode b_Itm_isFirst 12 = .ok (.iconst 1, 1) := by decide +kernel
theorem d_Itm_isFirst_13 : decode b_Itm_isFirst 13 = .ok (.goto 4, 3) := by decide +kernel
theorem d_Itm_isFirst_16 : decode b_Itm_isFirst 16 = .ok (.iconst 0, 1) := by decide +kernel
theorem d_Itm_isFirst_17 : decode b_Itm_isFirst 17 = .ok (.ireturn, 1) := by decide +kernel
theorem d_Itm_isSecond_0 : decode b_Itm_isSecond 0 = .ok (.iload_n 0, 1) := by decide +kernel
theorem d_Itm_isSecond_1 : decode b_Itm_isSecond 1 = .ok (.ldc 73, 2) := by decide +kernel
theorem d_Itm_isSecond_3 : decode b_Itm_isSecond 3 = .ok (.if_icmp .lt 13, 3) := by decide +kernel
theorem d_Itm_isSecond_6 : decode b_Itm_isSecond 6 = .ok (.iload_n 0, 1) := by decide +kernel
theorem d_Itm_isSecond_7 : decode b_Itm_isSecond 7 = .ok (.ldc 75, 2) := by decide +kernel
theorem d_Itm_isSecond_9 : decode b_Itm_isSecond 9 = .ok (.if_icmp .gt 7, 3) := by decide +kernel
theorem d_Itm_isSecond_12 : decode b_Itm_isSecond 12 = .ok (.iconst 1, 1) := by decide +kernel
theorem d_Itm_isSecond_13 : decode b_Itm_isSecond 13 = .ok (.goto 4, 3) := by decide +kernel
theorem d_Itm_isSecond_16 : decode b_Itm_isSecond 16 = .ok (.iconst 0, 1) := by decide +kernel
theorem d_Itm_isSecond_17 : decode b_Itm_isSecond 17 = .ok (.ireturn, 1) := by decide +kernel
theorem d_Sea_init_0 : decode b_Sea_init 0 = .ok (.aload_n 0, 1) := by decide +kernel
theorem d_Sea_init_1 : decode b_Sea_init 1 = .ok (.invokespecial 3, 3) := by decide +kernel
theorem d_Sea_init_4 : decode b_Sea_init 4 = .ok (.aload_n 0, 1) := by decide +kernel
theorem d_Sea_init_5 : decode b_Sea_init 5 = .ok (.bipush 24, 2) := by decide +kernel
theorem d_Sea_init_7 : decode b_Sea_init 7 = .ok (.newarray .int, 2) := by decide +kernel
theorem d_Sea_init_9 : decode b_Sea_init 9 = .ok (.putfield 9, 3) := by decide +kernel
theorem d_Sea_init_12 : decode b_Sea_init 12 = .ok (.aload_n 0, 1) := by decide +kernel
theorem d_Sea_init_13 : decode b_Sea_init 13 = .ok (.bipush 24, 2) := by decide +kernel
theorem d_Sea_init_15 : decode b_Sea_init 15 = .ok (.newarray .boolean, 2) := by decide +kernel
theorem d_Sea_init_17 : decode b_Sea_init 17 = .ok (.putfield 15, 3) := by decide +kernel
theorem d_Sea_init_20 : decode b_Sea_init 20 = .ok (.aload_n 0, 1) := by decide +kernel
theorem d_Sea_init_21 : decode b_Sea_init 21 = .ok (.bipush 25, 2) := by decide +kernel
theorem d_Sea_init_23 : decode b_Sea_init 23 = .ok (.newarray .int, 2) := by decide +kernel
theorem d_Sea_init_25 : decode b_Sea_init 25 = .ok (.putfield 19, 3) := by decide +kernel
theorem d_Sea_init_28 : decode b_Sea_init 28 = .ok (.aload_n 0, 1) := by decide +kernel
theorem d_Sea_init_29 : decode b_Sea_init 29 = .ok (.iconst 0, 1) := by decide +kernel
theorem d_Sea_init_30 : decode b_Sea_init 30 = .ok (.putfield 22, 3) := by decide +kernel
theorem d_Sea_init_33 : decode b_Sea_init 33 = .ok (.aload_n 0, 1) := by decide +kernel
theorem d_Sea_init_34 : decode b_Sea_init 34 = .ok (.iconst (-1), 1) := by decide +kernel
theorem d_Sea_init_35 : decode b_Sea_init 35 = .ok (.putfield 26, 3) := by decide +kernel
theorem d_Sea_init_38 : decode b_Sea_init 38 = .ok (.return_, 1) := by decide +kernel
theorem d_Sea_takePattern_0 : decode b_Sea_takePattern 0 = .ok (.aload_n 0, 1) := by decide +kernel
theorem d_Sea_takePattern_1 : decode b_Sea_takePattern 1 = .ok (.iconst 0, 1) := by decide +kernel
theorem d_Sea_takePattern_2 : decode b_Sea_takePattern 2 = .ok (.putfield 22, 3) := by decide +kernel
theorem d_Sea_takePattern_5 : decode b_Sea_takePattern 5 = .ok (.iconst 0, 1) := by decide +kernel
theorem d_Sea_takePattern_6 : decode b_Sea_takePattern 6 = .ok (.istore_n 2, 1) := by decide +kernel
theorem d_Sea_takePattern_7 : decode b_Sea_takePattern 7 = .ok (.iload_n 2, 1) := by decide +kernel
theorem d_Sea_takePattern_8 : decode b_Sea_takePattern 8 = .ok (.aload_n 1, 1) := by decide +kernel
theorem d_Sea_takePattern_9 : decode b_Sea_takePattern 9 = .ok (.invokevirtual 29, 3) := by decide +kernel
theorem d_Sea_takePattern_12 : decode b_Sea_takePattern 12 = .ok (.if_icmp .ge 89, 3) := by decide +kernel
theorem d_Sea_takePattern_15 : decode b_Sea_takePattern 15 = .ok (.aload_n 1, 1) := by decide +kernel
theorem d_Sea_takePattern_16 : decode b_Sea_takePattern 16 = .ok (.iload_n 2, 1) := by decide +kernel
theorem d_Sea_takePattern_17 : decode b_Sea_takePattern 17 = .ok (.invokevirtual 35, 3) := by decide +kernel
theorem d_Sea_takePattern_20 : decode b_Sea_takePattern 20 = .ok (.istore_n 3, 1) := by decide +kernel
theorem d_Sea_takePattern_21 : decode b_Sea_takePattern 21 = .ok (.iload_n 3, 1) := by decide +kernel
theorem d_Sea_takePattern_22 : decode b_Sea_takePattern 22 = .ok (.bipush 42, 2) := by decide +kernel
theorem d_Sea_takePattern_24 : decode b_Sea_takePattern 24 = .ok (.if_icmp .eq 36, 3) := by decide +kernel
theorem d_Sea_takePattern_27 : decode b_Sea_takePattern 27 = .ok (.aload_n 0, 1) := by decide +kernel
theorem d_Sea_takePattern_28 : decode b_Sea_takePattern 28 = .ok (.getfield 9, 3) := by decide +kernel
theorem d_Sea_takePattern_31 : decode b_Sea_takePattern 31 = .ok (.aload_n 0, 1) := by decide +kernel
theorem d_Sea_takePattern_32 : decode b_Sea_takePattern 32 = .ok (.getfield 22, 3) := by decide +kernel
theorem d_Sea_takePattern_35 : decode b_Sea_takePattern 35 = .ok (.iload_n 3, 1) := by decide +kernel
theorem d_Sea_takePattern_36 : decode b_Sea_takePattern 36 = .ok (.iastore, 1) := by decide +kernel
theorem d_Sea_takePattern_37 : decode b_Sea_takePattern 37 = .ok (.aload_n 0, 1) := by decide +kernel
theorem d_Sea_takePattern_38 : decode b_Sea_takePattern 38 = .ok (.getfield 15, 3) := by decide +kernel
theorem d_Sea_takePattern_41 : decode b_Sea_takePattern 41 = .ok (.aload_n 0, 1) := by decide +kernel
theorem d_Sea_takePattern_42 : decode b_Sea_takePattern 42 = .ok (.getfield 22, 3) := by decide +kernel
theorem d_Sea_takePattern_45 : decode b_Sea_takePattern 45 = .ok (.iconst 0, 1) := by decide +kernel
theorem d_Sea_takePattern_46 : decode b_Sea_takePattern 46 = .ok (.bastore, 1) := by decide +kernel
theorem d_Sea_takePattern_47 : decode b_Sea_takePattern 47 = .ok (.aload_n 0, 1) := by decide +kernel
theorem d_Sea_takePattern_48 : decode b_Sea_takePattern 48 = .ok (.dup, 1) := by decide +kernel
theorem d_Sea_takePattern_49 : decode b_Sea_takePattern 49 = .ok (.getfield 22, 3) := by decide +kernel
theorem d_Sea_takePattern_52 : decode b_Sea_takePattern 52 = .ok (.iconst 1, 1) := by decide +kernel
theorem d_Sea_takePattern_53 : decode b_Sea_takePattern 53 = .ok (.iadd, 1) := by decide +kernel
theorem d_Sea_takePattern_54 : decode b_Sea_takePattern 54 = .ok (.putfield 22, 3) := by decide +kernel
theorem d_Sea_takePattern_57 : decode b_Sea_takePattern 57 = .ok (.goto 38, 3) := by decide +kernel
theorem d_Sea_takePattern_60 : decode b_Sea_takePattern 60 = .ok (.aload_n 0, 1) := by decide +kernel
theorem d_Sea_takePattern_61 : decode b_Sea_takePattern 61 = .ok (.getfield 22, 3) := by decide +kernel
theorem d_Sea_takePattern_64 : decode b_Sea_takePattern 64 = .ok (.ifCond .eq 17, 3) := by decide +kernel
theorem d_Sea_takePattern_67 : decode b_Sea_takePattern 67 = .ok (.aload_n 0, 1) := by decide +kernel
theorem d_Sea_takePattern_68 : decode b_Sea_takePattern 68 = .ok (.getfield 15, 3) := by decide +kernel
theorem d_Sea_takePattern_71 : decode b_Sea_takePattern 71 = .ok (.aload_n 0, 1) := by decide +kernel
theorem d_Sea_takePattern_72 : decode b_Sea_takePattern 72 = .ok (.getfield 22, 3) := by decide +kernel
theorem d_Sea_takePattern_75 : decode b_Sea_takePattern 75 = .ok (.iconst 1, 1) := by decide +kernel
theorem d_Sea_takePattern_76 : decode b_Sea_takePattern 76 = .ok (.isub, 1) := by decide +kernel
theorem d_Sea_takePattern_77 : decode b_Sea_takePattern 77 = .ok (.baload, 1) := by decide +kernel
theorem d_Sea_takePattern_78 : decode b_Sea_takePattern 78 = .ok (.ifCond .eq 5, 3) := by decide +kernel
theorem d_Sea_takePattern_81 : decode b_Sea_takePattern 81 = .ok (.iconst 0, 1) := by decide +kernel
theorem d_Sea_takePattern_82 : decode b_Sea_takePattern 82 = .ok (.ireturn, 1) := by decide +kernel
theorem d_Sea_takePattern_83 : decode b_Sea_takePattern 83 = .ok (.aload_n 0, 1) := by decide +kernel
theorem d_Sea_takePattern_84 : decode b_Sea_takePattern 84 = .ok (.getfield 15, 3) := by decide +kernel
theorem d_Sea_takePattern_87 : decode b_Sea_takePattern 87 = .ok (.aload_n 0, 1) := by decide +kernel
theorem d_Sea_takePattern_88 : decode b_Sea_takePattern 88 = .ok (.getfield 22, 3) := by decide +kernel
theorem d_Sea_takePattern_91 : decode b_Sea_takePattern 91 = .ok (.iconst 1, 1) := by decide +kernel
theorem d_Sea_takePattern_92 : decode b_Sea_takePattern 92 = .ok (.isub, 1) := by decide +kernel
theorem d_Sea_takePattern_93 : decode b_Sea_takePattern 93 = .ok (.iconst 1, 1) := by decide +kernel
theorem d_Sea_takePattern_94 : decode b_Sea_takePattern 94 = .ok (.bastore, 1) := by decide +kernel
theorem d_Sea_takePattern_95 : decode b_Sea_takePattern 95 = .ok (.iinc 2 1, 3) := by decide +kernel
theorem d_Sea_takePattern_98 : decode b_Sea_takePattern 98 = .ok (.goto (-91), 3) := by decide +kernel
theorem d_Sea_takePattern_101 : decode b_Sea_takePattern 101 = .ok (.aload_n 0, 1) := by decide +kernel
theorem d_Sea_takePattern_102 : decode b_Sea_takePattern 102 = .ok (.getfield 22, 3) := by decide +kernel
theorem d_Sea_takePattern_105 : decode b_Sea_takePattern 105 = .ok (.ifCond .le 7, 3) := by decide +kernel
theorem d_Sea_takePattern_108 : decode b_Sea_takePattern 108 = .ok (.iconst 1, 1) := by decide +kernel
theorem d_Sea_takePattern_109 : decode b_Sea_takePattern 109 = .ok (.goto 4, 3) := by decide +kernel
theorem d_Sea_takePattern_112 : decode b_Sea_takePattern 112 = .ok (.iconst 0, 1) := by decide +kernel
theorem d_Sea_takePattern_113 : decode b_Sea_takePattern 113 = .ok (.ireturn, 1) := by decide +kernel
theorem d_Sea_firstMatch_0 : decode b_Sea_firstMatch 0 = .ok (.iconst (-1), 1) := by decide +kernel
theorem d_Sea_firstMatch_1 : decode b_Sea_firstMatch 1 = .ok (.istore_n 3, 1) := by decide +kernel
theorem d_Sea_firstMatch_2 : decode b_Sea_firstMatch 2 = .ok (.aload_n 1, 1) := by decide +kernel
theorem d_Sea_firstMatch_3 : decode b_Sea_firstMatch 3 = .ok (.invokeinterface 39 1, 5) := by decide +kernel
theorem d_Sea_firstMatch_8 : decode b_Sea_firstMatch 8 = .ok (.istore 4, 2) := by decide +kernel
theorem d_Sea_firstMatch_10 : decode b_Sea_firstMatch 10 = .ok (.iload 4, 2) := by decide +kernel
theorem d_Sea_firstMatch_12 : decode b_Sea_firstMatch 12 = .ok (.iload_n 2, 1) := by decide +kernel
theorem d_Sea_firstMatch_13 : decode b_Sea_firstMatch 13 = .ok (.if_icmp .lt 46, 3) := by decide +kernel
theorem d_Sea_firstMatch_16 : decode b_Sea_firstMatch 16 = .ok (.aload_n 0, 1) := by decide +kernel
theorem d_Sea_firstMatch_17 : decode b_Sea_firstMatch 17 = .ok (.iload 4, 2) := by decide +kernel
theorem d_Sea_firstMatch_19 : decode b_Sea_firstMatch 19 = .ok (.aload_n 1, 1) := by decide +kernel
theorem d_Sea_firstMatch_20 : decode b_Sea_firstMatch 20 = .ok (.iload 4, 2) := by decide +kernel
theorem d_Sea_firstMatch_22 : decode b_Sea_firstMatch 22 = .ok (.invokeinterface 42 2, 5) := by decide +kernel
theorem d_Sea_firstMatch_27 : decode b_Sea_firstMatch 27 = .ok (.invokevirtual 43, 3) := by decide +kernel
theorem d_Sea_firstMatch_30 : decode b_Sea_firstMatch 30 = .ok (.aload_n 0, 1) := by decide +kernel
theorem d_Sea_firstMatch_31 : decode b_Sea_firstMatch 31 = .ok (.getfield 19, 3) := by decide +kernel
theorem d_Sea_firstMatch_34 : decode b_Sea_firstMatch 34 = .ok (.iconst 0, 1) := by decide +kernel
theorem d_Sea_firstMatch_35 : decode b_Sea_firstMatch 35 = .ok (.iaload, 1) := by decide +kernel
theorem d_Sea_firstMatch_36 : decode b_Sea_firstMatch 36 = .ok (.iconst (-1), 1) := by decide +kernel
theorem d_Sea_firstMatch_37 : decode b_Sea_firstMatch 37 = .ok (.if_icmp .eq 16, 3) := by decide +kernel
theorem d_Sea_firstMatch_40 : decode b_Sea_firstMatch 40 = .ok (.iload 4, 2) := by decide +kernel
theorem d_Sea_firstMatch_42 : decode b_Sea_firstMatch 42 = .ok (.istore_n 3, 1) := by decide +kernel
theorem d_Sea_firstMatch_43 : decode b_Sea_firstMatch 43 = .ok (.aload_n 0, 1) := by decide +kernel
theorem d_Sea_firstMatch_44 : decode b_Sea_firstMatch 44 = .ok (.aload_n 0, 1) := by decide +kernel
theorem d_Sea_firstMatch_45 : decode b_Sea_firstMatch 45 = .ok (.getfield 19, 3) := by decide +kernel
theorem d_Sea_firstMatch_48 : decode b_Sea_firstMatch 48 = .ok (.iconst 0, 1) := by decide +kernel
theorem d_Sea_firstMatch_49 : decode b_Sea_firstMatch 49 = .ok (.iaload, 1) := by decide +kernel
theorem d_Sea_firstMatch_50 : decode b_Sea_firstMatch 50 = .ok (.putfield 26, 3) := by decide +kernel
theorem d_Sea_firstMatch_53 : decode b_Sea_firstMatch 53 = .ok (.iinc 4 (-1), 3) := by decide +kernel
theorem d_Sea_firstMatch_56 : decode b_Sea_firstMatch 56 = .ok (.goto (-46), 3) := by decide +kernel
theorem d_Sea_firstMatch_59 : decode b_Sea_firstMatch 59 = .ok (.iload_n 3, 1) := by decide +kernel
theorem d_Sea_firstMatch_60 : decode b_Sea_firstMatch 60 = .ok (.ireturn, 1) := by decide +kernel
theorem d_Sea_matchEnd_0 : decode b_Sea_matchEnd 0 = .ok (.aload_n 0, 1) := by decide +kernel
theorem d_Sea_matchEnd_1 : decode b_Sea_matchEnd 1 = .ok (.getfield 26, 3) := by decide +kernel
theorem d_Sea_matchEnd_4 : decode b_Sea_matchEnd 4 = .ok (.ireturn, 1) := by decide +kernel
theorem d_Sea_reachFrom_0 : decode b_Sea_reachFrom 0 = .ok (.aload_n 0, 1) := by decide +kernel
theorem d_Sea_reachFrom_1 : decode b_Sea_reachFrom 1 = .ok (.getfield 19, 3) := by decide +kernel
theorem d_Sea_reachFrom_4 : decode b_Sea_reachFrom 4 = .ok (.aload_n 0, 1) := by decide +kernel
theorem d_Sea_reachFrom_5 : decode b_Sea_reachFrom 5 = .ok (.getfield 22, 3) := by decide +kernel
theorem d_Sea_reachFrom_8 : decode b_Sea_reachFrom 8 = .ok (.iaload, 1) := by decide +kernel
theorem d_Sea_reachFrom_9 : decode b_Sea_reachFrom 9 = .ok (.istore_n 3, 1) := by decide +kernel
theorem d_Sea_reachFrom_10 : decode b_Sea_reachFrom 10 = .ok (.aload_n 0, 1) := by decide +kernel
theorem d_Sea_reachFrom_11 : decode b_Sea_reachFrom 11 = .ok (.getfield 19, 3) := by decide +kernel
theorem d_Sea_reachFrom_14 : decode b_Sea_reachFrom 14 = .ok (.aload_n 0, 1) := by decide +kernel
theorem d_Sea_reachFrom_15 : decode b_Sea_reachFrom 15 = .ok (.getfield 22, 3) := by decide +kernel
theorem d_Sea_reachFrom_18 : decode b_Sea_reachFrom 18 = .ok (.iload_n 1, 1) := by decide +kernel
theorem d_Sea_reachFrom_19 : decode b_Sea_reachFrom 19 = .ok (.iastore, 1) := by decide +kernel
theorem d_Sea_reachFrom_20 : decode b_Sea_reachFrom 20 = .ok (.aload_n 0, 1) := by decide +kernel
theorem d_Sea_reachFrom_21 : decode b_Sea_reachFrom 21 = .ok (.getfield 22, 3) := by decide +kernel
theorem d_Sea_reachFrom_24 : decode b_Sea_reachFrom 24 = .ok (.iconst 1, 1) := by decide +kernel
theorem d_Sea_reachFrom_25 : decode b_Sea_reachFrom 25 = .ok (.isub, 1) := by decide +kernel
theorem d_Sea_reachFrom_26 : decode b_Sea_reachFrom 26 = .ok (.istore 4, 2) := by decide +kernel
theorem d_Sea_reachFrom_28 : decode b_Sea_reachFrom 28 = .ok (.iload 4, 2) := by decide +kernel
theorem d_Sea_reachFrom_30 : decode b_Sea_reachFrom 30 = .ok (.ifCond .lt 94, 3) := by decide +kernel
theorem d_Sea_reachFrom_33 : decode b_Sea_reachFrom 33 = .ok (.aload_n 0, 1) := by decide +kernel
theorem d_Sea_reachFrom_34 : decode b_Sea_reachFrom 34 = .ok (.getfield 19, 3) := by decide +kernel
theorem d_Sea_reachFrom_37 : decode b_Sea_reachFrom 37 = .ok (.iload 4, 2) := by decide +kernel
theorem d_Sea_reachFrom_39 : decode b_Sea_reachFrom 39 = .ok (.iaload, 1) := by decide +kernel
theorem d_Sea_reachFrom_40 : decode b_Sea_reachFrom 40 = .ok (.istore 5, 2) := by decide +kernel
theorem d_Sea_reachFrom_42 : decode b_Sea_reachFrom 42 = .ok (.aload_n 0, 1) := by decide +kernel
theorem d_Sea_reachFrom_43 : decode b_Sea_reachFrom 43 = .ok (.iload 4, 2) := by decide +kernel
theorem d_Sea_reachFrom_45 : decode b_Sea_reachFrom 45 = .ok (.iload_n 2, 1) := by decide +kernel
theorem d_Sea_reachFrom_46 : decode b_Sea_reachFrom 46 = .ok (.invokevirtual 47, 3) := by decide +kernel
theorem d_Sea_reachFrom_49 : decode b_Sea_reachFrom 49 = .ok (.istore 6, 2) := by decide +kernel
theorem d_Sea_reachFrom_51 : decode b_Sea_reachFrom 51 = .ok (.aload_n 0, 1) := by decide +kernel
theorem d_Sea_reachFrom_52 : decode b_Sea_reachFrom 52 = .ok (.getfield 15, 3) := by decide +kernel
theorem d_Sea_reachFrom_55 : decode b_Sea_reachFrom 55 = .ok (.iload 4, 2) := by decide +kernel
theorem d_Sea_reachFrom_57 : decode b_Sea_reachFrom 57 = .ok (.baload, 1) := by decide +kernel
theorem d_Sea_reachFrom_58 : decode b_Sea_reachFrom 58 = .ok (.ifCond .eq 40, 3) := by decide +kernel
theorem d_Sea_reachFrom_61 : decode b_Sea_reachFrom 61 = .ok (.iload 6, 2) := by decide +kernel
theorem d_Sea_reachFrom_63 : decode b_Sea_reachFrom 63 = .ok (.ifCond .eq 8, 3) := by decide +kernel
theorem d_Sea_reachFrom_66 : decode b_Sea_reachFrom 66 = .ok (.iload 5, 2) := by decide +kernel
theorem d_Sea_reachFrom_68 : decode b_Sea_reachFrom 68 = .ok (.goto 4, 3) := by decide +kernel
theorem d_Sea_reachFrom_71 : decode b_Sea_reachFrom 71 = .ok (.iconst (-1), 1) := by decide +kernel
theorem d_Sea_reachFrom_72 : decode b_Sea_reachFrom 72 = .ok (.istore 7, 2) := by decide +kernel
theorem d_Sea_reachFrom_74 : decode b_Sea_reachFrom 74 = .ok (.aload_n 0, 1) := by decide +kernel
theorem d_Sea_reachFrom_75 : decode b_Sea_reachFrom 75 = .ok (.getfield 19, 3) := by decide +kernel
theorem d_Sea_reachFrom_78 : decode b_Sea_reachFrom 78 = .ok (.iload 4, 2) := by decide +kernel
theorem d_Sea_reachFrom_80 : decode b_Sea_reachFrom 80 = .ok (.iload 7, 2) := by decide +kernel
theorem d_Sea_reachFrom_82 : decode b_Sea_reachFrom 82 = .ok (.aload_n 0, 1) := by decide +kernel
theorem d_Sea_reachFrom_83 : decode b_Sea_reachFrom 83 = .ok (.getfield 19, 3) := by decide +kernel
theorem d_Sea_reachFrom_86 : decode b_Sea_reachFrom 86 = .ok (.iload 4, 2) := by decide +kernel
theorem d_Sea_reachFrom_88 : decode b_Sea_reachFrom 88 = .ok (.iconst 1, 1) := by decide +kernel
theorem d_Sea_reachFrom_89 : decode b_Sea_reachFrom 89 = .ok (.iadd, 1) := by decide +kernel
theorem d_Sea_reachFrom_90 : decode b_Sea_reachFrom 90 = .ok (.iaload, 1) := by decide +kernel
theorem d_Sea_reachFrom_91 : decode b_Sea_reachFrom 91 = .ok (.invokestatic 51, 3) := by decide +kernel
theorem d_Sea_reachFrom_94 : decode b_Sea_reachFrom 94 = .ok (.iastore, 1) := by decide +kernel
theorem d_Sea_reachFrom_95 : decode b_Sea_reachFrom 95 = .ok (.goto 20, 3) := by decide +kernel
theorem d_Sea_reachFrom_98 : decode b_Sea_reachFrom 98 = .ok (.aload_n 0, 1) := by decide +kernel
theorem d_Sea_reachFrom_99 : decode b_Sea_reachFrom 99 = .ok (.getfield 19, 3) := by decide +kernel
theorem d_Sea_reachFrom_102 : decode b_Sea_reachFrom 102 = .ok (.iload 4, 2) := by decide +kernel
theorem d_Sea_reachFrom_104 : decode b_Sea_reachFrom 104 = .ok (.iload 6, 2) := by decide +kernel
theorem d_Sea_reachFrom_106 : decode b_Sea_reachFrom 106 = .ok (.ifCond .eq 7, 3) := by decide +kernel
theorem d_Sea_reachFrom_109 : decode b_Sea_reachFrom 109 = .ok (.iload_n 3, 1) := by decide +kernel
theorem d_Sea_reachFrom_110 : decode b_Sea_reachFrom 110 = .ok (.goto 4, 3) := by decide +kernel
theorem d_Sea_reachFrom_113 : decode b_Sea_reachFrom 113 = .ok (.iconst (-1), 1) := by decide +kernel
theorem d_Sea_reachFrom_114 : decode b_Sea_reachFrom 114 = .ok (.iastore, 1) := by decide +kernel
theorem d_Sea_reachFrom_115 : decode b_Sea_reachFrom 115 = .ok (.iload 5, 2) := by decide +kernel
theorem d_Sea_reachFrom_117 : decode b_Sea_reachFrom 117 = .ok (.istore_n 3, 1) := by decide +kernel
theorem d_Sea_reachFrom_118 : decode b_Sea_reachFrom 118 = .ok (.iinc 4 (-1), 3) := by decide +kernel
theorem d_Sea_reachFrom_121 : decode b_Sea_reachFrom 121 = .ok (.goto (-93), 3) := by decide +kernel
theorem d_Sea_reachFrom_124 : decode b_Sea_reachFrom 124 = .ok (.return_, 1) := by decide +kernel
theorem d_Sea_standsFor_0 : decode b_Sea_standsFor 0 = .ok (.aload_n 0, 1) := by decide +kernel
theorem d_Sea_standsFor_1 : decode b_Sea_standsFor 1 = .ok (.getfield 9, 3) := by decide +kernel
theorem d_Sea_standsFor_4 : decode b_Sea_standsFor 4 = .ok (.iload_n 1, 1) := by decide +kernel
theorem d_Sea_standsFor_5 : decode b_Sea_standsFor 5 = .ok (.iaload, 1) := by decide +kernel
theorem d_Sea_standsFor_6 : decode b_Sea_standsFor 6 = .ok (.bipush 46, 2) := by decide +kernel
theorem d_Sea_standsFor_8 : decode b_Sea_standsFor 8 = .ok (.if_icmp .ne 26, 3) := by decide +kernel
theorem d_Sea_standsFor_11 : decode b_Sea_standsFor 11 = .ok (.iload_n 2, 1) := by decide +kernel
theorem d_Sea_standsFor_12 : decode b_Sea_standsFor 12 = .ok (.iconst (-1), 1) := by decide +kernel
theorem d_Sea_standsFor_13 : decode b_Sea_standsFor 13 = .ok (.if_icmp .eq 19, 3) := by decide +kernel
theorem d_Sea_standsFor_16 : decode b_Sea_standsFor 16 = .ok (.iload_n 2, 1) := by decide +kernel
theorem d_Sea_standsFor_17 : decode b_Sea_standsFor 17 = .ok (.bipush 10, 2) := by decide +kernel
theorem d_Sea_standsFor_19 : decode b_Sea_standsFor 19 = .ok (.if_icmp .eq 13, 3) := by decide +kernel
theorem d_Sea_standsFor_22 : decode b_Sea_standsFor 22 = .ok (.iload_n 2, 1) := by decide +kernel
theorem d_Sea_standsFor_23 : decode b_Sea_standsFor 23 = .ok (.bipush 13, 2) := by decide +kernel
theorem d_Sea_standsFor_25 : decode b_Sea_standsFor 25 = .ok (.if_icmp .eq 7, 3) := by decide +kernel
theorem d_Sea_standsFor_28 : decode b_Sea_standsFor 28 = .ok (.iconst 1, 1) := by decide +kernel
theorem d_Sea_standsFor_29 : decode b_Sea_standsFor 29 = .ok (.goto 4, 3) := by decide +kernel
theorem d_Sea_standsFor_32 : decode b_Sea_standsFor 32 = .ok (.iconst 0, 1) := by decide +kernel
theorem d_Sea_standsFor_33 : decode b_Sea_standsFor 33 = .ok (.ireturn, 1) := by decide +kernel
theorem d_Sea_standsFor_34 : decode b_Sea_standsFor 34 = .ok (.iload_n 2, 1) := by decide +kernel
theorem d_Sea_standsFor_35 : decode b_Sea_standsFor 35 = .ok (.aload_n 0, 1) := by decide +kernel
theorem d_Sea_standsFor_36 : decode b_Sea_standsFor 36 = .ok (.getfield 9, 3) := by decide +kernel
theorem d_Sea_standsFor_39 : decode b_Sea_standsFor 39 = .ok (.iload_n 1, 1) := by decide +kernel
theorem d_Sea_standsFor_40 : decode b_Sea_standsFor 40 = .ok (.iaload, 1) := by decide +kernel
theorem d_Sea_standsFor_41 : decode b_Sea_standsFor 41 = .ok (.if_icmp .ne 7, 3) := by decide +kernel
theorem d_Sea_standsFor_44 : decode b_Sea_standsFor 44 = .ok (.iconst 1, 1) := by decide +kernel
theorem d_Sea_standsFor_45 : decode b_Sea_standsFor 45 = .ok (.goto 4, 3) := by decide +kernel
theorem d_Sea_standsFor_48 : decode b_Sea_standsFor 48 = .ok (.iconst 0, 1) := by decide +kernel
theorem d_Sea_standsFor_49 : decode b_Sea_standsFor 49 = .ok (.ireturn, 1) := by decide +kernel
