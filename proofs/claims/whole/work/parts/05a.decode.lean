theorem d_Row_init_0 : decode b_Row_init 0 = .ok (.aload_n 0, 1) := by decide +kernel
theorem d_Row_init_1 : decode b_Row_init 1 = .ok (.invokespecial 3, 3) := by decide +kernel
theorem d_Row_init_4 : decode b_Row_init 4 = .ok (.aload_n 0, 1) := by decide +kernel
theorem d_Row_init_5 : decode b_Row_init 5 = .ok (.iload_n 1, 1) := by decide +kernel
theorem d_Row_init_6 : decode b_Row_init 6 = .ok (.newarray .char, 2) := by decide +kernel
theorem d_Row_init_8 : decode b_Row_init 8 = .ok (.putfield 9, 3) := by decide +kernel
theorem d_Row_init_11 : decode b_Row_init 11 = .ok (.aload_n 0, 1) := by decide +kernel
theorem d_Row_init_12 : decode b_Row_init 12 = .ok (.iconst 0, 1) := by decide +kernel
theorem d_Row_init_13 : decode b_Row_init 13 = .ok (.putfield 15, 3) := by decide +kernel
theorem d_Row_init_16 : decode b_Row_init 16 = .ok (.return_, 1) := by decide +kernel
theorem d_Row_length_0 : decode b_Row_length 0 = .ok (.aload_n 0, 1) := by decide +kernel
theorem d_Row_length_1 : decode b_Row_length 1 = .ok (.getfield 15, 3) := by decide +kernel
theorem d_Row_length_4 : decode b_Row_length 4 = .ok (.ireturn, 1) := by decide +kernel
theorem d_Row_at_0 : decode b_Row_at 0 = .ok (.iload_n 1, 1) := by decide +kernel
theorem d_Row_at_1 : decode b_Row_at 1 = .ok (.ifCond .lt 20, 3) := by decide +kernel
theorem d_Row_at_4 : decode b_Row_at 4 = .ok (.iload_n 1, 1) := by decide +kernel
theorem d_Row_at_5 : decode b_Row_at 5 = .ok (.aload_n 0, 1) := by decide +kernel
theorem d_Row_at_6 : decode b_Row_at 6 = .ok (.getfield 15, 3) := by decide +kernel
theorem d_Row_at_9 : decode b_Row_at 9 = .ok (.if_icmp .ge 12, 3) := by decide +kernel
theorem d_Row_at_12 : decode b_Row_at 12 = .ok (.aload_n 0, 1) := by decide +kernel
theorem d_Row_at_13 : decode b_Row_at 13 = .ok (.getfield 9, 3) := by decide +kernel
theorem d_Row_at_16 : decode b_Row_at 16 = .ok (.iload_n 1, 1) := by decide +kernel
theorem d_Row_at_17 : decode b_Row_at 17 = .ok (.caload, 1) := by decide +kernel
theorem d_Row_at_18 : decode b_Row_at 18 = .ok (.goto 4, 3) := by decide +kernel
theorem d_Row_at_21 : decode b_Row_at 21 = .ok (.iconst (-1), 1) := by decide +kernel
theorem d_Row_at_22 : decode b_Row_at 22 = .ok (.ireturn, 1) := by decide +kernel
theorem d_Row_cut_0 : decode b_Row_cut 0 = .ok (.aload_n 0, 1) := by decide +kernel
theorem d_Row_cut_1 : decode b_Row_cut 1 = .ok (.getfield 9, 3) := by decide +kernel
theorem d_Row_cut_4 : decode b_Row_cut 4 = .ok (.iload_n 2, 1) := by decide +kernel
theorem d_Row_cut_5 : decode b_Row_cut 5 = .ok (.aload_n 0, 1) := by decide +kernel
theorem d_Row_cut_6 : decode b_Row_cut 6 = .ok (.getfield 9, 3) := by decide +kernel
theorem d_Row_cut_9 : decode b_Row_cut 9 = .ok (.iload_n 1, 1) := by decide +kernel
theorem d_Row_cut_10 : decode b_Row_cut 10 = .ok (.aload_n 0, 1) := by decide +kernel
theorem d_Row_cut_11 : decode b_Row_cut 11 = .ok (.getfield 15, 3) := by decide +kernel
theorem d_Row_cut_14 : decode b_Row_cut 14 = .ok (.iload_n 2, 1) := by decide +kernel
theorem d_Row_cut_15 : decode b_Row_cut 15 = .ok (.isub, 1) := by decide +kernel
theorem d_Row_cut_16 : decode b_Row_cut 16 = .ok (.invokestatic 19, 3) := by decide +kernel
theorem d_Row_cut_19 : decode b_Row_cut 19 = .ok (.aload_n 0, 1) := by decide +kernel
theorem d_Row_cut_20 : decode b_Row_cut 20 = .ok (.dup, 1) := by decide +kernel
theorem d_Row_cut_21 : decode b_Row_cut 21 = .ok (.getfield 15, 3) := by decide +kernel
theorem d_Row_cut_24 : decode b_Row_cut 24 = .ok (.iload_n 2, 1) := by decide +kernel
theorem d_Row_cut_25 : decode b_Row_cut 25 = .ok (.iload_n 1, 1) := by decide +kernel
theorem d_Row_cut_26 : decode b_Row_cut 26 = .ok (.isub, 1) := by decide +kernel
theorem d_Row_cut_27 : decode b_Row_cut 27 = .ok (.isub, 1) := by decide +kernel
theorem d_Row_cut_28 : decode b_Row_cut 28 = .ok (.putfield 15, 3) := by decide +kernel
theorem d_Row_cut_31 : decode b_Row_cut 31 = .ok (.return_, 1) := by decide +kernel
theorem d_Row_put_0 : decode b_Row_put 0 = .ok (.aload_n 0, 1) := by decide +kernel
theorem d_Row_put_1 : decode b_Row_put 1 = .ok (.getfield 9, 3) := by decide +kernel
theorem d_Row_put_4 : decode b_Row_put 4 = .ok (.iload_n 1, 1) := by decide +kernel
theorem d_Row_put_5 : decode b_Row_put 5 = .ok (.aload_n 0, 1) := by decide +kernel
theorem d_Row_put_6 : decode b_Row_put 6 = .ok (.getfield 9, 3) := by decide +kernel
theorem d_Row_put_9 : decode b_Row_put 9 = .ok (.iload_n 1, 1) := by decide +kernel
theorem d_Row_put_10 : decode b_Row_put 10 = .ok (.aload_n 2, 1) := by decide +kernel
theorem d_Row_put_11 : decode b_Row_put 11 = .ok (.getfield 15, 3) := by decide +kernel
theorem d_Row_put_14 : decode b_Row_put 14 = .ok (.iadd, 1) := by decide +kernel
theorem d_Row_put_15 : decode b_Row_put 15 = .ok (.aload_n 0, 1) := by decide +kernel
theorem d_Row_put_16 : decode b_Row_put 16 = .ok (.getfield 15, 3) := by decide +kernel
theorem d_Row_put_19 : decode b_Row_put 19 = .ok (.iload_n 1, 1) := by decide +kernel
theorem d_Row_put_20 : decode b_Row_put 20 = .ok (.isub, 1) := by decide +kernel
theorem d_Row_put_21 : decode b_Row_put 21 = .ok (.invokestatic 19, 3) := by decide +kernel
theorem d_Row_put_24 : decode b_Row_put 24 = .ok (.aload_n 2, 1) := by decide +kernel
theorem d_Row_put_25 : decode b_Row_put 25 = .ok (.aload_n 0, 1) := by decide +kernel
theorem d_Row_put_26 : decode b_Row_put 26 = .ok (.getfield 9, 3) := by decide +kernel
theorem d_Row_put_29 : decode b_Row_put 29 = .ok (.iload_n 1, 1) := by decide +kernel
theorem d_Row_put_30 : decode b_Row_put 30 = .ok (.invokevirtual 25, 3) := by decide +kernel
theorem d_Row_put_33 : decode b_Row_put 33 = .ok (.aload_n 0, 1) := by decide +kernel
theorem d_Row_put_34 : decode b_Row_put 34 = .ok (.dup, 1) := by decide +kernel
theorem d_Row_put_35 : decode b_Row_put 35 = .ok (.getfield 15, 3) := by decide +kernel
theorem d_Row_put_38 : decode b_Row_put 38 = .ok (.aload_n 2, 1) := by decide +kernel
theorem d_Row_put_39 : decode b_Row_put 39 = .ok (.getfield 15, 3) := by decide +kernel
theorem d_Row_put_42 : decode b_Row_put 42 = .ok (.iadd, 1) := by decide +kernel
theorem d_Row_put_43 : decode b_Row_put 43 = .ok (.putfield 15, 3) := by decide +kernel
theorem d_Row_put_46 : decode b_Row_put 46 = .ok (.return_, 1) := by decide +kernel
theorem d_Row_become_0 : decode b_Row_become 0 = .ok (.aload_n 0, 1) := by decide +kernel
theorem d_Row_become_1 : decode b_Row_become 1 = .ok (.aload_n 1, 1) := by decide +kernel
theorem d_Row_become_2 : decode b_Row_become 2 = .ok (.invokeinterface 29 1, 5) := by decide +kernel
theorem d_Row_become_7 : decode b_Row_become 7 = .ok (.putfield 15, 3) := by decide +kernel
theorem d_Row_become_10 : decode b_Row_become 10 = .ok (.iconst 0, 1) := by decide +kernel
theorem d_Row_become_11 : decode b_Row_become 11 = .ok (.istore_n 2, 1) := by decide +kernel
theorem d_Row_become_12 : decode b_Row_become 12 = .ok (.iload_n 2, 1) := by decide +kernel
theorem d_Row_become_13 : decode b_Row_become 13 = .ok (.aload_n 0, 1) := by decide +kernel
theorem d_Row_become_14 : decode b_Row_become 14 = .ok (.getfield 15, 3) := by decide +kernel
theorem d_Row_become_17 : decode b_Row_become 17 = .ok (.if_icmp .ge 23, 3) := by decide +kernel
theorem d_Row_become_20 : decode b_Row_become 20 = .ok (.aload_n 0, 1) := by decide +kernel
theorem d_Row_become_21 : decode b_Row_become 21 = .ok (.getfield 9, 3) := by decide +kernel
theorem d_Row_become_24 : decode b_Row_become 24 = .ok (.iload_n 2, 1) := by decide +kernel
theorem d_Row_become_25 : decode b_Row_become 25 = .ok (.aload_n 1, 1) := by decide +kernel
theorem d_Row_become_26 : decode b_Row_become 26 = .ok (.iload_n 2, 1) := by decide +kernel
theorem d_Row_become_27 : decode b_Row_become 27 = .ok (.invokeinterface 34 2, 5) := by decide +kernel
theorem d_Row_become_32 : decode b_Row_become 32 = .ok (.i2c, 1) := by decide +kernel
theorem d_Row_become_33 : decode b_Row_become 33 = .ok (.castore, 1) := by decide +kernel
theorem d_Row_become_34 : decode b_Row_become 34 = .ok (.iinc 2 1, 3) := by decide +kernel
theorem d_Row_become_37 : decode b_Row_become 37 = .ok (.goto (-25), 3) := by decide +kernel
theorem d_Row_become_40 : decode b_Row_become 40 = .ok (.return_, 1) := by decide +kernel
theorem d_Row_append_0 : decode b_Row_append 0 = .ok (.aload_n 0, 1) := by decide +kernel
theorem d_Row_append_1 : decode b_Row_append 1 = .ok (.getfield 15, 3) := by decide +kernel
theorem d_Row_append_4 : decode b_Row_append 4 = .ok (.aload_n 0, 1) := by decide +kernel
theorem d_Row_append_5 : decode b_Row_append 5 = .ok (.getfield 9, 3) := by decide +kernel
theorem d_Row_append_8 : decode b_Row_append 8 = .ok (.arraylength, 1) := by decide +kernel
theorem d_Row_append_9 : decode b_Row_append 9 = .ok (.if_icmp .lt 5, 3) := by decide +kernel
theorem d_Row_append_12 : decode b_Row_append 12 = .ok (.iconst 0, 1) := by decide +kernel
theorem d_Row_append_13 : decode b_Row_append 13 = .ok (.ireturn, 1) := by decide +kernel
theorem d_Row_append_14 : decode b_Row_append 14 = .ok (.aload_n 0, 1) := by decide +kernel
theorem d_Row_append_15 : decode b_Row_append 15 = .ok (.getfield 9, 3) := by decide +kernel
theorem d_Row_append_18 : decode b_Row_append 18 = .ok (.aload_n 0, 1) := by decide +kernel
theorem d_Row_append_19 : decode b_Row_append 19 = .ok (.getfield 15, 3) := by decide +kernel
theorem d_Row_append_22 : decode b_Row_append 22 = .ok (.iload_n 1, 1) := by decide +kernel
theorem d_Row_append_23 : decode b_Row_append 23 = .ok (.castore, 1) := by decide +kernel
theorem d_Row_append_24 : decode b_Row_append 24 = .ok (.aload_n 0, 1) := by decide +kernel
theorem d_Row_append_25 : decode b_Row_append 25 = .ok (.dup, 1) := by decide +kernel
theorem d_Row_append_26 : decode b_Row_append 26 = .ok (.getfield 15, 3) := by decide +kernel
theorem d_Row_append_29 : decode b_Row_append 29 = .ok (.iconst 1, 1) := by decide +kernel
theorem d_Row_append_30 : decode b_Row_append 30 = .ok (.iadd, 1) := by decide +kernel
theorem d_Row_append_31 : decode b_Row_append 31 = .ok (.putfield 15, 3) := by decide +kernel
theorem d_Row_append_34 : decode b_Row_append 34 = .ok (.iconst 1, 1) := by decide +kernel
theorem d_Row_append_35 : decode b_Row_append 35 = .ok (.ireturn, 1) := by decide +kernel
theorem d_Row_copyInto_0 : decode b_Row_copyInto 0 = .ok (.aload_n 0, 1) := by decide +kernel
theorem d_Row_copyInto_1 : decode b_Row_copyInto 1 = .ok (.getfield 9, 3) := by decide +kernel
theorem d_Row_copyInto_4 : decode b_Row_copyInto 4 = .ok (.iconst 0, 1) := by decide +kernel
theorem d_Row_copyInto_5 : decode b_Row_copyInto 5 = .ok (.aload_n 1, 1) := by decide +kernel
theorem d_Row_copyInto_6 : decode b_Row_copyInto 6 = .ok (.iload_n 2, 1) := by decide +kernel
theorem d_Row_copyInto_7 : decode b_Row_copyInto 7 = .ok (.aload_n 0, 1) := by decide +kernel
theorem d_Row_copyInto_8 : decode b_Row_copyInto 8 = .ok (.getfield 15, 3) := by decide +kernel
theorem d_Row_copyInto_11 : decode b_Row_copyInto 11 = .ok (.invokestatic 19, 3) := by decide +kernel
theorem d_Row_copyInto_14 : decode b_Row_copyInto 14 = .ok (.return_, 1) := by decide +kernel
theorem d_Gap_init_0 : decode b_Gap_init 0 = .ok (.aload_n 0, 1) := by decide +kernel
theorem d_Gap_init_1 : decode b_Gap_init 1 = .ok (.invokespecial 3, 3) := by decide +kernel
theorem d_Gap_init_4 : decode b_Gap_init 4 = .ok (.aload_n 0, 1) := by decide +kernel
theorem d_Gap_init_5 : decode b_Gap_init 5 = .ok (.iload_n 1, 1) := by decide +kernel
theorem d_Gap_init_6 : decode b_Gap_init 6 = .ok (.newarray .char, 2) := by decide +kernel
theorem d_Gap_init_8 : decode b_Gap_init 8 = .ok (.putfield 9, 3) := by decide +kernel
theorem d_Gap_init_11 : decode b_Gap_init 11 = .ok (.aload_n 0, 1) := by decide +kernel
theorem d_Gap_init_12 : decode b_Gap_init 12 = .ok (.iconst 0, 1) := by decide +kernel
theorem d_Gap_init_13 : decode b_Gap_init 13 = .ok (.putfield 15, 3) := by decide +kernel
theorem d_Gap_init_16 : decode b_Gap_init 16 = .ok (.aload_n 0, 1) := by decide +kernel
theorem d_Gap_init_17 : decode b_Gap_init 17 = .ok (.iload_n 1, 1) := by decide +kernel
theorem d_Gap_init_18 : decode b_Gap_init 18 = .ok (.putfield 19, 3) := by decide +kernel
theorem d_Gap_init_21 : decode b_Gap_init 21 = .ok (.return_, 1) := by decide +kernel
theorem d_Gap_length_0 : decode b_Gap_length 0 = .ok (.aload_n 0, 1) := by decide +kernel
theorem d_Gap_length_1 : decode b_Gap_length 1 = .ok (.getfield 9, 3) := by decide +kernel
theorem d_Gap_length_4 : decode b_Gap_length 4 = .ok (.arraylength, 1) := by decide +kernel
theorem d_Gap_length_5 : decode b_Gap_length 5 = .ok (.aload_n 0, 1) := by decide +kernel
theorem d_Gap_length_6 : decode b_Gap_length 6 = .ok (.getfield 19, 3) := by decide +kernel
theorem d_Gap_length_9 : decode b_Gap_length 9 = .ok (.aload_n 0, 1) := by decide +kernel
theorem d_Gap_length_10 : decode b_Gap_length 10 = .ok (.getfield 15, 3) := by decide +kernel
theorem d_Gap_length_13 : decode b_Gap_length 13 = .ok (.isub, 1) := by decide +kernel
theorem d_Gap_length_14 : decode b_Gap_length 14 = .ok (.isub, 1) := by decide +kernel
theorem d_Gap_length_15 : decode b_Gap_length 15 = .ok (.ireturn, 1) := by decide +kernel
theorem d_Gap_at_0 : decode b_Gap_at 0 = .ok (.iload_n 1, 1) := by decide +kernel
theorem d_Gap_at_1 : decode b_Gap_at 1 = .ok (.ifCond .lt 11, 3) := by decide +kernel
theorem d_Gap_at_4 : decode b_Gap_at 4 = .ok (.iload_n 1, 1) := by decide +kernel
theorem d_Gap_at_5 : decode b_Gap_at 5 = .ok (.aload_n 0, 1) := by decide +kernel
theorem d_Gap_at_6 : decode b_Gap_at 6 = .ok (.invokevirtual 22, 3) := by decide +kernel
theorem d_Gap_at_9 : decode b_Gap_at 9 = .ok (.if_icmp .lt 5, 3) := by decide +kernel
theorem d_Gap_at_12 : decode b_Gap_at 12 = .ok (.iconst (-1), 1) := by decide +kernel
theorem d_Gap_at_13 : decode b_Gap_at 13 = .ok (.ireturn, 1) := by decide +kernel
theorem d_Gap_at_14 : decode b_Gap_at 14 = .ok (.iload_n 1, 1) := by decide +kernel
theorem d_Gap_at_15 : decode b_Gap_at 15 = .ok (.aload_n 0, 1) := by decide +kernel
theorem d_Gap_at_16 : decode b_Gap_at 16 = .ok (.getfield 15, 3) := by decide +kernel
theorem d_Gap_at_19 : decode b_Gap_at 19 = .ok (.if_icmp .ge 12, 3) := by decide +kernel
theorem d_Gap_at_22 : decode b_Gap_at 22 = .ok (.aload_n 0, 1) := by decide +kernel
theorem d_Gap_at_23 : decode b_Gap_at 23 = .ok (.getfield 9, 3) := by decide +kernel
theorem d_Gap_at_26 : decode b_Gap_at 26 = .ok (.iload_n 1, 1) := by decide +kernel
theorem d_Gap_at_27 : decode b_Gap_at 27 = .ok (.caload, 1) := by decide +kernel
theorem d_Gap_at_28 : decode b_Gap_at 28 = .ok (.goto 19, 3) := by decide +kernel
theorem d_Gap_at_31 : decode b_Gap_at 31 = .ok (.aload_n 0, 1) := by decide +kernel
theorem d_Gap_at_32 : decode b_Gap_at 32 = .ok (.getfield 9, 3) := by decide +kernel
theorem d_Gap_at_35 : decode b_Gap_at 35 = .ok (.iload_n 1, 1) := by decide +kernel
theorem d_Gap_at_36 : decode b_Gap_at 36 = .ok (.aload_n 0, 1) := by decide +kernel
theorem d_Gap_at_37 : decode b_Gap_at 37 = .ok (.getfield 19, 3) := by decide +kernel
theorem d_Gap_at_40 : decode b_Gap_at 40 = .ok (.iadd, 1) := by decide +kernel
theorem d_Gap_at_41 : decode b_Gap_at 41 = .ok (.aload_n 0, 1) := by decide +kernel
theorem d_Gap_at_42 : decode b_Gap_at 42 = .ok (.getfield 15, 3) := by decide +kernel
theorem d_Gap_at_45 : decode b_Gap_at 45 = .ok (.isub, 1) := by decide +kernel
theorem d_Gap_at_46 : decode b_Gap_at 46 = .ok (.caload, 1) := by decide +kernel
theorem d_Gap_at_47 : decode b_Gap_at 47 = .ok (.ireturn, 1) := by decide +kernel
theorem d_Gap_cut_0 : decode b_Gap_cut 0 = .ok (.aload_n 0, 1) := by decide +kernel
theorem d_Gap_cut_1 : decode b_Gap_cut 1 = .ok (.iload_n 1, 1) := by decide +kernel
theorem d_Gap_cut_2 : decode b_Gap_cut 2 = .ok (.invokevirtual 26, 3) := by decide +kernel
theorem d_Gap_cut_5 : decode b_Gap_cut 5 = .ok (.aload_n 0, 1) := by decide +kernel
theorem d_Gap_cut_6 : decode b_Gap_cut 6 = .ok (.dup, 1) := by decide +kernel
theorem d_Gap_cut_7 : decode b_Gap_cut 7 = .ok (.getfield 19, 3) := by decide +kernel
theorem d_Gap_cut_10 : decode b_Gap_cut 10 = .ok (.iload_n 2, 1) := by decide +kernel
theorem d_Gap_cut_11 : decode b_Gap_cut 11 = .ok (.iload_n 1, 1) := by decide +kernel
theorem d_Gap_cut_12 : decode b_Gap_cut 12 = .ok (.isub, 1) := by decide +kernel
theorem d_Gap_cut_13 : decode b_Gap_cut 13 = .ok (.iadd, 1) := by decide +kernel
theorem d_Gap_cut_14 : decode b_Gap_cut 14 = .ok (.putfield 19, 3) := by decide +kernel
theorem d_Gap_cut_17 : decode b_Gap_cut 17 = .ok (.return_, 1) := by decide +kernel
theorem d_Gap_put_0 : decode b_Gap_put 0 = .ok (.aload_n 0, 1) := by decide +kernel
theorem d_Gap_put_1 : decode b_Gap_put 1 = .ok (.iload_n 1, 1) := by decide +kernel
theorem d_Gap_put_2 : decode b_Gap_put 2 = .ok (.invokevirtual 26, 3) := by decide +kernel
theorem d_Gap_put_5 : decode b_Gap_put 5 = .ok (.aload_n 2, 1) := by decide +kernel
theorem d_Gap_put_6 : decode b_Gap_put 6 = .ok (.aload_n 0, 1) := by decide +kernel
theorem d_Gap_put_7 : decode b_Gap_put 7 = .ok (.getfield 9, 3) := by decide +kernel
theorem d_Gap_put_10 : decode b_Gap_put 10 = .ok (.iload_n 1, 1) := by decide +kernel
theorem d_Gap_put_11 : decode b_Gap_put 11 = .ok (.invokevirtual 30, 3) := by decide +kernel
theorem d_Gap_put_14 : decode b_Gap_put 14 = .ok (.aload_n 0, 1) := by decide +kernel
theorem d_Gap_put_15 : decode b_Gap_put 15 = .ok (.dup, 1) := by decide +kernel
theorem d_Gap_put_16 : decode b_Gap_put 16 = .ok (.getfield 15, 3) := by decide +kernel
theorem d_Gap_put_19 : decode b_Gap_put 19 = .ok (.aload_n 2, 1) := by decide +kernel
theorem d_Gap_put_20 : decode b_Gap_put 20 = .ok (.invokevirtual 36, 3) := by decide +kernel
theorem d_Gap_put_23 : decode b_Gap_put 23 = .ok (.iadd, 1) := by decide +kernel
theorem d_Gap_put_24 : decode b_Gap_put 24 = .ok (.putfield 15, 3) := by decide +kernel
theorem d_Gap_put_27 : decode b_Gap_put 27 = .ok (.return_, 1) := by decide +kernel
theorem d_Gap_become_0 : decode b_Gap_become 0 = .ok (.aload_n 0, 1) := by decide +kernel
theorem d_Gap_become_1 : decode b_Gap_become 1 = .ok (.aload_n 1, 1) := by decide +kernel
theorem d_Gap_become_2 : decode b_Gap_become 2 = .ok (.invokeinterface 37 1, 5) := by decide +kernel
theorem d_Gap_become_7 : decode b_Gap_become 7 = .ok (.putfield 15, 3) := by decide +kernel
theorem d_Gap_become_10 : decode b_Gap_become 10 = .ok (.aload_n 0, 1) := by decide +kernel
theorem d_Gap_become_11 : decode b_Gap_become 11 = .ok (.aload_n 0, 1) := by decide +kernel
theorem d_Gap_become_12 : decode b_Gap_become 12 = .ok (.getfield 9, 3) := by decide +kernel
theorem d_Gap_become_15 : decode b_Gap_become 15 = .ok (.arraylength, 1) := by decide +kernel
theorem d_Gap_become_16 : decode b_Gap_become 16 = .ok (.putfield 19, 3) := by decide +kernel
theorem d_Gap_become_19 : decode b_Gap_become 19 = .ok (.iconst 0, 1) := by decide +kernel
theorem d_Gap_become_20 : decode b_Gap_become 20 = .ok (.istore_n 2, 1) := by decide +kernel
theorem d_Gap_become_21 : decode b_Gap_become 21 = .ok (.iload_n 2, 1) := by decide +kernel
theorem d_Gap_become_22 : decode b_Gap_become 22 = .ok (.aload_n 0, 1) := by decide +kernel
theorem d_Gap_become_23 : decode b_Gap_become 23 = .ok (.getfield 15, 3) := by decide +kernel
theorem d_Gap_become_26 : decode b_Gap_become 26 = .ok (.if_icmp .ge 23, 3) := by decide +kernel
theorem d_Gap_become_29 : decode b_Gap_become 29 = .ok (.aload_n 0, 1) := by decide +kernel
theorem d_Gap_become_30 : decode b_Gap_become 30 = .ok (.getfield 9, 3) := by decide +kernel
theorem d_Gap_become_33 : decode b_Gap_become 33 = .ok (.iload_n 2, 1) := by decide +kernel
theorem d_Gap_become_34 : decode b_Gap_become 34 = .ok (.aload_n 1, 1) := by decide +kernel
theorem d_Gap_become_35 : decode b_Gap_become 35 = .ok (.iload_n 2, 1) := by decide +kernel
theorem d_Gap_become_36 : decode b_Gap_become 36 = .ok (.invokeinterface 40 2, 5) := by decide +kernel
theorem d_Gap_become_41 : decode b_Gap_become 41 = .ok (.i2c, 1) := by decide +kernel
theorem d_Gap_become_42 : decode b_Gap_become 42 = .ok (.castore, 1) := by decide +kernel
theorem d_Gap_become_43 : decode b_Gap_become 43 = .ok (.iinc 2 1, 3) := by decide +kernel
theorem d_Gap_become_46 : decode b_Gap_become 46 = .ok (.goto (-25), 3) := by decide +kernel
theorem d_Gap_become_49 : decode b_Gap_become 49 = .ok (.return_, 1) := by decide +kernel
theorem d_Gap_moveGap_0 : decode b_Gap_moveGap 0 = .ok (.aload_n 0, 1) := by decide +kernel
theorem d_Gap_moveGap_1 : decode b_Gap_moveGap 1 = .ok (.getfield 19, 3) := by decide +kernel
theorem d_Gap_moveGap_4 : decode b_Gap_moveGap 4 = .ok (.aload_n 0, 1) := by decide +kernel
theorem d_Gap_moveGap_5 : decode b_Gap_moveGap 5 = .ok (.getfield 15, 3) := by decide +kernel
theorem d_Gap_moveGap_8 : decode b_Gap_moveGap 8 = .ok (.isub, 1) := by decide +kernel
theorem d_Gap_moveGap_9 : decode b_Gap_moveGap 9 = .ok (.istore_n 2, 1) := by decide +kernel
theorem d_Gap_moveGap_10 : decode b_Gap_moveGap 10 = .ok (.iload_n 1, 1) := by decide +kernel
theorem d_Gap_moveGap_11 : decode b_Gap_moveGap 11 = .ok (.aload_n 0, 1) := by decide +kernel
theorem d_Gap_moveGap_12 : decode b_Gap_moveGap 12 = .ok (.getfield 15, 3) := by decide +kernel
theorem d_Gap_moveGap_15 : decode b_Gap_moveGap 15 = .ok (.if_icmp .ge 27, 3) := by decide +kernel
theorem d_Gap_moveGap_18 : decode b_Gap_moveGap 18 = .ok (.aload_n 0, 1) := by decide +kernel
theorem d_Gap_moveGap_19 : decode b_Gap_moveGap 19 = .ok (.getfield 9, 3) := by decide +kernel
theorem d_Gap_moveGap_22 : decode b_Gap_moveGap 22 = .ok (.iload_n 1, 1) := by decide +kernel
theorem d_Gap_moveGap_23 : decode b_Gap_moveGap 23 = .ok (.aload_n 0, 1) := by decide +kernel
theorem d_Gap_moveGap_24 : decode b_Gap_moveGap 24 = .ok (.getfield 9, 3) := by decide +kernel
theorem d_Gap_moveGap_27 : decode b_Gap_moveGap 27 = .ok (.iload_n 1, 1) := by decide +kernel
theorem d_Gap_moveGap_28 : decode b_Gap_moveGap 28 = .ok (.iload_n 2, 1) := by decide +kernel
theorem d_Gap_moveGap_29 : decode b_Gap_moveGap 29 = .ok (.iadd, 1) := by decide +kernel
theorem d_Gap_moveGap_30 : decode b_Gap_moveGap 30 = .ok (.aload_n 0, 1) := by decide +kernel
theorem d_Gap_moveGap_31 : decode b_Gap_moveGap 31 = .ok (.getfield 15, 3) := by decide +kernel
theorem d_Gap_moveGap_34 : decode b_Gap_moveGap 34 = .ok (.iload_n 1, 1) := by decide +kernel
theorem d_Gap_moveGap_35 : decode b_Gap_moveGap 35 = .ok (.isub, 1) := by decide +kernel
theorem d_Gap_moveGap_36 : decode b_Gap_moveGap 36 = .ok (.invokestatic 44, 3) := by decide +kernel
theorem d_Gap_moveGap_39 : decode b_Gap_moveGap 39 = .ok (.goto 28, 3) := by decide +kernel
theorem d_Gap_moveGap_42 : decode b_Gap_moveGap 42 = .ok (.aload_n 0, 1) := by decide +kernel
theorem d_Gap_moveGap_43 : decode b_Gap_moveGap 43 = .ok (.getfield 9, 3) := by decide +kernel
theorem d_Gap_moveGap_46 : decode b_Gap_moveGap 46 = .ok (.aload_n 0, 1) := by decide +kernel
theorem d_Gap_moveGap_47 : decode b_Gap_moveGap 47 = .ok (.getfield 19, 3) := by decide +kernel
theorem d_Gap_moveGap_50 : decode b_Gap_moveGap 50 = .ok (.aload_n 0, 1) := by decide +kernel
theorem d_Gap_moveGap_51 : decode b_Gap_moveGap 51 = .ok (.getfield 9, 3) := by decide +kernel
theorem d_Gap_moveGap_54 : decode b_Gap_moveGap 54 = .ok (.aload_n 0, 1) := by decide +kernel
theorem d_Gap_moveGap_55 : decode b_Gap_moveGap 55 = .ok (.getfield 15, 3) := by decide +kernel
theorem d_Gap_moveGap_58 : decode b_Gap_moveGap 58 = .ok (.iload_n 1, 1) := by decide +kernel
theorem d_Gap_moveGap_59 : decode b_Gap_moveGap 59 = .ok (.aload_n 0, 1) := by decide +kernel
theorem d_Gap_moveGap_60 : decode b_Gap_moveGap 60 = .ok (.getfield 15, 3) := by decide +kernel
theorem d_Gap_moveGap_63 : decode b_Gap_moveGap 63 = .ok (.isub, 1) := by decide +kernel
theorem d_Gap_moveGap_64 : decode b_Gap_moveGap 64 = .ok (.invokestatic 44, 3) := by decide +kernel
theorem d_Gap_moveGap_67 : decode b_Gap_moveGap 67 = .ok (.aload_n 0, 1) := by decide +kernel
theorem d_Gap_moveGap_68 : decode b_Gap_moveGap 68 = .ok (.iload_n 1, 1) := by decide +kernel
theorem d_Gap_moveGap_69 : decode b_Gap_moveGap 69 = .ok (.putfield 15, 3) := by decide +kernel
theorem d_Gap_moveGap_72 : decode b_Gap_moveGap 72 = .ok (.aload_n 0, 1) := by decide +kernel
theorem d_Gap_moveGap_73 : decode b_Gap_moveGap 73 = .ok (.iload_n 1, 1) := by decide +kernel
theorem d_Gap_moveGap_74 : decode b_Gap_moveGap 74 = .ok (.iload_n 2, 1) := by decide +kernel
theorem d_Gap_moveGap_75 : decode b_Gap_moveGap 75 = .ok (.iadd, 1) := by decide +kernel
theorem d_Gap_moveGap_76 : decode b_Gap_moveGap 76 = .ok (.putfield 19, 3) := by decide +kernel
theorem d_Gap_moveGap_79 : decode b_Gap_moveGap 79 = .ok (.return_, 1) := by decide +kernel
theorem d_His_init_0 : decode b_His_init 0 = .ok (.aload_n 0, 1) := by decide +kernel
theorem d_His_init_1 : decode b_His_init 1 = .ok (.invokespecial 3, 3) := by decide +kernel
theorem d_His_init_4 : decode b_His_init 4 = .ok (.aload_n 0, 1) := by decide +kernel
theorem d_His_init_5 : decode b_His_init 5 = .ok (.bipush 9, 2) := by decide +kernel
theorem d_His_init_7 : decode b_His_init 7 = .ok (.anewarray 11, 3) := by decide +kernel
theorem d_His_init_10 : decode b_His_init 10 = .ok (.putfield 13, 3) := by decide +kernel
theorem d_His_init_13 : decode b_His_init 13 = .ok (.iconst 0, 1) := by decide +kernel
theorem d_His_init_14 : decode b_His_init 14 = .ok (.istore_n 1, 1) := by decide +kernel
theorem d_His_init_15 : decode b_His_init 15 = .ok (.iload_n 1, 1) := by decide +kernel
theorem d_His_init_16 : decode b_His_init 16 = .ok (.bipush 9, 2) := by decide +kernel
theorem d_His_init_18 : decode b_His_init 18 = .ok (.if_icmp .ge 25, 3) := by decide +kernel
theorem d_His_init_21 : decode b_His_init 21 = .ok (.aload_n 0, 1) := by decide +kernel
theorem d_His_init_22 : decode b_His_init 22 = .ok (.getfield 13, 3) := by decide +kernel
theorem d_His_init_25 : decode b_His_init 25 = .ok (.iload_n 1, 1) := by decide +kernel
theorem d_His_init_26 : decode b_His_init 26 = .ok (.new 11, 3) := by decide +kernel
theorem d_His_init_29 : decode b_His_init 29 = .ok (.dup, 1) := by decide +kernel
theorem d_His_init_30 : decode b_His_init 30 = .ok (.sipush 160, 3) := by decide +kernel
theorem d_His_init_33 : decode b_His_init 33 = .ok (.invokespecial 17, 3) := by decide +kernel
theorem d_His_init_36 : decode b_His_init 36 = .ok (.aastore, 1) := by decide +kernel
theorem d_His_init_37 : decode b_His_init 37 = .ok (.iinc 1 1, 3) := by decide +kernel
theorem d_His_init_40 : decode b_His_init 40 = .ok (.goto (-25), 3) := by decide +kernel
theorem d_His_init_43 : decode b_His_init 43 = .ok (.aload_n 0, 1) := by decide +kernel
theorem d_His_init_44 : decode b_His_init 44 = .ok (.iconst 0, 1) := by decide +kernel
theorem d_His_init_45 : decode b_His_init 45 = .ok (.putfield 20, 3) := by decide +kernel
theorem d_His_init_48 : decode b_His_init 48 = .ok (.aload_n 0, 1) := by decide +kernel
theorem d_His_init_49 : decode b_His_init 49 = .ok (.iconst 0, 1) := by decide +kernel
theorem d_His_init_50 : decode b_His_init 50 = .ok (.putfield 24, 3) := by decide +kernel
theorem d_His_init_53 : decode b_His_init 53 = .ok (.aload_n 0, 1) := by decide +kernel
theorem d_His_init_54 : decode b_His_init 54 = .ok (.iconst 0, 1) := by decide +kernel
theorem d_His_init_55 : decode b_His_init 55 = .ok (.putfield 27, 3) := by decide +kernel
theorem d_His_init_58 : decode b_His_init 58 = .ok (.return_, 1) := by decide +kernel
theorem d_His_undoable_0 : decode b_His_undoable 0 = .ok (.aload_n 0, 1) := by decide +kernel
theorem d_His_undoable_1 : decode b_His_undoable 1 = .ok (.getfield 24, 3) := by decide +kernel
theorem d_His_undoable_4 : decode b_His_undoable 4 = .ok (.ireturn, 1) := by decide +kernel
theorem d_His_redoable_0 : decode b_His_redoable 0 = .ok (.aload_n 0, 1) := by decide +kernel
theorem d_His_redoable_1 : decode b_His_redoable 1 = .ok (.getfield 27, 3) := by decide +kernel
theorem d_His_redoable_4 : decode b_His_redoable 4 = .ok (.ireturn, 1) := by decide +kernel
theorem d_His_addStep_0 : decode b_His_addStep 0 = .ok (.aload_n 0, 1) := by decide +kernel
theorem d_His_addStep_1 : decode b_His_addStep 1 = .ok (.iconst 0, 1) := by decide +kernel
theorem d_His_addStep_2 : decode b_His_addStep 2 = .ok (.putfield 27, 3) := by decide +kernel
theorem d_His_addStep_5 : decode b_His_addStep 5 = .ok (.aload_n 0, 1) := by decide +kernel
theorem d_His_addStep_6 : decode b_His_addStep 6 = .ok (.getfield 24, 3) := by decide +kernel
theorem d_His_addStep_9 : decode b_His_addStep 9 = .ok (.bipush 8, 2) := by decide +kernel
theorem d_His_addStep_11 : decode b_His_addStep 11 = .ok (.if_icmp .ge 16, 3) := by decide +kernel
theorem d_His_addStep_14 : decode b_His_addStep 14 = .ok (.aload_n 0, 1) := by decide +kernel
theorem d_His_addStep_15 : decode b_His_addStep 15 = .ok (.dup, 1) := by decide +kernel
theorem d_His_addStep_16 : decode b_His_addStep 16 = .ok (.getfield 24, 3) := by decide +kernel
theorem d_His_addStep_19 : decode b_His_addStep 19 = .ok (.iconst 1, 1) := by decide +kernel
theorem d_His_addStep_20 : decode b_His_addStep 20 = .ok (.iadd, 1) := by decide +kernel
theorem d_His_addStep_21 : decode b_His_addStep 21 = .ok (.putfield 24, 3) := by decide +kernel
theorem d_His_addStep_24 : decode b_His_addStep 24 = .ok (.goto 16, 3) := by decide +kernel
theorem d_His_addStep_27 : decode b_His_addStep 27 = .ok (.aload_n 0, 1) := by decide +kernel
theorem d_His_addStep_28 : decode b_His_addStep 28 = .ok (.aload_n 0, 1) := by decide +kernel
theorem d_His_addStep_29 : decode b_His_addStep 29 = .ok (.getfield 20, 3) := by decide +kernel
theorem d_His_addStep_32 : decode b_His_addStep 32 = .ok (.iconst 1, 1) := by decide +kernel
theorem d_His_addStep_33 : decode b_His_addStep 33 = .ok (.iadd, 1) := by decide +kernel
theorem d_His_addStep_34 : decode b_His_addStep 34 = .ok (.bipush 9, 2) := by decide +kernel
theorem d_His_addStep_36 : decode b_His_addStep 36 = .ok (.irem, 1) := by decide +kernel
theorem d_His_addStep_37 : decode b_His_addStep 37 = .ok (.putfield 20, 3) := by decide +kernel
theorem d_His_addStep_40 : decode b_His_addStep 40 = .ok (.aload_n 0, 1) := by decide +kernel
theorem d_His_addStep_41 : decode b_His_addStep 41 = .ok (.invokevirtual 30, 3) := by decide +kernel
theorem d_His_addStep_44 : decode b_His_addStep 44 = .ok (.aload_n 1, 1) := by decide +kernel
theorem d_His_addStep_45 : decode b_His_addStep 45 = .ok (.invokevirtual 34, 3) := by decide +kernel
theorem d_His_addStep_48 : decode b_His_addStep 48 = .ok (.return_, 1) := by decide +kernel
theorem d_His_extendStep_0 : decode b_His_extendStep 0 = .ok (.aload_n 0, 1) := by decide +kernel
theorem d_His_extendStep_1 : decode b_His_extendStep 1 = .ok (.invokevirtual 30, 3) := by decide +kernel
theorem d_His_extendStep_4 : decode b_His_extendStep 4 = .ok (.aload_n 1, 1) := by decide +kernel
theorem d_His_extendStep_5 : decode b_His_extendStep 5 = .ok (.invokevirtual 34, 3) := by decide +kernel
theorem d_His_extendStep_8 : decode b_His_extendStep 8 = .ok (.return_, 1) := by decide +kernel
theorem d_His_goBack_0 : decode b_His_goBack 0 = .ok (.aload_n 0, 1) := by decide +kernel
theorem d_His_goBack_1 : decode b_His_goBack 1 = .ok (.dup, 1) := by decide +kernel
theorem d_His_goBack_2 : decode b_His_goBack 2 = .ok (.getfield 24, 3) := by decide +kernel
theorem d_His_goBack_5 : decode b_His_goBack 5 = .ok (.iconst 1, 1) := by decide +kernel
theorem d_His_goBack_6 : decode b_His_goBack 6 = .ok (.isub, 1) := by decide +kernel
theorem d_His_goBack_7 : decode b_His_goBack 7 = .ok (.putfield 24, 3) := by decide +kernel
theorem d_His_goBack_10 : decode b_His_goBack 10 = .ok (.aload_n 0, 1) := by decide +kernel
theorem d_His_goBack_11 : decode b_His_goBack 11 = .ok (.dup, 1) := by decide +kernel
theorem d_His_goBack_12 : decode b_His_goBack 12 = .ok (.getfield 27, 3) := by decide +kernel
theorem d_His_goBack_15 : decode b_His_goBack 15 = .ok (.iconst 1, 1) := by decide +kernel
theorem d_His_goBack_16 : decode b_His_goBack 16 = .ok (.iadd, 1) := by decide +kernel
theorem d_His_goBack_17 : decode b_His_goBack 17 = .ok (.putfield 27, 3) := by decide +kernel
theorem d_His_goBack_20 : decode b_His_goBack 20 = .ok (.aload_n 1, 1) := by decide +kernel
theorem d_His_goBack_21 : decode b_His_goBack 21 = .ok (.aload_n 0, 1) := by decide +kernel
theorem d_His_goBack_22 : decode b_His_goBack 22 = .ok (.invokevirtual 30, 3) := by decide +kernel
theorem d_His_goBack_25 : decode b_His_goBack 25 = .ok (.invokeinterface 38 2, 5) := by decide +kernel
theorem d_His_goBack_30 : decode b_His_goBack 30 = .ok (.return_, 1) := by decide +kernel
theorem d_His_goForward_0 : decode b_His_goForward 0 = .ok (.aload_n 0, 1) := by decide +kernel
theorem d_His_goForward_1 : decode b_His_goForward 1 = .ok (.dup, 1) := by decide +kernel
theorem d_His_goForward_2 : decode b_His_goForward 2 = .ok (.getfield 24, 3) := by decide +kernel
theorem d_His_goForward_5 : decode b_His_goForward 5 = .ok (.iconst 1, 1) := by decide +kernel
theorem d_His_goForward_6 : decode b_His_goForward 6 = .ok (.iadd, 1) := by decide +kernel
theorem d_His_goForward_7 : decode b_His_goForward 7 = .ok (.putfield 24, 3) := by decide +kernel
theorem d_His_goForward_10 : decode b_His_goForward 10 = .ok (.aload_n 0, 1) := by decide +kernel
theorem d_His_goForward_11 : decode b_His_goForward 11 = .ok (.dup, 1) := by decide +kernel
theorem d_His_goForward_12 : decode b_His_goForward 12 = .ok (.getfield 27, 3) := by decide +kernel
theorem d_His_goForward_15 : decode b_His_goForward 15 = .ok (.iconst 1, 1) := by decide +kernel
theorem d_His_goForward_16 : decode b_His_goForward 16 = .ok (.isub, 1) := by decide +kernel
theorem d_His_goForward_17 : decode b_His_goForward 17 = .ok (.putfield 27, 3) := by decide +kernel
theorem d_His_goForward_20 : decode b_His_goForward 20 = .ok (.aload_n 1, 1) := by decide +kernel
theorem d_His_goForward_21 : decode b_His_goForward 21 = .ok (.aload_n 0, 1) := by decide +kernel
theorem d_His_goForward_22 : decode b_His_goForward 22 = .ok (.invokevirtual 30, 3) := by decide +kernel
theorem d_His_goForward_25 : decode b_His_goForward 25 = .ok (.invokeinterface 38 2, 5) := by decide +kernel
theorem d_His_goForward_30 : decode b_His_goForward 30 = .ok (.return_, 1) := by decide +kernel
theorem d_His_latest_0 : decode b_His_latest 0 = .ok (.aload_n 0, 1) := by decide +kernel
theorem d_His_latest_1 : decode b_His_latest 1 = .ok (.getfield 13, 3) := by decide +kernel
theorem d_His_latest_4 : decode b_His_latest 4 = .ok (.aload_n 0, 1) := by decide +kernel
theorem d_His_latest_5 : decode b_His_latest 5 = .ok (.getfield 20, 3) := by decide +kernel
theorem d_His_latest_8 : decode b_His_latest 8 = .ok (.aload_n 0, 1) := by decide +kernel
theorem d_His_latest_9 : decode b_His_latest 9 = .ok (.getfield 24, 3) := by decide +kernel
theorem d_His_latest_12 : decode b_His_latest 12 = .ok (.iadd, 1) := by decide +kernel
theorem d_His_latest_13 : decode b_His_latest 13 = .ok (.bipush 9, 2) := by decide +kernel
theorem d_His_latest_15 : decode b_His_latest 15 = .ok (.irem, 1) := by decide +kernel
theorem d_His_latest_16 : decode b_His_latest 16 = .ok (.aaload, 1) := by decide +kernel
theorem d_His_latest_17 : decode b_His_latest 17 = .ok (.areturn, 1) := by decide +kernel
theorem d_Clu_init_0 : decode b_Clu_init 0 = .ok (.aload_n 0, 1) := by decide +kernel
theorem d_Clu_init_1 : decode b_Clu_init 1 = .ok (.invokespecial 3, 3) := by decide +kernel
theorem d_Clu_init_4 : decode b_Clu_init 4 = .ok (.aload_n 0, 1) := by decide +kernel
theorem d_Clu_init_5 : decode b_Clu_init 5 = .ok (.iconst (-1), 1) := by decide +kernel
theorem d_Clu_init_6 : decode b_Clu_init 6 = .ok (.putfield 9, 3) := by decide +kernel
theorem d_Clu_init_9 : decode b_Clu_init 9 = .ok (.aload_n 0, 1) := by decide +kernel
theorem d_Clu_init_10 : decode b_Clu_init 10 = .ok (.iconst (-1), 1) := by decide +kernel
theorem d_Clu_init_11 : decode b_Clu_init 11 = .ok (.putfield 15, 3) := by decide +kernel
theorem d_Clu_init_14 : decode b_Clu_init 14 = .ok (.aload_n 0, 1) := by decide +kernel
theorem d_Clu_init_15 : decode b_Clu_init 15 = .ok (.iconst 0, 1) := by decide +kernel
theorem d_Clu_init_16 : decode b_Clu_init 16 = .ok (.putfield 18, 3) := by decide +kernel
theorem d_Clu_init_19 : decode b_Clu_init 19 = .ok (.return_, 1) := by decide +kernel
theorem d_Clu_restart_0 : decode b_Clu_restart 0 = .ok (.aload_n 0, 1) := by decide +kernel
theorem d_Clu_restart_1 : decode b_Clu_restart 1 = .ok (.iconst (-1), 1) := by decide +kernel
theorem d_Clu_restart_2 : decode b_Clu_restart 2 = .ok (.putfield 9, 3) := by decide +kernel
theorem d_Clu_restart_5 : decode b_Clu_restart 5 = .ok (.aload_n 0, 1) := by decide +kernel
theorem d_Clu_restart_6 : decode b_Clu_restart 6 = .ok (.iconst (-1), 1) := by decide +kernel
theorem d_Clu_restart_7 : decode b_Clu_restart 7 = .ok (.putfield 15, 3) := by decide +kernel
theorem d_Clu_restart_10 : decode b_Clu_restart 10 = .ok (.aload_n 0, 1) := by decide +kernel
theorem d_Clu_restart_11 : decode b_Clu_restart 11 = .ok (.iconst 0, 1) := by decide +kernel
theorem d_Clu_restart_12 : decode b_Clu_restart 12 = .ok (.putfield 18, 3) := by decide +kernel
theorem d_Clu_restart_15 : decode b_Clu_restart 15 = .ok (.return_, 1) := by decide +kernel
theorem d_Clu_isCutBefore_0 : decode b_Clu_isCutBefore 0 = .ok (.aload_n 0, 1) := by decide +kernel
theorem d_Clu_isCutBefore_1 : decode b_Clu_isCutBefore 1 = .ok (.getfield 9, 3) := by decide +kernel
theorem d_Clu_isCutBefore_4 : decode b_Clu_isCutBefore 4 = .ok (.iconst (-1), 1) := by decide +kernel
theorem d_Clu_isCutBefore_5 : decode b_Clu_isCutBefore 5 = .ok (.if_icmp .eq 11, 3) := by decide +kernel
theorem d_Clu_isCutBefore_8 : decode b_Clu_isCutBefore 8 = .ok (.aload_n 0, 1) := by decide +kernel
theorem d_Clu_isCutBefore_9 : decode b_Clu_isCutBefore 9 = .ok (.iload_n 1, 1) := by decide +kernel
theorem d_Clu_isCutBefore_10 : decode b_Clu_isCutBefore 10 = .ok (.invokevirtual 21, 3) := by decide +kernel
theorem d_Clu_isCutBefore_13 : decode b_Clu_isCutBefore 13 = .ok (.ifCond .ne 7, 3) := by decide +kernel
theorem d_Clu_isCutBefore_16 : decode b_Clu_isCutBefore 16 = .ok (.iconst 1, 1) := by decide +kernel
theorem d_Clu_isCutBefore_17 : decode b_Clu_isCutBefore 17 = .ok (.goto 4, 3) := by decide +kernel
theorem d_Clu_isCutBefore_20 : decode b_Clu_isCutBefore 20 = .ok (.iconst 0, 1) := by decide +kernel
theorem d_Clu_isCutBefore_21 : decode b_Clu_isCutBefore 21 = .ok (.istore_n 2, 1) := by decide +kernel
theorem d_Clu_isCutBefore_22 : decode b_Clu_isCutBefore 22 = .ok (.aload_n 0, 1) := by decide +kernel
theorem d_Clu_isCutBefore_23 : decode b_Clu_isCutBefore 23 = .ok (.aload_n 0, 1) := by decide +kernel
theorem d_Clu_isCutBefore_24 : decode b_Clu_isCutBefore 24 = .ok (.getfield 9, 3) := by decide +kernel
theorem d_Clu_isCutBefore_27 : decode b_Clu_isCutBefore 27 = .ok (.invokestatic 25, 3) := by decide +kernel
theorem d_Clu_isCutBefore_30 : decode b_Clu_isCutBefore 30 = .ok (.ifCond .eq 12, 3) := by decide +kernel
theorem d_Clu_isCutBefore_33 : decode b_Clu_isCutBefore 33 = .ok (.aload_n 0, 1) := by decide +kernel
theorem d_Clu_isCutBefore_34 : decode b_Clu_isCutBefore 34 = .ok (.getfield 18, 3) := by decide +kernel
theorem d_Clu_isCutBefore_37 : decode b_Clu_isCutBefore 37 = .ok (.iconst 1, 1) := by decide +kernel
theorem d_Clu_isCutBefore_38 : decode b_Clu_isCutBefore 38 = .ok (.iadd, 1) := by decide +kernel
theorem d_Clu_isCutBefore_39 : decode b_Clu_isCutBefore 39 = .ok (.goto 4, 3) := by decide +kernel
theorem d_Clu_isCutBefore_42 : decode b_Clu_isCutBefore 42 = .ok (.iconst 0, 1) := by decide +kernel
theorem d_Clu_isCutBefore_43 : decode b_Clu_isCutBefore 43 = .ok (.putfield 18, 3) := by decide +kernel
theorem d_Clu_isCutBefore_46 : decode b_Clu_isCutBefore 46 = .ok (.aload_n 0, 1) := by decide +kernel
theorem d_Clu_isCutBefore_47 : decode b_Clu_isCutBefore 47 = .ok (.getfield 9, 3) := by decide +kernel
theorem d_Clu_isCutBefore_50 : decode b_Clu_isCutBefore 50 = .ok (.invokestatic 28, 3) := by decide +kernel
theorem d_Clu_isCutBefore_53 : decode b_Clu_isCutBefore 53 = .ok (.ifCond .ne 11, 3) := by decide +kernel
theorem d_Clu_isCutBefore_56 : decode b_Clu_isCutBefore 56 = .ok (.aload_n 0, 1) := by decide +kernel
theorem d_Clu_isCutBefore_57 : decode b_Clu_isCutBefore 57 = .ok (.aload_n 0, 1) := by decide +kernel
theorem d_Clu_isCutBefore_58 : decode b_Clu_isCutBefore 58 = .ok (.getfield 9, 3) := by decide +kernel
theorem d_Clu_isCutBefore_61 : decode b_Clu_isCutBefore 61 = .ok (.putfield 15, 3) := by decide +kernel
theorem d_Clu_isCutBefore_64 : decode b_Clu_isCutBefore 64 = .ok (.aload_n 0, 1) := by decide +kernel
theorem d_Clu_isCutBefore_65 : decode b_Clu_isCutBefore 65 = .ok (.iload_n 1, 1) := by decide +kernel
theorem d_Clu_isCutBefore_66 : decode b_Clu_isCutBefore 66 = .ok (.putfield 9, 3) := by decide +kernel
theorem d_Clu_isCutBefore_69 : decode b_Clu_isCutBefore 69 = .ok (.iload_n 2, 1) := by decide +kernel
theorem d_Clu_isCutBefore_70 : decode b_Clu_isCutBefore 70 = .ok (.ireturn, 1) := by decide +kernel
theorem d_Clu_isJoinedTo_0 : decode b_Clu_isJoinedTo 0 = .ok (.iload_n 1, 1) := by decide +kernel
theorem d_Clu_isJoinedTo_1 : decode b_Clu_isJoinedTo 1 = .ok (.invokestatic 28, 3) := by decide +kernel
theorem d_Clu_isJoinedTo_4 : decode b_Clu_isJoinedTo 4 = .ok (.ifCond .ne 10, 3) := by decide +kernel
theorem d_Clu_isJoinedTo_7 : decode b_Clu_isJoinedTo 7 = .ok (.iload_n 1, 1) := by decide +kernel
theorem d_Clu_isJoinedTo_8 : decode b_Clu_isJoinedTo 8 = .ok (.sipush 8205, 3) := by decide +kernel
theorem d_Clu_isJoinedTo_11 : decode b_Clu_isJoinedTo 11 = .ok (.if_icmp .ne 18, 3) := by decide +kernel
theorem d_Clu_isJoinedTo_14 : decode b_Clu_isJoinedTo 14 = .ok (.aload_n 0, 1) := by decide +kernel
theorem d_Clu_isJoinedTo_15 : decode b_Clu_isJoinedTo 15 = .ok (.getfield 9, 3) := by decide +kernel
theorem d_Clu_isJoinedTo_18 : decode b_Clu_isJoinedTo 18 = .ok (.bipush 31, 2) := by decide +kernel
theorem d_Clu_isJoinedTo_20 : decode b_Clu_isJoinedTo 20 = .ok (.if_icmp .le 7, 3) := by decide +kernel
theorem d_Clu_isJoinedTo_23 : decode b_Clu_isJoinedTo 23 = .ok (.iconst 1, 1) := by decide +kernel
theorem d_Clu_isJoinedTo_24 : decode b_Clu_isJoinedTo 24 = .ok (.goto 4, 3) := by decide +kernel
theorem d_Clu_isJoinedTo_27 : decode b_Clu_isJoinedTo 27 = .ok (.iconst 0, 1) := by decide +kernel
theorem d_Clu_isJoinedTo_28 : decode b_Clu_isJoinedTo 28 = .ok (.ireturn, 1) := by decide +kernel
theorem d_Clu_isJoinedTo_29 : decode b_Clu_isJoinedTo 29 = .ok (.iload_n 1, 1) := by decide +kernel
theorem d_Clu_isJoinedTo_30 : decode b_Clu_isJoinedTo 30 = .ok (.invokestatic 31, 3) := by decide +kernel
theorem d_Clu_isJoinedTo_33 : decode b_Clu_isJoinedTo 33 = .ok (.ifCond .eq 29, 3) := by decide +kernel
theorem d_Clu_isJoinedTo_36 : decode b_Clu_isJoinedTo 36 = .ok (.aload_n 0, 1) := by decide +kernel
theorem d_Clu_isJoinedTo_37 : decode b_Clu_isJoinedTo 37 = .ok (.getfield 9, 3) := by decide +kernel
theorem d_Clu_isJoinedTo_40 : decode b_Clu_isJoinedTo 40 = .ok (.sipush 8205, 3) := by decide +kernel
theorem d_Clu_isJoinedTo_43 : decode b_Clu_isJoinedTo 43 = .ok (.if_icmp .ne 17, 3) := by decide +kernel
theorem d_Clu_isJoinedTo_46 : decode b_Clu_isJoinedTo 46 = .ok (.aload_n 0, 1) := by decide +kernel
theorem d_Clu_isJoinedTo_47 : decode b_Clu_isJoinedTo 47 = .ok (.getfield 15, 3) := by decide +kernel
theorem d_Clu_isJoinedTo_50 : decode b_Clu_isJoinedTo 50 = .ok (.invokestatic 31, 3) := by decide +kernel
theorem d_Clu_isJoinedTo_53 : decode b_Clu_isJoinedTo 53 = .ok (.ifCond .eq 7, 3) := by decide +kernel
theorem d_Clu_isJoinedTo_56 : decode b_Clu_isJoinedTo 56 = .ok (.iconst 1, 1) := by decide +kernel
theorem d_Clu_isJoinedTo_57 : decode b_Clu_isJoinedTo 57 = .ok (.goto 4, 3) := by decide +kernel
theorem d_Clu_isJoinedTo_60 : decode b_Clu_isJoinedTo 60 = .ok (.iconst 0, 1) := by decide +kernel
theorem d_Clu_isJoinedTo_61 : decode b_Clu_isJoinedTo 61 = .ok (.ireturn, 1) := by decide +kernel
theorem d_Clu_isJoinedTo_62 : decode b_Clu_isJoinedTo 62 = .ok (.iload_n 1, 1) := by decide +kernel
theorem d_Clu_isJoinedTo_63 : decode b_Clu_isJoinedTo 63 = .ok (.invokestatic 25, 3) := by decide +kernel
theorem d_Clu_isJoinedTo_66 : decode b_Clu_isJoinedTo 66 = .ok (.ifCond .eq 28, 3) := by decide +kernel
theorem d_Clu_isJoinedTo_69 : decode b_Clu_isJoinedTo 69 = .ok (.aload_n 0, 1) := by decide +kernel
theorem d_Clu_isJoinedTo_70 : decode b_Clu_isJoinedTo 70 = .ok (.getfield 9, 3) := by decide +kernel
theorem d_Clu_isJoinedTo_73 : decode b_Clu_isJoinedTo 73 = .ok (.invokestatic 25, 3) := by decide +kernel
theorem d_Clu_isJoinedTo_76 : decode b_Clu_isJoinedTo 76 = .ok (.ifCond .eq 16, 3) := by decide +kernel
theorem d_Clu_isJoinedTo_79 : decode b_Clu_isJoinedTo 79 = .ok (.aload_n 0, 1) := by decide +kernel
theorem d_Clu_isJoinedTo_80 : decode b_Clu_isJoinedTo 80 = .ok (.getfield 18, 3) := by decide +kernel
theorem d_Clu_isJoinedTo_83 : decode b_Clu_isJoinedTo 83 = .ok (.iconst 2, 1) := by decide +kernel
theorem d_Clu_isJoinedTo_84 : decode b_Clu_isJoinedTo 84 = .ok (.irem, 1) := by decide +kernel
theorem d_Clu_isJoinedTo_85 : decode b_Clu_isJoinedTo 85 = .ok (.ifCond .ne 7, 3) := by decide +kernel
theorem d_Clu_isJoinedTo_88 : decode b_Clu_isJoinedTo 88 = .ok (.iconst 1, 1) := by decide +kernel
theorem d_Clu_isJoinedTo_89 : decode b_Clu_isJoinedTo 89 = .ok (.goto 4, 3) := by decide +kernel
theorem d_Clu_isJoinedTo_92 : decode b_Clu_isJoinedTo 92 = .ok (.iconst 0, 1) := by decide +kernel
theorem d_Clu_isJoinedTo_93 : decode b_Clu_isJoinedTo 93 = .ok (.ireturn, 1) := by decide +kernel
theorem d_Clu_isJoinedTo_94 : decode b_Clu_isJoinedTo 94 = .ok (.aload_n 0, 1) := by decide +kernel
theorem d_Clu_isJoinedTo_95 : decode b_Clu_isJoinedTo 95 = .ok (.getfield 9, 3) := by decide +kernel
theorem d_Clu_isJoinedTo_98 : decode b_Clu_isJoinedTo 98 = .ok (.bipush 13, 2) := by decide +kernel
theorem d_Clu_isJoinedTo_100 : decode b_Clu_isJoinedTo 100 = .ok (.if_icmp .ne 13, 3) := by decide +kernel
theorem d_Clu_isJoinedTo_103 : decode b_Clu_isJoinedTo 103 = .ok (.iload_n 1, 1) := by decide +kernel
theorem d_Clu_isJoinedTo_104 : decode b_Clu_isJoinedTo 104 = .ok (.bipush 10, 2) := by decide +kernel
theorem d_Clu_isJoinedTo_106 : decode b_Clu_isJoinedTo 106 = .ok (.if_icmp .ne 7, 3) := by decide +kernel
theorem d_Clu_isJoinedTo_109 : decode b_Clu_isJoinedTo 109 = .ok (.iconst 1, 1) := by decide +kernel
theorem d_Clu_isJoinedTo_110 : decode b_Clu_isJoinedTo 110 = .ok (.goto 4, 3) := by decide +kernel
theorem d_Clu_isJoinedTo_113 : decode b_Clu_isJoinedTo 113 = .ok (.iconst 0, 1) := by decide +kernel
theorem d_Clu_isJoinedTo_114 : decode b_Clu_isJoinedTo 114 = .ok (.ireturn, 1) := by decide +kernel
theorem d_Clu_isMark_0 : decode b_Clu_isMark 0 = .ok (.iload_n 0, 1) := by decide +kernel
theorem d_Clu_isMark_1 : decode b_Clu_isMark 1 = .ok (.sipush 768, 3) := by decide +kernel
theorem d_Clu_isMark_4 : decode b_Clu_isMark 4 = .ok (.if_icmp .lt 14, 3) := by decide +kernel
theorem d_Clu_isMark_7 : decode b_Clu_isMark 7 = .ok (.iload_n 0, 1) := by decide +kernel
theorem d_Clu_isMark_8 : decode b_Clu_isMark 8 = .ok (.sipush 879, 3) := by decide +kernel
theorem d_Clu_isMark_11 : decode b_Clu_isMark 11 = .ok (.if_icmp .gt 7, 3) := by decide +kernel
theorem d_Clu_isMark_14 : decode b_Clu_isMark 14 = .ok (.iconst 1, 1) := by decide +kernel
theorem d_Clu_isMark_15 : decode b_Clu_isMark 15 = .ok (.goto 4, 3) := by decide +kernel
theorem d_Clu_isMark_18 : decode b_Clu_isMark 18 = .ok (.iconst 0, 1) := by decide +kernel
theorem d_Clu_isMark_19 : decode b_Clu_isMark 19 = .ok (.ireturn, 1) := by decide +kernel
theorem d_Clu_isPicture_0 : decode b_Clu_isPicture 0 = .ok (.iload_n 0, 1) := by decide +kernel
theorem d_Clu_isPicture_1 : decode b_Clu_isPicture 1 = .ok (.ldc 34, 2) := by decide +kernel
theorem d_Clu_isPicture_3 : decode b_Clu_isPicture 3 = .ok (.if_icmp .lt 13, 3) := by decide +kernel
theorem d_Clu_isPicture_6 : decode b_Clu_isPicture 6 = .ok (.iload_n 0, 1) := by decide +kernel
theorem d_Clu_isPicture_7 : decode b_Clu_isPicture 7 = .ok (.ldc 35, 2) := by decide +kernel
theorem d_Clu_isPicture_9 : decode b_Clu_isPicture 9 = .ok (.if_icmp .gt 7, 3) := by decide +kernel
theorem d_Clu_isPicture_12 : decode b_Clu_isPicture 12 = .ok (.iconst 1, 1) := by decide +kernel
theorem d_Clu_isPicture_13 : decode b_Clu_isPicture 13 = .ok (.goto 4, 3) := by decide +kernel
theorem d_Clu_isPicture_16 : decode b_Clu_isPicture 16 = .ok (.iconst 0, 1) := by decide +kernel
theorem d_Clu_isPicture_17 : decode b_Clu_isPicture 17 = .ok (.ireturn, 1) := by decide +kernel
theorem d_Clu_isFlag_0 : decode b_Clu_isFlag 0 = .ok (.iload_n 0, 1) := by decide +kernel
theorem d_Clu_isFlag_1 : decode b_Clu_isFlag 1 = .ok (.ldc 36, 2) := by decide +kernel
theorem d_Clu_isFlag_3 : decode b_Clu_isFlag 3 = .ok (.if_icmp .lt 13, 3) := by decide +kernel
theorem d_Clu_isFlag_6 : decode b_Clu_isFlag 6 = .ok (.iload_n 0, 1) := by decide +kernel
theorem d_Clu_isFlag_7 : decode b_Clu_isFlag 7 = .ok (.ldc 37, 2) := by decide +kernel
theorem d_Clu_isFlag_9 : decode b_Clu_isFlag 9 = .ok (.if_icmp .gt 7, 3) := by decide +kernel
theorem d_Clu_isFlag_12 : decode b_Clu_isFlag 12 = .ok (.iconst 1, 1) := by decide +kernel
theorem d_Clu_isFlag_13 : decode b_Clu_isFlag 13 = .ok (.goto 4, 3) := by decide +kernel
theorem d_Clu_isFlag_16 : decode b_Clu_isFlag 16 = .ok (.iconst 0, 1) := by decide +kernel
theorem d_Clu_isFlag_17 : decode b_Clu_isFlag 17 = .ok (.ireturn, 1) := by decide +kernel
