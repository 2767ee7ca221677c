theorem dX0_init_0 : decode cX0_init 0 = .ok (.aload_n 0, 1) := by decide +kernel
theorem dX0_init_1 : decode cX0_init 1 = .ok (.invokespecial 1, 3) := by decide +kernel
theorem dX0_init_4 : decode cX0_init 4 = .ok (.return_, 1) := by decide +kernel
theorem dX0_set_0 : decode cX0_set 0 = .ok (.aload_n 0, 1) := by decide +kernel
theorem dX0_set_1 : decode cX0_set 1 = .ok (.iload_n 1, 1) := by decide +kernel
theorem dX0_set_2 : decode cX0_set 2 = .ok (.putfield 7, 3) := by decide +kernel
theorem dX0_set_5 : decode cX0_set 5 = .ok (.aload_n 0, 1) := by decide +kernel
theorem dX0_set_6 : decode cX0_set 6 = .ok (.iload_n 2, 1) := by decide +kernel
theorem dX0_set_7 : decode cX0_set 7 = .ok (.putfield 13, 3) := by decide +kernel
theorem dX0_set_10 : decode cX0_set 10 = .ok (.aload_n 0, 1) := by decide +kernel
theorem dX0_set_11 : decode cX0_set 11 = .ok (.iload_n 3, 1) := by decide +kernel
theorem dX0_set_12 : decode cX0_set 12 = .ok (.putfield 16, 3) := by decide +kernel
theorem dX0_set_15 : decode cX0_set 15 = .ok (.aload_n 0, 1) := by decide +kernel
theorem dX0_set_16 : decode cX0_set 16 = .ok (.iload 4, 2) := by decide +kernel
theorem dX0_set_18 : decode cX0_set 18 = .ok (.putfield 19, 3) := by decide +kernel
theorem dX0_set_21 : decode cX0_set 21 = .ok (.return_, 1) := by decide +kernel
theorem dX0_milesTo_0 : decode cX0_milesTo 0 = .ok (.aload_n 0, 1) := by decide +kernel
theorem dX0_milesTo_1 : decode cX0_milesTo 1 = .ok (.getfield 7, 3) := by decide +kernel
theorem dX0_milesTo_4 : decode cX0_milesTo 4 = .ok (.aload_n 1, 1) := by decide +kernel
theorem dX0_milesTo_5 : decode cX0_milesTo 5 = .ok (.getfield 22, 3) := by decide +kernel
theorem dX0_milesTo_8 : decode cX0_milesTo 8 = .ok (.isub, 1) := by decide +kernel
theorem dX0_milesTo_9 : decode cX0_milesTo 9 = .ok (.invokestatic 25, 3) := by decide +kernel
theorem dX0_milesTo_12 : decode cX0_milesTo 12 = .ok (.aload_n 0, 1) := by decide +kernel
theorem dX0_milesTo_13 : decode cX0_milesTo 13 = .ok (.getfield 13, 3) := by decide +kernel
theorem dX0_milesTo_16 : decode cX0_milesTo 16 = .ok (.aload_n 1, 1) := by decide +kernel
theorem dX0_milesTo_17 : decode cX0_milesTo 17 = .ok (.getfield 31, 3) := by decide +kernel
theorem dX0_milesTo_20 : decode cX0_milesTo 20 = .ok (.isub, 1) := by decide +kernel
theorem dX0_milesTo_21 : decode cX0_milesTo 21 = .ok (.invokestatic 25, 3) := by decide +kernel
theorem dX0_milesTo_24 : decode cX0_milesTo 24 = .ok (.iadd, 1) := by decide +kernel
theorem dX0_milesTo_25 : decode cX0_milesTo 25 = .ok (.ireturn, 1) := by decide +kernel
theorem dX1_init_0 : decode cX1_init 0 = .ok (.aload_n 0, 1) := by decide +kernel
theorem dX1_init_1 : decode cX1_init 1 = .ok (.invokespecial 3, 3) := by decide +kernel
theorem dX1_init_4 : decode cX1_init 4 = .ok (.aload_n 0, 1) := by decide +kernel
theorem dX1_init_5 : decode cX1_init 5 = .ok (.bipush 9, 2) := by decide +kernel
theorem dX1_init_7 : decode cX1_init 7 = .ok (.newarray .int, 2) := by decide +kernel
theorem dX1_init_9 : decode cX1_init 9 = .ok (.putfield 11, 3) := by decide +kernel
theorem dX1_init_12 : decode cX1_init 12 = .ok (.aload_n 0, 1) := by decide +kernel
theorem dX1_init_13 : decode cX1_init 13 = .ok (.bipush 9, 2) := by decide +kernel
theorem dX1_init_15 : decode cX1_init 15 = .ok (.newarray .int, 2) := by decide +kernel
theorem dX1_init_17 : decode cX1_init 17 = .ok (.putfield 15, 3) := by decide +kernel
theorem dX1_init_20 : decode cX1_init 20 = .ok (.iconst 0, 1) := by decide +kernel
theorem dX1_init_21 : decode cX1_init 21 = .ok (.istore_n 1, 1) := by decide +kernel
theorem dX1_init_22 : decode cX1_init 22 = .ok (.iload_n 1, 1) := by decide +kernel
theorem dX1_init_23 : decode cX1_init 23 = .ok (.bipush 9, 2) := by decide +kernel
theorem dX1_init_25 : decode cX1_init 25 = .ok (.if_icmp .ge 20, 3) := by decide +kernel
theorem dX1_init_28 : decode cX1_init 28 = .ok (.aload_n 0, 1) := by decide +kernel
theorem dX1_init_29 : decode cX1_init 29 = .ok (.getfield 11, 3) := by decide +kernel
theorem dX1_init_32 : decode cX1_init 32 = .ok (.iload_n 1, 1) := by decide +kernel
theorem dX1_init_33 : decode cX1_init 33 = .ok (.getstatic 18, 3) := by decide +kernel
theorem dX1_init_36 : decode cX1_init 36 = .ok (.iload_n 1, 1) := by decide +kernel
theorem dX1_init_37 : decode cX1_init 37 = .ok (.iaload, 1) := by decide +kernel
theorem dX1_init_38 : decode cX1_init 38 = .ok (.iastore, 1) := by decide +kernel
theorem dX1_init_39 : decode cX1_init 39 = .ok (.iinc 1 1, 3) := by decide +kernel
theorem dX1_init_42 : decode cX1_init 42 = .ok (.goto (-20), 3) := by decide +kernel
theorem dX1_init_45 : decode cX1_init 45 = .ok (.return_, 1) := by decide +kernel
theorem dX1_value_0 : decode cX1_value 0 = .ok (.iload_n 1, 1) := by decide +kernel
theorem dX1_value_1 : decode cX1_value 1 = .ok (.ifCond .lt 18, 3) := by decide +kernel
theorem dX1_value_4 : decode cX1_value 4 = .ok (.iload_n 1, 1) := by decide +kernel
theorem dX1_value_5 : decode cX1_value 5 = .ok (.bipush 9, 2) := by decide +kernel
theorem dX1_value_7 : decode cX1_value 7 = .ok (.if_icmp .ge 12, 3) := by decide +kernel
theorem dX1_value_10 : decode cX1_value 10 = .ok (.aload_n 0, 1) := by decide +kernel
theorem dX1_value_11 : decode cX1_value 11 = .ok (.getfield 11, 3) := by decide +kernel
theorem dX1_value_14 : decode cX1_value 14 = .ok (.iload_n 1, 1) := by decide +kernel
theorem dX1_value_15 : decode cX1_value 15 = .ok (.iaload, 1) := by decide +kernel
theorem dX1_value_16 : decode cX1_value 16 = .ok (.goto 4, 3) := by decide +kernel
theorem dX1_value_19 : decode cX1_value 19 = .ok (.iconst (-1), 1) := by decide +kernel
theorem dX1_value_20 : decode cX1_value 20 = .ok (.ireturn, 1) := by decide +kernel
theorem dX1_faultKind_0 : decode cX1_faultKind 0 = .ok (.aload_n 0, 1) := by decide +kernel
theorem dX1_faultKind_1 : decode cX1_faultKind 1 = .ok (.getfield 21, 3) := by decide +kernel
theorem dX1_faultKind_4 : decode cX1_faultKind 4 = .ok (.ireturn, 1) := by decide +kernel
theorem dX1_read_0 : decode cX1_read 0 = .ok (.aload_n 0, 1) := by decide +kernel
theorem dX1_read_1 : decode cX1_read 1 = .ok (.invokevirtual 25, 3) := by decide +kernel
theorem dX1_read_4 : decode cX1_read 4 = .ok (.aload_n 1, 1) := by decide +kernel
theorem dX1_read_5 : decode cX1_read 5 = .ok (.invokevirtual 28, 3) := by decide +kernel
theorem dX1_read_8 : decode cX1_read 8 = .ok (.sipush 160, 3) := by decide +kernel
theorem dX1_read_11 : decode cX1_read 11 = .ok (.invokestatic 34, 3) := by decide +kernel
theorem dX1_read_14 : decode cX1_read 14 = .ok (.istore_n 2, 1) := by decide +kernel
theorem dX1_read_15 : decode cX1_read 15 = .ok (.iconst 0, 1) := by decide +kernel
theorem dX1_read_16 : decode cX1_read 16 = .ok (.istore_n 3, 1) := by decide +kernel
theorem dX1_read_17 : decode cX1_read 17 = .ok (.iconst 0, 1) := by decide +kernel
theorem dX1_read_18 : decode cX1_read 18 = .ok (.istore 4, 2) := by decide +kernel
theorem dX1_read_20 : decode cX1_read 20 = .ok (.iload 4, 2) := by decide +kernel
theorem dX1_read_22 : decode cX1_read 22 = .ok (.iload_n 2, 1) := by decide +kernel
theorem dX1_read_23 : decode cX1_read 23 = .ok (.if_icmp .ge 46, 3) := by decide +kernel
theorem dX1_read_26 : decode cX1_read 26 = .ok (.aload_n 0, 1) := by decide +kernel
theorem dX1_read_27 : decode cX1_read 27 = .ok (.getfield 21, 3) := by decide +kernel
theorem dX1_read_30 : decode cX1_read 30 = .ok (.ifCond .ne 39, 3) := by decide +kernel
theorem dX1_read_33 : decode cX1_read 33 = .ok (.iload 4, 2) := by decide +kernel
theorem dX1_read_35 : decode cX1_read 35 = .ok (.iload_n 3, 1) := by decide +kernel
theorem dX1_read_36 : decode cX1_read 36 = .ok (.if_icmp .lt 27, 3) := by decide +kernel
theorem dX1_read_39 : decode cX1_read 39 = .ok (.aload_n 1, 1) := by decide +kernel
theorem dX1_read_40 : decode cX1_read 40 = .ok (.iload 4, 2) := by decide +kernel
theorem dX1_read_42 : decode cX1_read 42 = .ok (.invokevirtual 40, 3) := by decide +kernel
theorem dX1_read_45 : decode cX1_read 45 = .ok (.ifCond .ne 18, 3) := by decide +kernel
theorem dX1_read_48 : decode cX1_read 48 = .ok (.aload_n 1, 1) := by decide +kernel
theorem dX1_read_49 : decode cX1_read 49 = .ok (.iload 4, 2) := by decide +kernel
theorem dX1_read_51 : decode cX1_read 51 = .ok (.invokestatic 44, 3) := by decide +kernel
theorem dX1_read_54 : decode cX1_read 54 = .ok (.istore_n 3, 1) := by decide +kernel
theorem dX1_read_55 : decode cX1_read 55 = .ok (.aload_n 0, 1) := by decide +kernel
theorem dX1_read_56 : decode cX1_read 56 = .ok (.aload_n 1, 1) := by decide +kernel
theorem dX1_read_57 : decode cX1_read 57 = .ok (.iload 4, 2) := by decide +kernel
theorem dX1_read_59 : decode cX1_read 59 = .ok (.iload_n 3, 1) := by decide +kernel
theorem dX1_read_60 : decode cX1_read 60 = .ok (.invokevirtual 48, 3) := by decide +kernel
theorem dX1_read_63 : decode cX1_read 63 = .ok (.iinc 4 1, 3) := by decide +kernel
theorem dX1_read_66 : decode cX1_read 66 = .ok (.goto (-46), 3) := by decide +kernel
theorem dX1_read_69 : decode cX1_read 69 = .ok (.aload_n 0, 1) := by decide +kernel
theorem dX1_read_70 : decode cX1_read 70 = .ok (.getfield 21, 3) := by decide +kernel
theorem dX1_read_73 : decode cX1_read 73 = .ok (.ifCond .ne 26, 3) := by decide +kernel
theorem dX1_read_76 : decode cX1_read 76 = .ok (.aload_n 1, 1) := by decide +kernel
theorem dX1_read_77 : decode cX1_read 77 = .ok (.invokevirtual 28, 3) := by decide +kernel
theorem dX1_read_80 : decode cX1_read 80 = .ok (.sipush 160, 3) := by decide +kernel
theorem dX1_read_83 : decode cX1_read 83 = .ok (.if_icmp .gt 10, 3) := by decide +kernel
theorem dX1_read_86 : decode cX1_read 86 = .ok (.aload_n 0, 1) := by decide +kernel
theorem dX1_read_87 : decode cX1_read 87 = .ok (.getfield 52, 3) := by decide +kernel
theorem dX1_read_90 : decode cX1_read 90 = .ok (.ifCond .eq 9, 3) := by decide +kernel
theorem dX1_read_93 : decode cX1_read 93 = .ok (.aload_n 0, 1) := by decide +kernel
theorem dX1_read_94 : decode cX1_read 94 = .ok (.iconst 1, 1) := by decide +kernel
theorem dX1_read_95 : decode cX1_read 95 = .ok (.iload_n 2, 1) := by decide +kernel
theorem dX1_read_96 : decode cX1_read 96 = .ok (.invokevirtual 55, 3) := by decide +kernel
theorem dX1_read_99 : decode cX1_read 99 = .ok (.aload_n 0, 1) := by decide +kernel
theorem dX1_read_100 : decode cX1_read 100 = .ok (.getfield 21, 3) := by decide +kernel
theorem dX1_read_103 : decode cX1_read 103 = .ok (.ifCond .eq 10, 3) := by decide +kernel
theorem dX1_read_106 : decode cX1_read 106 = .ok (.iconst (-1), 1) := by decide +kernel
theorem dX1_read_107 : decode cX1_read 107 = .ok (.aload_n 0, 1) := by decide +kernel
theorem dX1_read_108 : decode cX1_read 108 = .ok (.getfield 59, 3) := by decide +kernel
theorem dX1_read_111 : decode cX1_read 111 = .ok (.isub, 1) := by decide +kernel
theorem dX1_read_112 : decode cX1_read 112 = .ok (.ireturn, 1) := by decide +kernel
theorem dX1_read_113 : decode cX1_read 113 = .ok (.aload_n 0, 1) := by decide +kernel
theorem dX1_read_114 : decode cX1_read 114 = .ok (.getfield 15, 3) := by decide +kernel
theorem dX1_read_117 : decode cX1_read 117 = .ok (.iconst 0, 1) := by decide +kernel
theorem dX1_read_118 : decode cX1_read 118 = .ok (.aload_n 0, 1) := by decide +kernel
theorem dX1_read_119 : decode cX1_read 119 = .ok (.getfield 11, 3) := by decide +kernel
theorem dX1_read_122 : decode cX1_read 122 = .ok (.iconst 0, 1) := by decide +kernel
theorem dX1_read_123 : decode cX1_read 123 = .ok (.bipush 9, 2) := by decide +kernel
theorem dX1_read_125 : decode cX1_read 125 = .ok (.invokestatic 62, 3) := by decide +kernel
theorem dX1_read_128 : decode cX1_read 128 = .ok (.aload_n 0, 1) := by decide +kernel
theorem dX1_read_129 : decode cX1_read 129 = .ok (.getfield 68, 3) := by decide +kernel
theorem dX1_read_132 : decode cX1_read 132 = .ok (.invokestatic 71, 3) := by decide +kernel
theorem dX1_read_135 : decode cX1_read 135 = .ok (.ireturn, 1) := by decide +kernel
theorem dX1_begin_0 : decode cX1_begin 0 = .ok (.getstatic 18, 3) := by decide +kernel
theorem dX1_begin_3 : decode cX1_begin 3 = .ok (.iconst 0, 1) := by decide +kernel
theorem dX1_begin_4 : decode cX1_begin 4 = .ok (.aload_n 0, 1) := by decide +kernel
theorem dX1_begin_5 : decode cX1_begin 5 = .ok (.getfield 15, 3) := by decide +kernel
theorem dX1_begin_8 : decode cX1_begin 8 = .ok (.iconst 0, 1) := by decide +kernel
theorem dX1_begin_9 : decode cX1_begin 9 = .ok (.bipush 9, 2) := by decide +kernel
theorem dX1_begin_11 : decode cX1_begin 11 = .ok (.invokestatic 62, 3) := by decide +kernel
theorem dX1_begin_14 : decode cX1_begin 14 = .ok (.aload_n 0, 1) := by decide +kernel
theorem dX1_begin_15 : decode cX1_begin 15 = .ok (.iconst 0, 1) := by decide +kernel
theorem dX1_begin_16 : decode cX1_begin 16 = .ok (.putfield 52, 3) := by decide +kernel
theorem dX1_begin_19 : decode cX1_begin 19 = .ok (.aload_n 0, 1) := by decide +kernel
theorem dX1_begin_20 : decode cX1_begin 20 = .ok (.iconst 0, 1) := by decide +kernel
theorem dX1_begin_21 : decode cX1_begin 21 = .ok (.putfield 77, 3) := by decide +kernel
theorem dX1_begin_24 : decode cX1_begin 24 = .ok (.aload_n 0, 1) := by decide +kernel
theorem dX1_begin_25 : decode cX1_begin 25 = .ok (.iconst 0, 1) := by decide +kernel
theorem dX1_begin_26 : decode cX1_begin 26 = .ok (.putfield 68, 3) := by decide +kernel
theorem dX1_begin_29 : decode cX1_begin 29 = .ok (.aload_n 0, 1) := by decide +kernel
theorem dX1_begin_30 : decode cX1_begin 30 = .ok (.iconst 0, 1) := by decide +kernel
theorem dX1_begin_31 : decode cX1_begin 31 = .ok (.putfield 21, 3) := by decide +kernel
theorem dX1_begin_34 : decode cX1_begin 34 = .ok (.aload_n 0, 1) := by decide +kernel
theorem dX1_begin_35 : decode cX1_begin 35 = .ok (.iconst 0, 1) := by decide +kernel
theorem dX1_begin_36 : decode cX1_begin 36 = .ok (.putfield 59, 3) := by decide +kernel
theorem dX1_begin_39 : decode cX1_begin 39 = .ok (.return_, 1) := by decide +kernel
theorem dX1_fail_0 : decode cX1_fail 0 = .ok (.aload_n 0, 1) := by decide +kernel
theorem dX1_fail_1 : decode cX1_fail 1 = .ok (.iload_n 1, 1) := by decide +kernel
theorem dX1_fail_2 : decode cX1_fail 2 = .ok (.putfield 21, 3) := by decide +kernel
theorem dX1_fail_5 : decode cX1_fail 5 = .ok (.aload_n 0, 1) := by decide +kernel
theorem dX1_fail_6 : decode cX1_fail 6 = .ok (.iload_n 2, 1) := by decide +kernel
theorem dX1_fail_7 : decode cX1_fail 7 = .ok (.putfield 59, 3) := by decide +kernel
theorem dX1_fail_10 : decode cX1_fail 10 = .ok (.return_, 1) := by decide +kernel
theorem dX1_endOfToken_0 : decode cX1_endOfToken 0 = .ok (.iload_n 1, 1) := by decide +kernel
theorem dX1_endOfToken_1 : decode cX1_endOfToken 1 = .ok (.istore_n 2, 1) := by decide +kernel
theorem dX1_endOfToken_2 : decode cX1_endOfToken 2 = .ok (.iload_n 1, 1) := by decide +kernel
theorem dX1_endOfToken_3 : decode cX1_endOfToken 3 = .ok (.istore_n 3, 1) := by decide +kernel
theorem dX1_endOfToken_4 : decode cX1_endOfToken 4 = .ok (.iload_n 3, 1) := by decide +kernel
theorem dX1_endOfToken_5 : decode cX1_endOfToken 5 = .ok (.aload_n 0, 1) := by decide +kernel
theorem dX1_endOfToken_6 : decode cX1_endOfToken 6 = .ok (.invokevirtual 28, 3) := by decide +kernel
theorem dX1_endOfToken_9 : decode cX1_endOfToken 9 = .ok (.if_icmp .ge 34, 3) := by decide +kernel
theorem dX1_endOfToken_12 : decode cX1_endOfToken 12 = .ok (.iload_n 2, 1) := by decide +kernel
theorem dX1_endOfToken_13 : decode cX1_endOfToken 13 = .ok (.iload_n 3, 1) := by decide +kernel
theorem dX1_endOfToken_14 : decode cX1_endOfToken 14 = .ok (.if_icmp .ne 29, 3) := by decide +kernel
theorem dX1_endOfToken_17 : decode cX1_endOfToken 17 = .ok (.aload_n 0, 1) := by decide +kernel
theorem dX1_endOfToken_18 : decode cX1_endOfToken 18 = .ok (.iload_n 3, 1) := by decide +kernel
theorem dX1_endOfToken_19 : decode cX1_endOfToken 19 = .ok (.invokevirtual 80, 3) := by decide +kernel
theorem dX1_endOfToken_22 : decode cX1_endOfToken 22 = .ok (.ifCond .ne 11, 3) := by decide +kernel
theorem dX1_endOfToken_25 : decode cX1_endOfToken 25 = .ok (.aload_n 0, 1) := by decide +kernel
theorem dX1_endOfToken_26 : decode cX1_endOfToken 26 = .ok (.iload_n 3, 1) := by decide +kernel
theorem dX1_endOfToken_27 : decode cX1_endOfToken 27 = .ok (.invokevirtual 83, 3) := by decide +kernel
theorem dX1_endOfToken_30 : decode cX1_endOfToken 30 = .ok (.ifCond .eq 7, 3) := by decide +kernel
theorem dX1_endOfToken_33 : decode cX1_endOfToken 33 = .ok (.iload_n 3, 1) := by decide +kernel
theorem dX1_endOfToken_34 : decode cX1_endOfToken 34 = .ok (.iconst 1, 1) := by decide +kernel
theorem dX1_endOfToken_35 : decode cX1_endOfToken 35 = .ok (.iadd, 1) := by decide +kernel
theorem dX1_endOfToken_36 : decode cX1_endOfToken 36 = .ok (.istore_n 2, 1) := by decide +kernel
theorem dX1_endOfToken_37 : decode cX1_endOfToken 37 = .ok (.iinc 3 1, 3) := by decide +kernel
theorem dX1_endOfToken_40 : decode cX1_endOfToken 40 = .ok (.goto (-36), 3) := by decide +kernel
theorem dX1_endOfToken_43 : decode cX1_endOfToken 43 = .ok (.iload_n 2, 1) := by decide +kernel
theorem dX1_endOfToken_44 : decode cX1_endOfToken 44 = .ok (.iload_n 1, 1) := by decide +kernel
theorem dX1_endOfToken_45 : decode cX1_endOfToken 45 = .ok (.iconst 1, 1) := by decide +kernel
theorem dX1_endOfToken_46 : decode cX1_endOfToken 46 = .ok (.iadd, 1) := by decide +kernel
theorem dX1_endOfToken_47 : decode cX1_endOfToken 47 = .ok (.invokestatic 86, 3) := by decide +kernel
theorem dX1_endOfToken_50 : decode cX1_endOfToken 50 = .ok (.ireturn, 1) := by decide +kernel
theorem dX1_take_0 : decode cX1_take 0 = .ok (.aload_n 1, 1) := by decide +kernel
theorem dX1_take_1 : decode cX1_take 1 = .ok (.iload_n 2, 1) := by decide +kernel
theorem dX1_take_2 : decode cX1_take 2 = .ok (.invokevirtual 80, 3) := by decide +kernel
theorem dX1_take_5 : decode cX1_take 5 = .ok (.ifCond .eq 20, 3) := by decide +kernel
theorem dX1_take_8 : decode cX1_take 8 = .ok (.aload_n 0, 1) := by decide +kernel
theorem dX1_take_9 : decode cX1_take 9 = .ok (.getfield 52, 3) := by decide +kernel
theorem dX1_take_12 : decode cX1_take 12 = .ok (.ifCond .ne 13, 3) := by decide +kernel
theorem dX1_take_15 : decode cX1_take 15 = .ok (.aload_n 0, 1) := by decide +kernel
theorem dX1_take_16 : decode cX1_take 16 = .ok (.aload_n 1, 1) := by decide +kernel
theorem dX1_take_17 : decode cX1_take 17 = .ok (.iload_n 2, 1) := by decide +kernel
theorem dX1_take_18 : decode cX1_take 18 = .ok (.iload_n 3, 1) := by decide +kernel
theorem dX1_take_19 : decode cX1_take 19 = .ok (.invokevirtual 89, 3) := by decide +kernel
theorem dX1_take_22 : decode cX1_take 22 = .ok (.goto 61, 3) := by decide +kernel
theorem dX1_take_25 : decode cX1_take 25 = .ok (.aload_n 1, 1) := by decide +kernel
theorem dX1_take_26 : decode cX1_take 26 = .ok (.iload_n 2, 1) := by decide +kernel
theorem dX1_take_27 : decode cX1_take 27 = .ok (.invokevirtual 83, 3) := by decide +kernel
theorem dX1_take_30 : decode cX1_take 30 = .ok (.ifCond .eq 21, 3) := by decide +kernel
theorem dX1_take_33 : decode cX1_take 33 = .ok (.aload_n 0, 1) := by decide +kernel
theorem dX1_take_34 : decode cX1_take 34 = .ok (.getfield 52, 3) := by decide +kernel
theorem dX1_take_37 : decode cX1_take 37 = .ok (.iconst 1, 1) := by decide +kernel
theorem dX1_take_38 : decode cX1_take 38 = .ok (.if_icmp .ne 13, 3) := by decide +kernel
theorem dX1_take_41 : decode cX1_take 41 = .ok (.aload_n 0, 1) := by decide +kernel
theorem dX1_take_42 : decode cX1_take 42 = .ok (.aload_n 1, 1) := by decide +kernel
theorem dX1_take_43 : decode cX1_take 43 = .ok (.iload_n 2, 1) := by decide +kernel
theorem dX1_take_44 : decode cX1_take 44 = .ok (.iload_n 3, 1) := by decide +kernel
theorem dX1_take_45 : decode cX1_take 45 = .ok (.invokevirtual 92, 3) := by decide +kernel
theorem dX1_take_48 : decode cX1_take 48 = .ok (.goto 35, 3) := by decide +kernel
theorem dX1_take_51 : decode cX1_take 51 = .ok (.aload_n 1, 1) := by decide +kernel
theorem dX1_take_52 : decode cX1_take 52 = .ok (.iload_n 2, 1) := by decide +kernel
theorem dX1_take_53 : decode cX1_take 53 = .ok (.invokevirtual 95, 3) := by decide +kernel
theorem dX1_take_56 : decode cX1_take 56 = .ok (.bipush 59, 2) := by decide +kernel
theorem dX1_take_58 : decode cX1_take 58 = .ok (.if_icmp .ne 19, 3) := by decide +kernel
theorem dX1_take_61 : decode cX1_take 61 = .ok (.aload_n 0, 1) := by decide +kernel
theorem dX1_take_62 : decode cX1_take 62 = .ok (.getfield 52, 3) := by decide +kernel
theorem dX1_take_65 : decode cX1_take 65 = .ok (.iconst 2, 1) := by decide +kernel
theorem dX1_take_66 : decode cX1_take 66 = .ok (.if_icmp .ne 11, 3) := by decide +kernel
theorem dX1_take_69 : decode cX1_take 69 = .ok (.aload_n 0, 1) := by decide +kernel
theorem dX1_take_70 : decode cX1_take 70 = .ok (.iconst 0, 1) := by decide +kernel
theorem dX1_take_71 : decode cX1_take 71 = .ok (.putfield 52, 3) := by decide +kernel
theorem dX1_take_74 : decode cX1_take 74 = .ok (.goto 9, 3) := by decide +kernel
theorem dX1_take_77 : decode cX1_take 77 = .ok (.aload_n 0, 1) := by decide +kernel
theorem dX1_take_78 : decode cX1_take 78 = .ok (.iconst 1, 1) := by decide +kernel
theorem dX1_take_79 : decode cX1_take 79 = .ok (.iload_n 2, 1) := by decide +kernel
theorem dX1_take_80 : decode cX1_take 80 = .ok (.invokevirtual 55, 3) := by decide +kernel
theorem dX1_take_83 : decode cX1_take 83 = .ok (.return_, 1) := by decide +kernel
theorem dX1_takeWord_0 : decode cX1_takeWord 0 = .ok (.aload_n 1, 1) := by decide +kernel
theorem dX1_takeWord_1 : decode cX1_takeWord 1 = .ok (.iload_n 2, 1) := by decide +kernel
theorem dX1_takeWord_2 : decode cX1_takeWord 2 = .ok (.iload_n 3, 1) := by decide +kernel
theorem dX1_takeWord_3 : decode cX1_takeWord 3 = .ok (.invokestatic 98, 3) := by decide +kernel
theorem dX1_takeWord_6 : decode cX1_takeWord 6 = .ok (.istore 4, 2) := by decide +kernel
theorem dX1_takeWord_8 : decode cX1_takeWord 8 = .ok (.iload 4, 2) := by decide +kernel
theorem dX1_takeWord_10 : decode cX1_takeWord 10 = .ok (.iconst (-1), 1) := by decide +kernel
theorem dX1_takeWord_11 : decode cX1_takeWord 11 = .ok (.if_icmp .ne 12, 3) := by decide +kernel
theorem dX1_takeWord_14 : decode cX1_takeWord 14 = .ok (.aload_n 0, 1) := by decide +kernel
theorem dX1_takeWord_15 : decode cX1_takeWord 15 = .ok (.iconst 1, 1) := by decide +kernel
theorem dX1_takeWord_16 : decode cX1_takeWord 16 = .ok (.iload_n 2, 1) := by decide +kernel
theorem dX1_takeWord_17 : decode cX1_takeWord 17 = .ok (.invokevirtual 55, 3) := by decide +kernel
theorem dX1_takeWord_20 : decode cX1_takeWord 20 = .ok (.goto 48, 3) := by decide +kernel
theorem dX1_takeWord_23 : decode cX1_takeWord 23 = .ok (.aload_n 0, 1) := by decide +kernel
theorem dX1_takeWord_24 : decode cX1_takeWord 24 = .ok (.getfield 68, 3) := by decide +kernel
theorem dX1_takeWord_27 : decode cX1_takeWord 27 = .ok (.iconst 1, 1) := by decide +kernel
theorem dX1_takeWord_28 : decode cX1_takeWord 28 = .ok (.iload 4, 2) := by decide +kernel
theorem dX1_takeWord_30 : decode cX1_takeWord 30 = .ok (.ishl, 1) := by decide +kernel
theorem dX1_takeWord_31 : decode cX1_takeWord 31 = .ok (.iand, 1) := by decide +kernel
theorem dX1_takeWord_32 : decode cX1_takeWord 32 = .ok (.ifCond .eq 12, 3) := by decide +kernel
theorem dX1_takeWord_35 : decode cX1_takeWord 35 = .ok (.aload_n 0, 1) := by decide +kernel
theorem dX1_takeWord_36 : decode cX1_takeWord 36 = .ok (.iconst 3, 1) := by decide +kernel
theorem dX1_takeWord_37 : decode cX1_takeWord 37 = .ok (.iload_n 2, 1) := by decide +kernel
theorem dX1_takeWord_38 : decode cX1_takeWord 38 = .ok (.invokevirtual 55, 3) := by decide +kernel
theorem dX1_takeWord_41 : decode cX1_takeWord 41 = .ok (.goto 27, 3) := by decide +kernel
theorem dX1_takeWord_44 : decode cX1_takeWord 44 = .ok (.aload_n 0, 1) := by decide +kernel
theorem dX1_takeWord_45 : decode cX1_takeWord 45 = .ok (.dup, 1) := by decide +kernel
theorem dX1_takeWord_46 : decode cX1_takeWord 46 = .ok (.getfield 68, 3) := by decide +kernel
theorem dX1_takeWord_49 : decode cX1_takeWord 49 = .ok (.iconst 1, 1) := by decide +kernel
theorem dX1_takeWord_50 : decode cX1_takeWord 50 = .ok (.iload 4, 2) := by decide +kernel
theorem dX1_takeWord_52 : decode cX1_takeWord 52 = .ok (.ishl, 1) := by decide +kernel
theorem dX1_takeWord_53 : decode cX1_takeWord 53 = .ok (.ior, 1) := by decide +kernel
theorem dX1_takeWord_54 : decode cX1_takeWord 54 = .ok (.putfield 68, 3) := by decide +kernel
theorem dX1_takeWord_57 : decode cX1_takeWord 57 = .ok (.aload_n 0, 1) := by decide +kernel
theorem dX1_takeWord_58 : decode cX1_takeWord 58 = .ok (.iload 4, 2) := by decide +kernel
theorem dX1_takeWord_60 : decode cX1_takeWord 60 = .ok (.putfield 77, 3) := by decide +kernel
theorem dX1_takeWord_63 : decode cX1_takeWord 63 = .ok (.aload_n 0, 1) := by decide +kernel
theorem dX1_takeWord_64 : decode cX1_takeWord 64 = .ok (.iconst 1, 1) := by decide +kernel
theorem dX1_takeWord_65 : decode cX1_takeWord 65 = .ok (.putfield 52, 3) := by decide +kernel
theorem dX1_takeWord_68 : decode cX1_takeWord 68 = .ok (.return_, 1) := by decide +kernel
theorem dX1_takeNumber_0 : decode cX1_takeNumber 0 = .ok (.aload_n 1, 1) := by decide +kernel
theorem dX1_takeNumber_1 : decode cX1_takeNumber 1 = .ok (.iload_n 2, 1) := by decide +kernel
theorem dX1_takeNumber_2 : decode cX1_takeNumber 2 = .ok (.iload_n 3, 1) := by decide +kernel
theorem dX1_takeNumber_3 : decode cX1_takeNumber 3 = .ok (.invokestatic 102, 3) := by decide +kernel
theorem dX1_takeNumber_6 : decode cX1_takeNumber 6 = .ok (.istore 4, 2) := by decide +kernel
theorem dX1_takeNumber_8 : decode cX1_takeNumber 8 = .ok (.iload 4, 2) := by decide +kernel
theorem dX1_takeNumber_10 : decode cX1_takeNumber 10 = .ok (.iconst (-1), 1) := by decide +kernel
theorem dX1_takeNumber_11 : decode cX1_takeNumber 11 = .ok (.if_icmp .ne 12, 3) := by decide +kernel
theorem dX1_takeNumber_14 : decode cX1_takeNumber 14 = .ok (.aload_n 0, 1) := by decide +kernel
theorem dX1_takeNumber_15 : decode cX1_takeNumber 15 = .ok (.iconst 1, 1) := by decide +kernel
theorem dX1_takeNumber_16 : decode cX1_takeNumber 16 = .ok (.iload_n 2, 1) := by decide +kernel
theorem dX1_takeNumber_17 : decode cX1_takeNumber 17 = .ok (.invokevirtual 55, 3) := by decide +kernel
theorem dX1_takeNumber_20 : decode cX1_takeNumber 20 = .ok (.goto 54, 3) := by decide +kernel
theorem dX1_takeNumber_23 : decode cX1_takeNumber 23 = .ok (.iload 4, 2) := by decide +kernel
theorem dX1_takeNumber_25 : decode cX1_takeNumber 25 = .ok (.getstatic 105, 3) := by decide +kernel
theorem dX1_takeNumber_28 : decode cX1_takeNumber 28 = .ok (.aload_n 0, 1) := by decide +kernel
theorem dX1_takeNumber_29 : decode cX1_takeNumber 29 = .ok (.getfield 77, 3) := by decide +kernel
theorem dX1_takeNumber_32 : decode cX1_takeNumber 32 = .ok (.iaload, 1) := by decide +kernel
theorem dX1_takeNumber_33 : decode cX1_takeNumber 33 = .ok (.if_icmp .lt 16, 3) := by decide +kernel
theorem dX1_takeNumber_36 : decode cX1_takeNumber 36 = .ok (.iload 4, 2) := by decide +kernel
theorem dX1_takeNumber_38 : decode cX1_takeNumber 38 = .ok (.getstatic 108, 3) := by decide +kernel
theorem dX1_takeNumber_41 : decode cX1_takeNumber 41 = .ok (.aload_n 0, 1) := by decide +kernel
theorem dX1_takeNumber_42 : decode cX1_takeNumber 42 = .ok (.getfield 77, 3) := by decide +kernel
theorem dX1_takeNumber_45 : decode cX1_takeNumber 45 = .ok (.iaload, 1) := by decide +kernel
theorem dX1_takeNumber_46 : decode cX1_takeNumber 46 = .ok (.if_icmp .le 12, 3) := by decide +kernel
theorem dX1_takeNumber_49 : decode cX1_takeNumber 49 = .ok (.aload_n 0, 1) := by decide +kernel
theorem dX1_takeNumber_50 : decode cX1_takeNumber 50 = .ok (.iconst 2, 1) := by decide +kernel
theorem dX1_takeNumber_51 : decode cX1_takeNumber 51 = .ok (.iload_n 2, 1) := by decide +kernel
theorem dX1_takeNumber_52 : decode cX1_takeNumber 52 = .ok (.invokevirtual 55, 3) := by decide +kernel
theorem dX1_takeNumber_55 : decode cX1_takeNumber 55 = .ok (.goto 19, 3) := by decide +kernel
theorem dX1_takeNumber_58 : decode cX1_takeNumber 58 = .ok (.aload_n 0, 1) := by decide +kernel
theorem dX1_takeNumber_59 : decode cX1_takeNumber 59 = .ok (.getfield 15, 3) := by decide +kernel
theorem dX1_takeNumber_62 : decode cX1_takeNumber 62 = .ok (.aload_n 0, 1) := by decide +kernel
theorem dX1_takeNumber_63 : decode cX1_takeNumber 63 = .ok (.getfield 77, 3) := by decide +kernel
theorem dX1_takeNumber_66 : decode cX1_takeNumber 66 = .ok (.iload 4, 2) := by decide +kernel
theorem dX1_takeNumber_68 : decode cX1_takeNumber 68 = .ok (.iastore, 1) := by decide +kernel
theorem dX1_takeNumber_69 : decode cX1_takeNumber 69 = .ok (.aload_n 0, 1) := by decide +kernel
theorem dX1_takeNumber_70 : decode cX1_takeNumber 70 = .ok (.iconst 2, 1) := by decide +kernel
theorem dX1_takeNumber_71 : decode cX1_takeNumber 71 = .ok (.putfield 52, 3) := by decide +kernel
theorem dX1_takeNumber_74 : decode cX1_takeNumber 74 = .ok (.return_, 1) := by decide +kernel
theorem dX1_kindOfWord_0 : decode cX1_kindOfWord 0 = .ok (.iconst 0, 1) := by decide +kernel
theorem dX1_kindOfWord_1 : decode cX1_kindOfWord 1 = .ok (.istore_n 3, 1) := by decide +kernel
theorem dX1_kindOfWord_2 : decode cX1_kindOfWord 2 = .ok (.iload_n 3, 1) := by decide +kernel
theorem dX1_kindOfWord_3 : decode cX1_kindOfWord 3 = .ok (.bipush 9, 2) := by decide +kernel
theorem dX1_kindOfWord_5 : decode cX1_kindOfWord 5 = .ok (.if_icmp .ge 24, 3) := by decide +kernel
theorem dX1_kindOfWord_8 : decode cX1_kindOfWord 8 = .ok (.aload_n 0, 1) := by decide +kernel
theorem dX1_kindOfWord_9 : decode cX1_kindOfWord 9 = .ok (.iload_n 1, 1) := by decide +kernel
theorem dX1_kindOfWord_10 : decode cX1_kindOfWord 10 = .ok (.iload_n 2, 1) := by decide +kernel
theorem dX1_kindOfWord_11 : decode cX1_kindOfWord 11 = .ok (.iload_n 3, 1) := by decide +kernel
theorem dX1_kindOfWord_12 : decode cX1_kindOfWord 12 = .ok (.invokestatic 111, 3) := by decide +kernel
theorem dX1_kindOfWord_15 : decode cX1_kindOfWord 15 = .ok (.invokestatic 115, 3) := by decide +kernel
theorem dX1_kindOfWord_18 : decode cX1_kindOfWord 18 = .ok (.ifCond .eq 5, 3) := by decide +kernel
theorem dX1_kindOfWord_21 : decode cX1_kindOfWord 21 = .ok (.iload_n 3, 1) := by decide +kernel
theorem dX1_kindOfWord_22 : decode cX1_kindOfWord 22 = .ok (.ireturn, 1) := by decide +kernel
theorem dX1_kindOfWord_23 : decode cX1_kindOfWord 23 = .ok (.iinc 3 1, 3) := by decide +kernel
theorem dX1_kindOfWord_26 : decode cX1_kindOfWord 26 = .ok (.goto (-24), 3) := by decide +kernel
theorem dX1_kindOfWord_29 : decode cX1_kindOfWord 29 = .ok (.iconst (-1), 1) := by decide +kernel
theorem dX1_kindOfWord_30 : decode cX1_kindOfWord 30 = .ok (.ireturn, 1) := by decide +kernel
theorem dX1_isWord_0 : decode cX1_isWord 0 = .ok (.iload_n 2, 1) := by decide +kernel
theorem dX1_isWord_1 : decode cX1_isWord 1 = .ok (.iload_n 1, 1) := by decide +kernel
theorem dX1_isWord_2 : decode cX1_isWord 2 = .ok (.isub, 1) := by decide +kernel
theorem dX1_isWord_3 : decode cX1_isWord 3 = .ok (.aload_n 3, 1) := by decide +kernel
theorem dX1_isWord_4 : decode cX1_isWord 4 = .ok (.invokevirtual 119, 3) := by decide +kernel
theorem dX1_isWord_7 : decode cX1_isWord 7 = .ok (.if_icmp .eq 5, 3) := by decide +kernel
theorem dX1_isWord_10 : decode cX1_isWord 10 = .ok (.iconst 0, 1) := by decide +kernel
theorem dX1_isWord_11 : decode cX1_isWord 11 = .ok (.ireturn, 1) := by decide +kernel
theorem dX1_isWord_12 : decode cX1_isWord 12 = .ok (.iconst 0, 1) := by decide +kernel
theorem dX1_isWord_13 : decode cX1_isWord 13 = .ok (.istore 4, 2) := by decide +kernel
theorem dX1_isWord_15 : decode cX1_isWord 15 = .ok (.iload 4, 2) := by decide +kernel
theorem dX1_isWord_17 : decode cX1_isWord 17 = .ok (.aload_n 3, 1) := by decide +kernel
theorem dX1_isWord_18 : decode cX1_isWord 18 = .ok (.invokevirtual 119, 3) := by decide +kernel
theorem dX1_isWord_21 : decode cX1_isWord 21 = .ok (.if_icmp .ge 28, 3) := by decide +kernel
theorem dX1_isWord_24 : decode cX1_isWord 24 = .ok (.aload_n 0, 1) := by decide +kernel
theorem dX1_isWord_25 : decode cX1_isWord 25 = .ok (.iload_n 1, 1) := by decide +kernel
theorem dX1_isWord_26 : decode cX1_isWord 26 = .ok (.iload 4, 2) := by decide +kernel
theorem dX1_isWord_28 : decode cX1_isWord 28 = .ok (.iadd, 1) := by decide +kernel
theorem dX1_isWord_29 : decode cX1_isWord 29 = .ok (.invokevirtual 95, 3) := by decide +kernel
theorem dX1_isWord_32 : decode cX1_isWord 32 = .ok (.aload_n 3, 1) := by decide +kernel
theorem dX1_isWord_33 : decode cX1_isWord 33 = .ok (.iload 4, 2) := by decide +kernel
theorem dX1_isWord_35 : decode cX1_isWord 35 = .ok (.invokevirtual 122, 3) := by decide +kernel
theorem dX1_isWord_38 : decode cX1_isWord 38 = .ok (.if_icmp .eq 5, 3) := by decide +kernel
theorem dX1_isWord_41 : decode cX1_isWord 41 = .ok (.iconst 0, 1) := by decide +kernel
theorem dX1_isWord_42 : decode cX1_isWord 42 = .ok (.ireturn, 1) := by decide +kernel
theorem dX1_isWord_43 : decode cX1_isWord 43 = .ok (.iinc 4 1, 3) := by decide +kernel
theorem dX1_isWord_46 : decode cX1_isWord 46 = .ok (.goto (-31), 3) := by decide +kernel
theorem dX1_isWord_49 : decode cX1_isWord 49 = .ok (.iconst 1, 1) := by decide +kernel
theorem dX1_isWord_50 : decode cX1_isWord 50 = .ok (.ireturn, 1) := by decide +kernel
theorem dX1_wordOf_0 : decode cX1_wordOf 0 = .ok (.iload_n 0, 1) := by decide +kernel
theorem dX1_wordOf_1 : decode cX1_wordOf 1 = .ok (.tableswitch 71 0 7 #[47, 50, 53, 56, 59, 62, 65, 68], 47) := by decide +kernel
theorem dX1_wordOf_48 : decode cX1_wordOf 48 = .ok (.ldc 126, 2) := by decide +kernel
theorem dX1_wordOf_50 : decode cX1_wordOf 50 = .ok (.areturn, 1) := by decide +kernel
theorem dX1_wordOf_51 : decode cX1_wordOf 51 = .ok (.ldc 128, 2) := by decide +kernel
theorem dX1_wordOf_53 : decode cX1_wordOf 53 = .ok (.areturn, 1) := by decide +kernel
theorem dX1_wordOf_54 : decode cX1_wordOf 54 = .ok (.ldc 130, 2) := by decide +kernel
theorem dX1_wordOf_56 : decode cX1_wordOf 56 = .ok (.areturn, 1) := by decide +kernel
theorem dX1_wordOf_57 : decode cX1_wordOf 57 = .ok (.ldc 132, 2) := by decide +kernel
theorem dX1_wordOf_59 : decode cX1_wordOf 59 = .ok (.areturn, 1) := by decide +kernel
theorem dX1_wordOf_60 : decode cX1_wordOf 60 = .ok (.ldc 134, 2) := by decide +kernel
theorem dX1_wordOf_62 : decode cX1_wordOf 62 = .ok (.areturn, 1) := by decide +kernel
theorem dX1_wordOf_63 : decode cX1_wordOf 63 = .ok (.ldc 136, 2) := by decide +kernel
theorem dX1_wordOf_65 : decode cX1_wordOf 65 = .ok (.areturn, 1) := by decide +kernel
theorem dX1_wordOf_66 : decode cX1_wordOf 66 = .ok (.ldc 138, 2) := by decide +kernel
theorem dX1_wordOf_68 : decode cX1_wordOf 68 = .ok (.areturn, 1) := by decide +kernel
theorem dX1_wordOf_69 : decode cX1_wordOf 69 = .ok (.ldc 140, 2) := by decide +kernel
theorem dX1_wordOf_71 : decode cX1_wordOf 71 = .ok (.areturn, 1) := by decide +kernel
theorem dX1_wordOf_72 : decode cX1_wordOf 72 = .ok (.ldc 142, 2) := by decide +kernel
theorem dX1_wordOf_74 : decode cX1_wordOf 74 = .ok (.areturn, 1) := by decide +kernel
theorem dX1_numberOf_0 : decode cX1_numberOf 0 = .ok (.iload_n 2, 1) := by decide +kernel
theorem dX1_numberOf_1 : decode cX1_numberOf 1 = .ok (.iload_n 1, 1) := by decide +kernel
theorem dX1_numberOf_2 : decode cX1_numberOf 2 = .ok (.isub, 1) := by decide +kernel
theorem dX1_numberOf_3 : decode cX1_numberOf 3 = .ok (.iconst 3, 1) := by decide +kernel
theorem dX1_numberOf_4 : decode cX1_numberOf 4 = .ok (.if_icmp .le 5, 3) := by decide +kernel
theorem dX1_numberOf_7 : decode cX1_numberOf 7 = .ok (.iconst (-1), 1) := by decide +kernel
theorem dX1_numberOf_8 : decode cX1_numberOf 8 = .ok (.ireturn, 1) := by decide +kernel
theorem dX1_numberOf_9 : decode cX1_numberOf 9 = .ok (.iconst 0, 1) := by decide +kernel
theorem dX1_numberOf_10 : decode cX1_numberOf 10 = .ok (.istore_n 3, 1) := by decide +kernel
theorem dX1_numberOf_11 : decode cX1_numberOf 11 = .ok (.iload_n 1, 1) := by decide +kernel
theorem dX1_numberOf_12 : decode cX1_numberOf 12 = .ok (.istore 4, 2) := by decide +kernel
theorem dX1_numberOf_14 : decode cX1_numberOf 14 = .ok (.iload 4, 2) := by decide +kernel
theorem dX1_numberOf_16 : decode cX1_numberOf 16 = .ok (.iload_n 2, 1) := by decide +kernel
theorem dX1_numberOf_17 : decode cX1_numberOf 17 = .ok (.if_icmp .ge 35, 3) := by decide +kernel
theorem dX1_numberOf_20 : decode cX1_numberOf 20 = .ok (.aload_n 0, 1) := by decide +kernel
theorem dX1_numberOf_21 : decode cX1_numberOf 21 = .ok (.iload 4, 2) := by decide +kernel
theorem dX1_numberOf_23 : decode cX1_numberOf 23 = .ok (.invokevirtual 83, 3) := by decide +kernel
theorem dX1_numberOf_26 : decode cX1_numberOf 26 = .ok (.ifCond .ne 5, 3) := by decide +kernel
theorem dX1_numberOf_29 : decode cX1_numberOf 29 = .ok (.iconst (-1), 1) := by decide +kernel
theorem dX1_numberOf_30 : decode cX1_numberOf 30 = .ok (.ireturn, 1) := by decide +kernel
theorem dX1_numberOf_31 : decode cX1_numberOf 31 = .ok (.bipush 10, 2) := by decide +kernel
theorem dX1_numberOf_33 : decode cX1_numberOf 33 = .ok (.iload_n 3, 1) := by decide +kernel
theorem dX1_numberOf_34 : decode cX1_numberOf 34 = .ok (.imul, 1) := by decide +kernel
theorem dX1_numberOf_35 : decode cX1_numberOf 35 = .ok (.aload_n 0, 1) := by decide +kernel
theorem dX1_numberOf_36 : decode cX1_numberOf 36 = .ok (.iload 4, 2) := by decide +kernel
theorem dX1_numberOf_38 : decode cX1_numberOf 38 = .ok (.invokevirtual 95, 3) := by decide +kernel
theorem dX1_numberOf_41 : decode cX1_numberOf 41 = .ok (.iadd, 1) := by decide +kernel
theorem dX1_numberOf_42 : decode cX1_numberOf 42 = .ok (.bipush 48, 2) := by decide +kernel
theorem dX1_numberOf_44 : decode cX1_numberOf 44 = .ok (.isub, 1) := by decide +kernel
theorem dX1_numberOf_45 : decode cX1_numberOf 45 = .ok (.istore_n 3, 1) := by decide +kernel
theorem dX1_numberOf_46 : decode cX1_numberOf 46 = .ok (.iinc 4 1, 3) := by decide +kernel
theorem dX1_numberOf_49 : decode cX1_numberOf 49 = .ok (.goto (-35), 3) := by decide +kernel
theorem dX1_numberOf_52 : decode cX1_numberOf 52 = .ok (.iload_n 3, 1) := by decide +kernel
theorem dX1_numberOf_53 : decode cX1_numberOf 53 = .ok (.ireturn, 1) := by decide +kernel
theorem dX2_init_0 : decode cX2_init 0 = .ok (.aload_n 0, 1) := by decide +kernel
theorem dX2_init_1 : decode cX2_init 1 = .ok (.invokespecial 3, 3) := by decide +kernel
theorem dX2_init_4 : decode cX2_init 4 = .ok (.aload_n 0, 1) := by decide +kernel
theorem dX2_init_5 : decode cX2_init 5 = .ok (.sipush 320, 3) := by decide +kernel
theorem dX2_init_8 : decode cX2_init 8 = .ok (.newarray .int, 2) := by decide +kernel
theorem dX2_init_10 : decode cX2_init 10 = .ok (.putfield 9, 3) := by decide +kernel
theorem dX2_init_13 : decode cX2_init 13 = .ok (.aload_n 0, 1) := by decide +kernel
theorem dX2_init_14 : decode cX2_init 14 = .ok (.bipush 36, 2) := by decide +kernel
theorem dX2_init_16 : decode cX2_init 16 = .ok (.newarray .int, 2) := by decide +kernel
theorem dX2_init_18 : decode cX2_init 18 = .ok (.putfield 15, 3) := by decide +kernel
theorem dX2_init_21 : decode cX2_init 21 = .ok (.aload_n 0, 1) := by decide +kernel
theorem dX2_init_22 : decode cX2_init 22 = .ok (.bipush 36, 2) := by decide +kernel
theorem dX2_init_24 : decode cX2_init 24 = .ok (.newarray .int, 2) := by decide +kernel
theorem dX2_init_26 : decode cX2_init 26 = .ok (.putfield 18, 3) := by decide +kernel
theorem dX2_init_29 : decode cX2_init 29 = .ok (.aload_n 0, 1) := by decide +kernel
theorem dX2_init_30 : decode cX2_init 30 = .ok (.bipush 36, 2) := by decide +kernel
theorem dX2_init_32 : decode cX2_init 32 = .ok (.newarray .int, 2) := by decide +kernel
theorem dX2_init_34 : decode cX2_init 34 = .ok (.putfield 21, 3) := by decide +kernel
theorem dX2_init_37 : decode cX2_init 37 = .ok (.aload_n 0, 1) := by decide +kernel
theorem dX2_init_38 : decode cX2_init 38 = .ok (.bipush 36, 2) := by decide +kernel
theorem dX2_init_40 : decode cX2_init 40 = .ok (.newarray .int, 2) := by decide +kernel
theorem dX2_init_42 : decode cX2_init 42 = .ok (.putfield 24, 3) := by decide +kernel
theorem dX2_init_45 : decode cX2_init 45 = .ok (.aload_n 0, 1) := by decide +kernel
theorem dX2_init_46 : decode cX2_init 46 = .ok (.bipush 36, 2) := by decide +kernel
theorem dX2_init_48 : decode cX2_init 48 = .ok (.newarray .int, 2) := by decide +kernel
theorem dX2_init_50 : decode cX2_init 50 = .ok (.putfield 27, 3) := by decide +kernel
theorem dX2_init_53 : decode cX2_init 53 = .ok (.aload_n 0, 1) := by decide +kernel
theorem dX2_init_54 : decode cX2_init 54 = .ok (.bipush 36, 2) := by decide +kernel
theorem dX2_init_56 : decode cX2_init 56 = .ok (.newarray .int, 2) := by decide +kernel
theorem dX2_init_58 : decode cX2_init 58 = .ok (.putfield 30, 3) := by decide +kernel
theorem dX2_init_61 : decode cX2_init 61 = .ok (.aload_n 0, 1) := by decide +kernel
theorem dX2_init_62 : decode cX2_init 62 = .ok (.bipush 36, 2) := by decide +kernel
theorem dX2_init_64 : decode cX2_init 64 = .ok (.newarray .int, 2) := by decide +kernel
theorem dX2_init_66 : decode cX2_init 66 = .ok (.putfield 33, 3) := by decide +kernel
theorem dX2_init_69 : decode cX2_init 69 = .ok (.aload_n 0, 1) := by decide +kernel
theorem dX2_init_70 : decode cX2_init 70 = .ok (.bipush 36, 2) := by decide +kernel
theorem dX2_init_72 : decode cX2_init 72 = .ok (.newarray .boolean, 2) := by decide +kernel
theorem dX2_init_74 : decode cX2_init 74 = .ok (.putfield 36, 3) := by decide +kernel
theorem dX2_init_77 : decode cX2_init 77 = .ok (.return_, 1) := by decide +kernel
theorem dX2_begin_0 : decode cX2_begin 0 = .ok (.aload_n 0, 1) := by decide +kernel
theorem dX2_begin_1 : decode cX2_begin 1 = .ok (.iconst 0, 1) := by decide +kernel
theorem dX2_begin_2 : decode cX2_begin 2 = .ok (.iload_n 1, 1) := by decide +kernel
theorem dX2_begin_3 : decode cX2_begin 3 = .ok (.bipush 16, 2) := by decide +kernel
theorem dX2_begin_5 : decode cX2_begin 5 = .ok (.invokestatic 40, 3) := by decide +kernel
theorem dX2_begin_8 : decode cX2_begin 8 = .ok (.invokestatic 46, 3) := by decide +kernel
theorem dX2_begin_11 : decode cX2_begin 11 = .ok (.putfield 49, 3) := by decide +kernel
theorem dX2_begin_14 : decode cX2_begin 14 = .ok (.aload_n 0, 1) := by decide +kernel
theorem dX2_begin_15 : decode cX2_begin 15 = .ok (.iconst 0, 1) := by decide +kernel
theorem dX2_begin_16 : decode cX2_begin 16 = .ok (.iload_n 2, 1) := by decide +kernel
theorem dX2_begin_17 : decode cX2_begin 17 = .ok (.bipush 20, 2) := by decide +kernel
theorem dX2_begin_19 : decode cX2_begin 19 = .ok (.invokestatic 40, 3) := by decide +kernel
theorem dX2_begin_22 : decode cX2_begin 22 = .ok (.invokestatic 46, 3) := by decide +kernel
theorem dX2_begin_25 : decode cX2_begin 25 = .ok (.putfield 53, 3) := by decide +kernel
theorem dX2_begin_28 : decode cX2_begin 28 = .ok (.aload_n 0, 1) := by decide +kernel
theorem dX2_begin_29 : decode cX2_begin 29 = .ok (.aload_n 0, 1) := by decide +kernel
theorem dX2_begin_30 : decode cX2_begin 30 = .ok (.getfield 49, 3) := by decide +kernel
theorem dX2_begin_33 : decode cX2_begin 33 = .ok (.aload_n 0, 1) := by decide +kernel
theorem dX2_begin_34 : decode cX2_begin 34 = .ok (.getfield 53, 3) := by decide +kernel
theorem dX2_begin_37 : decode cX2_begin 37 = .ok (.iadd, 1) := by decide +kernel
theorem dX2_begin_38 : decode cX2_begin 38 = .ok (.putfield 56, 3) := by decide +kernel
theorem dX2_begin_41 : decode cX2_begin 41 = .ok (.iconst 0, 1) := by decide +kernel
theorem dX2_begin_42 : decode cX2_begin 42 = .ok (.istore_n 3, 1) := by decide +kernel
theorem dX2_begin_43 : decode cX2_begin 43 = .ok (.iload_n 3, 1) := by decide +kernel
theorem dX2_begin_44 : decode cX2_begin 44 = .ok (.aload_n 0, 1) := by decide +kernel
theorem dX2_begin_45 : decode cX2_begin 45 = .ok (.getfield 9, 3) := by decide +kernel
theorem dX2_begin_48 : decode cX2_begin 48 = .ok (.arraylength, 1) := by decide +kernel
theorem dX2_begin_49 : decode cX2_begin 49 = .ok (.if_icmp .ge 17, 3) := by decide +kernel
theorem dX2_begin_52 : decode cX2_begin 52 = .ok (.aload_n 0, 1) := by decide +kernel
theorem dX2_begin_53 : decode cX2_begin 53 = .ok (.getfield 9, 3) := by decide +kernel
theorem dX2_begin_56 : decode cX2_begin 56 = .ok (.iload_n 3, 1) := by decide +kernel
theorem dX2_begin_57 : decode cX2_begin 57 = .ok (.ldc 59, 2) := by decide +kernel
theorem dX2_begin_59 : decode cX2_begin 59 = .ok (.iastore, 1) := by decide +kernel
theorem dX2_begin_60 : decode cX2_begin 60 = .ok (.iinc 3 1, 3) := by decide +kernel
theorem dX2_begin_63 : decode cX2_begin 63 = .ok (.goto (-20), 3) := by decide +kernel
theorem dX2_begin_66 : decode cX2_begin 66 = .ok (.iconst 0, 1) := by decide +kernel
theorem dX2_begin_67 : decode cX2_begin 67 = .ok (.istore_n 3, 1) := by decide +kernel
theorem dX2_begin_68 : decode cX2_begin 68 = .ok (.iload_n 3, 1) := by decide +kernel
theorem dX2_begin_69 : decode cX2_begin 69 = .ok (.aload_n 0, 1) := by decide +kernel
theorem dX2_begin_70 : decode cX2_begin 70 = .ok (.getfield 56, 3) := by decide +kernel
theorem dX2_begin_73 : decode cX2_begin 73 = .ok (.if_icmp .ge 37, 3) := by decide +kernel
theorem dX2_begin_76 : decode cX2_begin 76 = .ok (.aload_n 0, 1) := by decide +kernel
theorem dX2_begin_77 : decode cX2_begin 77 = .ok (.getfield 15, 3) := by decide +kernel
theorem dX2_begin_80 : decode cX2_begin 80 = .ok (.iload_n 3, 1) := by decide +kernel
theorem dX2_begin_81 : decode cX2_begin 81 = .ok (.iconst (-1), 1) := by decide +kernel
theorem dX2_begin_82 : decode cX2_begin 82 = .ok (.iastore, 1) := by decide +kernel
theorem dX2_begin_83 : decode cX2_begin 83 = .ok (.aload_n 0, 1) := by decide +kernel
theorem dX2_begin_84 : decode cX2_begin 84 = .ok (.getfield 18, 3) := by decide +kernel
theorem dX2_begin_87 : decode cX2_begin 87 = .ok (.iload_n 3, 1) := by decide +kernel
theorem dX2_begin_88 : decode cX2_begin 88 = .ok (.iconst (-1), 1) := by decide +kernel
theorem dX2_begin_89 : decode cX2_begin 89 = .ok (.iastore, 1) := by decide +kernel
theorem dX2_begin_90 : decode cX2_begin 90 = .ok (.aload_n 0, 1) := by decide +kernel
theorem dX2_begin_91 : decode cX2_begin 91 = .ok (.getfield 21, 3) := by decide +kernel
theorem dX2_begin_94 : decode cX2_begin 94 = .ok (.iload_n 3, 1) := by decide +kernel
theorem dX2_begin_95 : decode cX2_begin 95 = .ok (.iconst 0, 1) := by decide +kernel
theorem dX2_begin_96 : decode cX2_begin 96 = .ok (.iastore, 1) := by decide +kernel
theorem dX2_begin_97 : decode cX2_begin 97 = .ok (.aload_n 0, 1) := by decide +kernel
theorem dX2_begin_98 : decode cX2_begin 98 = .ok (.getfield 24, 3) := by decide +kernel
theorem dX2_begin_101 : decode cX2_begin 101 = .ok (.iload_n 3, 1) := by decide +kernel
theorem dX2_begin_102 : decode cX2_begin 102 = .ok (.iconst 0, 1) := by decide +kernel
theorem dX2_begin_103 : decode cX2_begin 103 = .ok (.iastore, 1) := by decide +kernel
theorem dX2_begin_104 : decode cX2_begin 104 = .ok (.iinc 3 1, 3) := by decide +kernel
theorem dX2_begin_107 : decode cX2_begin 107 = .ok (.goto (-39), 3) := by decide +kernel
theorem dX2_begin_110 : decode cX2_begin 110 = .ok (.iconst 0, 1) := by decide +kernel
theorem dX2_begin_111 : decode cX2_begin 111 = .ok (.istore_n 3, 1) := by decide +kernel
theorem dX2_begin_112 : decode cX2_begin 112 = .ok (.iload_n 3, 1) := by decide +kernel
theorem dX2_begin_113 : decode cX2_begin 113 = .ok (.aload_n 0, 1) := by decide +kernel
theorem dX2_begin_114 : decode cX2_begin 114 = .ok (.getfield 53, 3) := by decide +kernel
theorem dX2_begin_117 : decode cX2_begin 117 = .ok (.if_icmp .ge 20, 3) := by decide +kernel
theorem dX2_begin_120 : decode cX2_begin 120 = .ok (.aload_n 0, 1) := by decide +kernel
theorem dX2_begin_121 : decode cX2_begin 121 = .ok (.aload_n 0, 1) := by decide +kernel
theorem dX2_begin_122 : decode cX2_begin 122 = .ok (.getfield 49, 3) := by decide +kernel
theorem dX2_begin_125 : decode cX2_begin 125 = .ok (.iload_n 3, 1) := by decide +kernel
theorem dX2_begin_126 : decode cX2_begin 126 = .ok (.iadd, 1) := by decide +kernel
theorem dX2_begin_127 : decode cX2_begin 127 = .ok (.iload_n 3, 1) := by decide +kernel
theorem dX2_begin_128 : decode cX2_begin 128 = .ok (.invokevirtual 60, 3) := by decide +kernel
theorem dX2_begin_131 : decode cX2_begin 131 = .ok (.iinc 3 1, 3) := by decide +kernel
theorem dX2_begin_134 : decode cX2_begin 134 = .ok (.goto (-22), 3) := by decide +kernel
theorem dX2_begin_137 : decode cX2_begin 137 = .ok (.return_, 1) := by decide +kernel
theorem dX2_allow_0 : decode cX2_allow 0 = .ok (.iload_n 1, 1) := by decide +kernel
theorem dX2_allow_1 : decode cX2_allow 1 = .ok (.ifCond .lt 35, 3) := by decide +kernel
theorem dX2_allow_4 : decode cX2_allow 4 = .ok (.iload_n 1, 1) := by decide +kernel
theorem dX2_allow_5 : decode cX2_allow 5 = .ok (.aload_n 0, 1) := by decide +kernel
theorem dX2_allow_6 : decode cX2_allow 6 = .ok (.getfield 49, 3) := by decide +kernel
theorem dX2_allow_9 : decode cX2_allow 9 = .ok (.if_icmp .ge 27, 3) := by decide +kernel
theorem dX2_allow_12 : decode cX2_allow 12 = .ok (.iload_n 2, 1) := by decide +kernel
theorem dX2_allow_13 : decode cX2_allow 13 = .ok (.ifCond .lt 23, 3) := by decide +kernel
theorem dX2_allow_16 : decode cX2_allow 16 = .ok (.iload_n 2, 1) := by decide +kernel
theorem dX2_allow_17 : decode cX2_allow 17 = .ok (.aload_n 0, 1) := by decide +kernel
theorem dX2_allow_18 : decode cX2_allow 18 = .ok (.getfield 53, 3) := by decide +kernel
theorem dX2_allow_21 : decode cX2_allow 21 = .ok (.if_icmp .ge 15, 3) := by decide +kernel
theorem dX2_allow_24 : decode cX2_allow 24 = .ok (.aload_n 0, 1) := by decide +kernel
theorem dX2_allow_25 : decode cX2_allow 25 = .ok (.getfield 9, 3) := by decide +kernel
theorem dX2_allow_28 : decode cX2_allow 28 = .ok (.iload_n 1, 1) := by decide +kernel
theorem dX2_allow_29 : decode cX2_allow 29 = .ok (.bipush 20, 2) := by decide +kernel
theorem dX2_allow_31 : decode cX2_allow 31 = .ok (.imul, 1) := by decide +kernel
theorem dX2_allow_32 : decode cX2_allow 32 = .ok (.iload_n 2, 1) := by decide +kernel
theorem dX2_allow_33 : decode cX2_allow 33 = .ok (.iadd, 1) := by decide +kernel
theorem dX2_allow_34 : decode cX2_allow 34 = .ok (.iload_n 3, 1) := by decide +kernel
theorem dX2_allow_35 : decode cX2_allow 35 = .ok (.iastore, 1) := by decide +kernel
theorem dX2_allow_36 : decode cX2_allow 36 = .ok (.return_, 1) := by decide +kernel
theorem dX2_settle_0 : decode cX2_settle 0 = .ok (.iconst 0, 1) := by decide +kernel
theorem dX2_settle_1 : decode cX2_settle 1 = .ok (.istore_n 1, 1) := by decide +kernel
theorem dX2_settle_2 : decode cX2_settle 2 = .ok (.iload_n 1, 1) := by decide +kernel
theorem dX2_settle_3 : decode cX2_settle 3 = .ok (.aload_n 0, 1) := by decide +kernel
theorem dX2_settle_4 : decode cX2_settle 4 = .ok (.getfield 49, 3) := by decide +kernel
theorem dX2_settle_7 : decode cX2_settle 7 = .ok (.if_icmp .ge 14, 3) := by decide +kernel
theorem dX2_settle_10 : decode cX2_settle 10 = .ok (.aload_n 0, 1) := by decide +kernel
theorem dX2_settle_11 : decode cX2_settle 11 = .ok (.iload_n 1, 1) := by decide +kernel
theorem dX2_settle_12 : decode cX2_settle 12 = .ok (.invokevirtual 64, 3) := by decide +kernel
theorem dX2_settle_15 : decode cX2_settle 15 = .ok (.iinc 1 1, 3) := by decide +kernel
theorem dX2_settle_18 : decode cX2_settle 18 = .ok (.goto (-16), 3) := by decide +kernel
theorem dX2_settle_21 : decode cX2_settle 21 = .ok (.iconst 0, 1) := by decide +kernel
theorem dX2_settle_22 : decode cX2_settle 22 = .ok (.istore_n 1, 1) := by decide +kernel
theorem dX2_settle_23 : decode cX2_settle 23 = .ok (.iload_n 1, 1) := by decide +kernel
theorem dX2_settle_24 : decode cX2_settle 24 = .ok (.aload_n 0, 1) := by decide +kernel
theorem dX2_settle_25 : decode cX2_settle 25 = .ok (.getfield 49, 3) := by decide +kernel
theorem dX2_settle_28 : decode cX2_settle 28 = .ok (.if_icmp .ge 14, 3) := by decide +kernel
theorem dX2_settle_31 : decode cX2_settle 31 = .ok (.aload_n 0, 1) := by decide +kernel
theorem dX2_settle_32 : decode cX2_settle 32 = .ok (.iload_n 1, 1) := by decide +kernel
theorem dX2_settle_33 : decode cX2_settle 33 = .ok (.invokevirtual 68, 3) := by decide +kernel
theorem dX2_settle_36 : decode cX2_settle 36 = .ok (.iinc 1 1, 3) := by decide +kernel
theorem dX2_settle_39 : decode cX2_settle 39 = .ok (.goto (-16), 3) := by decide +kernel
theorem dX2_settle_42 : decode cX2_settle 42 = .ok (.return_, 1) := by decide +kernel
theorem dX2_umpireFor_0 : decode cX2_umpireFor 0 = .ok (.iload_n 1, 1) := by decide +kernel
theorem dX2_umpireFor_1 : decode cX2_umpireFor 1 = .ok (.ifCond .lt 20, 3) := by decide +kernel
theorem dX2_umpireFor_4 : decode cX2_umpireFor 4 = .ok (.iload_n 1, 1) := by decide +kernel
theorem dX2_umpireFor_5 : decode cX2_umpireFor 5 = .ok (.aload_n 0, 1) := by decide +kernel
theorem dX2_umpireFor_6 : decode cX2_umpireFor 6 = .ok (.getfield 49, 3) := by decide +kernel
theorem dX2_umpireFor_9 : decode cX2_umpireFor 9 = .ok (.if_icmp .ge 12, 3) := by decide +kernel
theorem dX2_umpireFor_12 : decode cX2_umpireFor 12 = .ok (.aload_n 0, 1) := by decide +kernel
theorem dX2_umpireFor_13 : decode cX2_umpireFor 13 = .ok (.getfield 15, 3) := by decide +kernel
theorem dX2_umpireFor_16 : decode cX2_umpireFor 16 = .ok (.iload_n 1, 1) := by decide +kernel
theorem dX2_umpireFor_17 : decode cX2_umpireFor 17 = .ok (.iaload, 1) := by decide +kernel
theorem dX2_umpireFor_18 : decode cX2_umpireFor 18 = .ok (.goto 4, 3) := by decide +kernel
theorem dX2_umpireFor_21 : decode cX2_umpireFor 21 = .ok (.iconst (-1), 1) := by decide +kernel
theorem dX2_umpireFor_22 : decode cX2_umpireFor 22 = .ok (.istore_n 2, 1) := by decide +kernel
theorem dX2_umpireFor_23 : decode cX2_umpireFor 23 = .ok (.iload_n 2, 1) := by decide +kernel
theorem dX2_umpireFor_24 : decode cX2_umpireFor 24 = .ok (.aload_n 0, 1) := by decide +kernel
theorem dX2_umpireFor_25 : decode cX2_umpireFor 25 = .ok (.getfield 53, 3) := by decide +kernel
theorem dX2_umpireFor_28 : decode cX2_umpireFor 28 = .ok (.if_icmp .ge 7, 3) := by decide +kernel
theorem dX2_umpireFor_31 : decode cX2_umpireFor 31 = .ok (.iload_n 2, 1) := by decide +kernel
theorem dX2_umpireFor_32 : decode cX2_umpireFor 32 = .ok (.goto 4, 3) := by decide +kernel
theorem dX2_umpireFor_35 : decode cX2_umpireFor 35 = .ok (.iconst (-1), 1) := by decide +kernel
theorem dX2_umpireFor_36 : decode cX2_umpireFor 36 = .ok (.ireturn, 1) := by decide +kernel
theorem dX2_pair_0 : decode cX2_pair 0 = .ok (.iload_n 1, 1) := by decide +kernel
theorem dX2_pair_1 : decode cX2_pair 1 = .ok (.ifCond .lt 37, 3) := by decide +kernel
theorem dX2_pair_4 : decode cX2_pair 4 = .ok (.iload_n 1, 1) := by decide +kernel
theorem dX2_pair_5 : decode cX2_pair 5 = .ok (.aload_n 0, 1) := by decide +kernel
theorem dX2_pair_6 : decode cX2_pair 6 = .ok (.getfield 56, 3) := by decide +kernel
theorem dX2_pair_9 : decode cX2_pair 9 = .ok (.if_icmp .ge 29, 3) := by decide +kernel
theorem dX2_pair_12 : decode cX2_pair 12 = .ok (.iload_n 2, 1) := by decide +kernel
theorem dX2_pair_13 : decode cX2_pair 13 = .ok (.ifCond .lt 25, 3) := by decide +kernel
theorem dX2_pair_16 : decode cX2_pair 16 = .ok (.iload_n 2, 1) := by decide +kernel
theorem dX2_pair_17 : decode cX2_pair 17 = .ok (.aload_n 0, 1) := by decide +kernel
theorem dX2_pair_18 : decode cX2_pair 18 = .ok (.getfield 56, 3) := by decide +kernel
theorem dX2_pair_21 : decode cX2_pair 21 = .ok (.if_icmp .ge 17, 3) := by decide +kernel
theorem dX2_pair_24 : decode cX2_pair 24 = .ok (.aload_n 0, 1) := by decide +kernel
theorem dX2_pair_25 : decode cX2_pair 25 = .ok (.getfield 15, 3) := by decide +kernel
theorem dX2_pair_28 : decode cX2_pair 28 = .ok (.iload_n 1, 1) := by decide +kernel
theorem dX2_pair_29 : decode cX2_pair 29 = .ok (.iload_n 2, 1) := by decide +kernel
theorem dX2_pair_30 : decode cX2_pair 30 = .ok (.iastore, 1) := by decide +kernel
theorem dX2_pair_31 : decode cX2_pair 31 = .ok (.aload_n 0, 1) := by decide +kernel
theorem dX2_pair_32 : decode cX2_pair 32 = .ok (.getfield 18, 3) := by decide +kernel
theorem dX2_pair_35 : decode cX2_pair 35 = .ok (.iload_n 2, 1) := by decide +kernel
theorem dX2_pair_36 : decode cX2_pair 36 = .ok (.iload_n 1, 1) := by decide +kernel
theorem dX2_pair_37 : decode cX2_pair 37 = .ok (.iastore, 1) := by decide +kernel
theorem dX2_pair_38 : decode cX2_pair 38 = .ok (.return_, 1) := by decide +kernel
theorem dX2_gap_0 : decode cX2_gap 0 = .ok (.iconst 0, 1) := by decide +kernel
theorem dX2_gap_1 : decode cX2_gap 1 = .ok (.istore_n 3, 1) := by decide +kernel
theorem dX2_gap_2 : decode cX2_gap 2 = .ok (.iload_n 1, 1) := by decide +kernel
theorem dX2_gap_3 : decode cX2_gap 3 = .ok (.aload_n 0, 1) := by decide +kernel
theorem dX2_gap_4 : decode cX2_gap 4 = .ok (.getfield 49, 3) := by decide +kernel
theorem dX2_gap_7 : decode cX2_gap 7 = .ok (.if_icmp .ge 28, 3) := by decide +kernel
theorem dX2_gap_10 : decode cX2_gap 10 = .ok (.iload_n 2, 1) := by decide +kernel
theorem dX2_gap_11 : decode cX2_gap 11 = .ok (.aload_n 0, 1) := by decide +kernel
theorem dX2_gap_12 : decode cX2_gap 12 = .ok (.getfield 53, 3) := by decide +kernel
theorem dX2_gap_15 : decode cX2_gap 15 = .ok (.if_icmp .ge 17, 3) := by decide +kernel
theorem dX2_gap_18 : decode cX2_gap 18 = .ok (.aload_n 0, 1) := by decide +kernel
theorem dX2_gap_19 : decode cX2_gap 19 = .ok (.getfield 9, 3) := by decide +kernel
theorem dX2_gap_22 : decode cX2_gap 22 = .ok (.iload_n 1, 1) := by decide +kernel
theorem dX2_gap_23 : decode cX2_gap 23 = .ok (.bipush 20, 2) := by decide +kernel
theorem dX2_gap_25 : decode cX2_gap 25 = .ok (.imul, 1) := by decide +kernel
theorem dX2_gap_26 : decode cX2_gap 26 = .ok (.iload_n 2, 1) := by decide +kernel
theorem dX2_gap_27 : decode cX2_gap 27 = .ok (.iadd, 1) := by decide +kernel
theorem dX2_gap_28 : decode cX2_gap 28 = .ok (.iaload, 1) := by decide +kernel
theorem dX2_gap_29 : decode cX2_gap 29 = .ok (.goto 5, 3) := by decide +kernel
theorem dX2_gap_32 : decode cX2_gap 32 = .ok (.ldc 71, 2) := by decide +kernel
theorem dX2_gap_34 : decode cX2_gap 34 = .ok (.istore_n 3, 1) := by decide +kernel
theorem dX2_gap_35 : decode cX2_gap 35 = .ok (.iload_n 3, 1) := by decide +kernel
theorem dX2_gap_36 : decode cX2_gap 36 = .ok (.aload_n 0, 1) := by decide +kernel
theorem dX2_gap_37 : decode cX2_gap 37 = .ok (.getfield 21, 3) := by decide +kernel
theorem dX2_gap_40 : decode cX2_gap 40 = .ok (.iload_n 1, 1) := by decide +kernel
theorem dX2_gap_41 : decode cX2_gap 41 = .ok (.iaload, 1) := by decide +kernel
theorem dX2_gap_42 : decode cX2_gap 42 = .ok (.isub, 1) := by decide +kernel
theorem dX2_gap_43 : decode cX2_gap 43 = .ok (.aload_n 0, 1) := by decide +kernel
theorem dX2_gap_44 : decode cX2_gap 44 = .ok (.getfield 24, 3) := by decide +kernel
theorem dX2_gap_47 : decode cX2_gap 47 = .ok (.iload_n 2, 1) := by decide +kernel
theorem dX2_gap_48 : decode cX2_gap 48 = .ok (.iaload, 1) := by decide +kernel
theorem dX2_gap_49 : decode cX2_gap 49 = .ok (.isub, 1) := by decide +kernel
theorem dX2_gap_50 : decode cX2_gap 50 = .ok (.ireturn, 1) := by decide +kernel
theorem dX2_forgetColumns_0 : decode cX2_forgetColumns 0 = .ok (.iconst 0, 1) := by decide +kernel
theorem dX2_forgetColumns_1 : decode cX2_forgetColumns 1 = .ok (.istore_n 1, 1) := by decide +kernel
theorem dX2_forgetColumns_2 : decode cX2_forgetColumns 2 = .ok (.iload_n 1, 1) := by decide +kernel
theorem dX2_forgetColumns_3 : decode cX2_forgetColumns 3 = .ok (.aload_n 0, 1) := by decide +kernel
theorem dX2_forgetColumns_4 : decode cX2_forgetColumns 4 = .ok (.getfield 56, 3) := by decide +kernel
theorem dX2_forgetColumns_7 : decode cX2_forgetColumns 7 = .ok (.if_icmp .ge 31, 3) := by decide +kernel
theorem dX2_forgetColumns_10 : decode cX2_forgetColumns 10 = .ok (.aload_n 0, 1) := by decide +kernel
theorem dX2_forgetColumns_11 : decode cX2_forgetColumns 11 = .ok (.getfield 36, 3) := by decide +kernel
theorem dX2_forgetColumns_14 : decode cX2_forgetColumns 14 = .ok (.iload_n 1, 1) := by decide +kernel
theorem dX2_forgetColumns_15 : decode cX2_forgetColumns 15 = .ok (.iconst 0, 1) := by decide +kernel
theorem dX2_forgetColumns_16 : decode cX2_forgetColumns 16 = .ok (.bastore, 1) := by decide +kernel
theorem dX2_forgetColumns_17 : decode cX2_forgetColumns 17 = .ok (.aload_n 0, 1) := by decide +kernel
theorem dX2_forgetColumns_18 : decode cX2_forgetColumns 18 = .ok (.getfield 30, 3) := by decide +kernel
theorem dX2_forgetColumns_21 : decode cX2_forgetColumns 21 = .ok (.iload_n 1, 1) := by decide +kernel
theorem dX2_forgetColumns_22 : decode cX2_forgetColumns 22 = .ok (.iconst (-1), 1) := by decide +kernel
theorem dX2_forgetColumns_23 : decode cX2_forgetColumns 23 = .ok (.iastore, 1) := by decide +kernel
theorem dX2_forgetColumns_24 : decode cX2_forgetColumns 24 = .ok (.aload_n 0, 1) := by decide +kernel
theorem dX2_forgetColumns_25 : decode cX2_forgetColumns 25 = .ok (.getfield 27, 3) := by decide +kernel
theorem dX2_forgetColumns_28 : decode cX2_forgetColumns 28 = .ok (.iload_n 1, 1) := by decide +kernel
theorem dX2_forgetColumns_29 : decode cX2_forgetColumns 29 = .ok (.ldc 72, 2) := by decide +kernel
theorem dX2_forgetColumns_31 : decode cX2_forgetColumns 31 = .ok (.iastore, 1) := by decide +kernel
theorem dX2_forgetColumns_32 : decode cX2_forgetColumns 32 = .ok (.iinc 1 1, 3) := by decide +kernel
theorem dX2_forgetColumns_35 : decode cX2_forgetColumns 35 = .ok (.goto (-33), 3) := by decide +kernel
theorem dX2_forgetColumns_38 : decode cX2_forgetColumns 38 = .ok (.return_, 1) := by decide +kernel
theorem dX2_addSeat_0 : decode cX2_addSeat 0 = .ok (.aload_n 0, 1) := by decide +kernel
theorem dX2_addSeat_1 : decode cX2_addSeat 1 = .ok (.invokevirtual 73, 3) := by decide +kernel
theorem dX2_addSeat_4 : decode cX2_addSeat 4 = .ok (.iload_n 1, 1) := by decide +kernel
theorem dX2_addSeat_5 : decode cX2_addSeat 5 = .ok (.istore_n 2, 1) := by decide +kernel
theorem dX2_addSeat_6 : decode cX2_addSeat 6 = .ok (.iconst (-1), 1) := by decide +kernel
theorem dX2_addSeat_7 : decode cX2_addSeat 7 = .ok (.istore_n 3, 1) := by decide +kernel
theorem dX2_addSeat_8 : decode cX2_addSeat 8 = .ok (.iconst 0, 1) := by decide +kernel
theorem dX2_addSeat_9 : decode cX2_addSeat 9 = .ok (.istore 4, 2) := by decide +kernel
theorem dX2_addSeat_11 : decode cX2_addSeat 11 = .ok (.iload 4, 2) := by decide +kernel
theorem dX2_addSeat_13 : decode cX2_addSeat 13 = .ok (.aload_n 0, 1) := by decide +kernel
theorem dX2_addSeat_14 : decode cX2_addSeat 14 = .ok (.getfield 56, 3) := by decide +kernel
theorem dX2_addSeat_17 : decode cX2_addSeat 17 = .ok (.if_icmp .ge 56, 3) := by decide +kernel
theorem dX2_addSeat_20 : decode cX2_addSeat 20 = .ok (.iload_n 2, 1) := by decide +kernel
theorem dX2_addSeat_21 : decode cX2_addSeat 21 = .ok (.iconst (-1), 1) := by decide +kernel
theorem dX2_addSeat_22 : decode cX2_addSeat 22 = .ok (.if_icmp .eq 51, 3) := by decide +kernel
theorem dX2_addSeat_25 : decode cX2_addSeat 25 = .ok (.aload_n 0, 1) := by decide +kernel
theorem dX2_addSeat_26 : decode cX2_addSeat 26 = .ok (.iload_n 2, 1) := by decide +kernel
theorem dX2_addSeat_27 : decode cX2_addSeat 27 = .ok (.iload_n 3, 1) := by decide +kernel
theorem dX2_addSeat_28 : decode cX2_addSeat 28 = .ok (.invokevirtual 76, 3) := by decide +kernel
theorem dX2_addSeat_31 : decode cX2_addSeat 31 = .ok (.aload_n 0, 1) := by decide +kernel
theorem dX2_addSeat_32 : decode cX2_addSeat 32 = .ok (.invokevirtual 79, 3) := by decide +kernel
theorem dX2_addSeat_35 : decode cX2_addSeat 35 = .ok (.istore_n 3, 1) := by decide +kernel
theorem dX2_addSeat_36 : decode cX2_addSeat 36 = .ok (.iload_n 3, 1) := by decide +kernel
theorem dX2_addSeat_37 : decode cX2_addSeat 37 = .ok (.iconst (-1), 1) := by decide +kernel
theorem dX2_addSeat_38 : decode cX2_addSeat 38 = .ok (.if_icmp .ne 4, 3) := by decide +kernel
theorem dX2_addSeat_41 : decode cX2_addSeat 41 = .ok (.return_, 1) := by decide +kernel
theorem dX2_addSeat_42 : decode cX2_addSeat 42 = .ok (.aload_n 0, 1) := by decide +kernel
theorem dX2_addSeat_43 : decode cX2_addSeat 43 = .ok (.iload_n 1, 1) := by decide +kernel
theorem dX2_addSeat_44 : decode cX2_addSeat 44 = .ok (.aload_n 0, 1) := by decide +kernel
theorem dX2_addSeat_45 : decode cX2_addSeat 45 = .ok (.getfield 27, 3) := by decide +kernel
theorem dX2_addSeat_48 : decode cX2_addSeat 48 = .ok (.iload_n 3, 1) := by decide +kernel
theorem dX2_addSeat_49 : decode cX2_addSeat 49 = .ok (.iaload, 1) := by decide +kernel
theorem dX2_addSeat_50 : decode cX2_addSeat 50 = .ok (.invokevirtual 83, 3) := by decide +kernel
theorem dX2_addSeat_53 : decode cX2_addSeat 53 = .ok (.aload_n 0, 1) := by decide +kernel
theorem dX2_addSeat_54 : decode cX2_addSeat 54 = .ok (.getfield 36, 3) := by decide +kernel
theorem dX2_addSeat_57 : decode cX2_addSeat 57 = .ok (.iload_n 3, 1) := by decide +kernel
theorem dX2_addSeat_58 : decode cX2_addSeat 58 = .ok (.iconst 1, 1) := by decide +kernel
theorem dX2_addSeat_59 : decode cX2_addSeat 59 = .ok (.bastore, 1) := by decide +kernel
theorem dX2_addSeat_60 : decode cX2_addSeat 60 = .ok (.aload_n 0, 1) := by decide +kernel
theorem dX2_addSeat_61 : decode cX2_addSeat 61 = .ok (.getfield 18, 3) := by decide +kernel
theorem dX2_addSeat_64 : decode cX2_addSeat 64 = .ok (.iload_n 3, 1) := by decide +kernel
theorem dX2_addSeat_65 : decode cX2_addSeat 65 = .ok (.iaload, 1) := by decide +kernel
theorem dX2_addSeat_66 : decode cX2_addSeat 66 = .ok (.istore_n 2, 1) := by decide +kernel
theorem dX2_addSeat_67 : decode cX2_addSeat 67 = .ok (.iinc 4 1, 3) := by decide +kernel
theorem dX2_addSeat_70 : decode cX2_addSeat 70 = .ok (.goto (-59), 3) := by decide +kernel
theorem dX2_addSeat_73 : decode cX2_addSeat 73 = .ok (.aload_n 0, 1) := by decide +kernel
theorem dX2_addSeat_74 : decode cX2_addSeat 74 = .ok (.iload_n 1, 1) := by decide +kernel
theorem dX2_addSeat_75 : decode cX2_addSeat 75 = .ok (.iload_n 3, 1) := by decide +kernel
theorem dX2_addSeat_76 : decode cX2_addSeat 76 = .ok (.invokevirtual 86, 3) := by decide +kernel
theorem dX2_addSeat_79 : decode cX2_addSeat 79 = .ok (.return_, 1) := by decide +kernel
theorem dX2_reach_0 : decode cX2_reach 0 = .ok (.iconst 0, 1) := by decide +kernel
theorem dX2_reach_1 : decode cX2_reach 1 = .ok (.istore_n 3, 1) := by decide +kernel
theorem dX2_reach_2 : decode cX2_reach 2 = .ok (.iload_n 3, 1) := by decide +kernel
theorem dX2_reach_3 : decode cX2_reach 3 = .ok (.aload_n 0, 1) := by decide +kernel
theorem dX2_reach_4 : decode cX2_reach 4 = .ok (.getfield 56, 3) := by decide +kernel
theorem dX2_reach_7 : decode cX2_reach 7 = .ok (.if_icmp .ge 52, 3) := by decide +kernel
theorem dX2_reach_10 : decode cX2_reach 10 = .ok (.aload_n 0, 1) := by decide +kernel
theorem dX2_reach_11 : decode cX2_reach 11 = .ok (.getfield 36, 3) := by decide +kernel
theorem dX2_reach_14 : decode cX2_reach 14 = .ok (.iload_n 3, 1) := by decide +kernel
theorem dX2_reach_15 : decode cX2_reach 15 = .ok (.baload, 1) := by decide +kernel
theorem dX2_reach_16 : decode cX2_reach 16 = .ok (.ifCond .ne 37, 3) := by decide +kernel
theorem dX2_reach_19 : decode cX2_reach 19 = .ok (.aload_n 0, 1) := by decide +kernel
theorem dX2_reach_20 : decode cX2_reach 20 = .ok (.iload_n 1, 1) := by decide +kernel
theorem dX2_reach_21 : decode cX2_reach 21 = .ok (.iload_n 3, 1) := by decide +kernel
theorem dX2_reach_22 : decode cX2_reach 22 = .ok (.invokevirtual 89, 3) := by decide +kernel
theorem dX2_reach_25 : decode cX2_reach 25 = .ok (.istore 4, 2) := by decide +kernel
theorem dX2_reach_27 : decode cX2_reach 27 = .ok (.iload 4, 2) := by decide +kernel
theorem dX2_reach_29 : decode cX2_reach 29 = .ok (.aload_n 0, 1) := by decide +kernel
theorem dX2_reach_30 : decode cX2_reach 30 = .ok (.getfield 27, 3) := by decide +kernel
theorem dX2_reach_33 : decode cX2_reach 33 = .ok (.iload_n 3, 1) := by decide +kernel
theorem dX2_reach_34 : decode cX2_reach 34 = .ok (.iaload, 1) := by decide +kernel
theorem dX2_reach_35 : decode cX2_reach 35 = .ok (.if_icmp .ge 18, 3) := by decide +kernel
theorem dX2_reach_38 : decode cX2_reach 38 = .ok (.aload_n 0, 1) := by decide +kernel
theorem dX2_reach_39 : decode cX2_reach 39 = .ok (.getfield 27, 3) := by decide +kernel
theorem dX2_reach_42 : decode cX2_reach 42 = .ok (.iload_n 3, 1) := by decide +kernel
theorem dX2_reach_43 : decode cX2_reach 43 = .ok (.iload 4, 2) := by decide +kernel
theorem dX2_reach_45 : decode cX2_reach 45 = .ok (.iastore, 1) := by decide +kernel
theorem dX2_reach_46 : decode cX2_reach 46 = .ok (.aload_n 0, 1) := by decide +kernel
theorem dX2_reach_47 : decode cX2_reach 47 = .ok (.getfield 30, 3) := by decide +kernel
theorem dX2_reach_50 : decode cX2_reach 50 = .ok (.iload_n 3, 1) := by decide +kernel
theorem dX2_reach_51 : decode cX2_reach 51 = .ok (.iload_n 2, 1) := by decide +kernel
theorem dX2_reach_52 : decode cX2_reach 52 = .ok (.iastore, 1) := by decide +kernel
theorem dX2_reach_53 : decode cX2_reach 53 = .ok (.iinc 3 1, 3) := by decide +kernel
theorem dX2_reach_56 : decode cX2_reach 56 = .ok (.goto (-54), 3) := by decide +kernel
theorem dX2_reach_59 : decode cX2_reach 59 = .ok (.return_, 1) := by decide +kernel
theorem dX2_nearest_0 : decode cX2_nearest 0 = .ok (.iconst (-1), 1) := by decide +kernel
theorem dX2_nearest_1 : decode cX2_nearest 1 = .ok (.istore_n 1, 1) := by decide +kernel
theorem dX2_nearest_2 : decode cX2_nearest 2 = .ok (.iconst 0, 1) := by decide +kernel
theorem dX2_nearest_3 : decode cX2_nearest 3 = .ok (.istore_n 2, 1) := by decide +kernel
theorem dX2_nearest_4 : decode cX2_nearest 4 = .ok (.iload_n 2, 1) := by decide +kernel
theorem dX2_nearest_5 : decode cX2_nearest 5 = .ok (.aload_n 0, 1) := by decide +kernel
theorem dX2_nearest_6 : decode cX2_nearest 6 = .ok (.getfield 56, 3) := by decide +kernel
theorem dX2_nearest_9 : decode cX2_nearest 9 = .ok (.if_icmp .ge 40, 3) := by decide +kernel
theorem dX2_nearest_12 : decode cX2_nearest 12 = .ok (.aload_n 0, 1) := by decide +kernel
theorem dX2_nearest_13 : decode cX2_nearest 13 = .ok (.getfield 36, 3) := by decide +kernel
theorem dX2_nearest_16 : decode cX2_nearest 16 = .ok (.iload_n 2, 1) := by decide +kernel
theorem dX2_nearest_17 : decode cX2_nearest 17 = .ok (.baload, 1) := by decide +kernel
theorem dX2_nearest_18 : decode cX2_nearest 18 = .ok (.ifCond .ne 25, 3) := by decide +kernel
theorem dX2_nearest_21 : decode cX2_nearest 21 = .ok (.iload_n 1, 1) := by decide +kernel
theorem dX2_nearest_22 : decode cX2_nearest 22 = .ok (.iconst (-1), 1) := by decide +kernel
theorem dX2_nearest_23 : decode cX2_nearest 23 = .ok (.if_icmp .eq 18, 3) := by decide +kernel
theorem dX2_nearest_26 : decode cX2_nearest 26 = .ok (.aload_n 0, 1) := by decide +kernel
theorem dX2_nearest_27 : decode cX2_nearest 27 = .ok (.getfield 27, 3) := by decide +kernel
theorem dX2_nearest_30 : decode cX2_nearest 30 = .ok (.iload_n 2, 1) := by decide +kernel
theorem dX2_nearest_31 : decode cX2_nearest 31 = .ok (.iaload, 1) := by decide +kernel
theorem dX2_nearest_32 : decode cX2_nearest 32 = .ok (.aload_n 0, 1) := by decide +kernel
theorem dX2_nearest_33 : decode cX2_nearest 33 = .ok (.getfield 27, 3) := by decide +kernel
theorem dX2_nearest_36 : decode cX2_nearest 36 = .ok (.iload_n 1, 1) := by decide +kernel
theorem dX2_nearest_37 : decode cX2_nearest 37 = .ok (.iaload, 1) := by decide +kernel
theorem dX2_nearest_38 : decode cX2_nearest 38 = .ok (.if_icmp .ge 5, 3) := by decide +kernel
theorem dX2_nearest_41 : decode cX2_nearest 41 = .ok (.iload_n 2, 1) := by decide +kernel
theorem dX2_nearest_42 : decode cX2_nearest 42 = .ok (.istore_n 1, 1) := by decide +kernel
theorem dX2_nearest_43 : decode cX2_nearest 43 = .ok (.iinc 2 1, 3) := by decide +kernel
theorem dX2_nearest_46 : decode cX2_nearest 46 = .ok (.goto (-42), 3) := by decide +kernel
theorem dX2_nearest_49 : decode cX2_nearest 49 = .ok (.iload_n 1, 1) := by decide +kernel
theorem dX2_nearest_50 : decode cX2_nearest 50 = .ok (.ireturn, 1) := by decide +kernel
theorem dX2_shiftParts_0 : decode cX2_shiftParts 0 = .ok (.iload_n 2, 1) := by decide +kernel
theorem dX2_shiftParts_1 : decode cX2_shiftParts 1 = .ok (.ifCond .ne 4, 3) := by decide +kernel
theorem dX2_shiftParts_4 : decode cX2_shiftParts 4 = .ok (.return_, 1) := by decide +kernel
theorem dX2_shiftParts_5 : decode cX2_shiftParts 5 = .ok (.aload_n 0, 1) := by decide +kernel
theorem dX2_shiftParts_6 : decode cX2_shiftParts 6 = .ok (.getfield 21, 3) := by decide +kernel
theorem dX2_shiftParts_9 : decode cX2_shiftParts 9 = .ok (.iload_n 1, 1) := by decide +kernel
theorem dX2_shiftParts_10 : decode cX2_shiftParts 10 = .ok (.dup2, 1) := by decide +kernel
theorem dX2_shiftParts_11 : decode cX2_shiftParts 11 = .ok (.iaload, 1) := by decide +kernel
theorem dX2_shiftParts_12 : decode cX2_shiftParts 12 = .ok (.iload_n 2, 1) := by decide +kernel
theorem dX2_shiftParts_13 : decode cX2_shiftParts 13 = .ok (.iadd, 1) := by decide +kernel
theorem dX2_shiftParts_14 : decode cX2_shiftParts 14 = .ok (.iastore, 1) := by decide +kernel
theorem dX2_shiftParts_15 : decode cX2_shiftParts 15 = .ok (.iconst 0, 1) := by decide +kernel
theorem dX2_shiftParts_16 : decode cX2_shiftParts 16 = .ok (.istore_n 3, 1) := by decide +kernel
theorem dX2_shiftParts_17 : decode cX2_shiftParts 17 = .ok (.iload_n 3, 1) := by decide +kernel
theorem dX2_shiftParts_18 : decode cX2_shiftParts 18 = .ok (.aload_n 0, 1) := by decide +kernel
theorem dX2_shiftParts_19 : decode cX2_shiftParts 19 = .ok (.getfield 56, 3) := by decide +kernel
theorem dX2_shiftParts_22 : decode cX2_shiftParts 22 = .ok (.if_icmp .ge 66, 3) := by decide +kernel
theorem dX2_shiftParts_25 : decode cX2_shiftParts 25 = .ok (.aload_n 0, 1) := by decide +kernel
theorem dX2_shiftParts_26 : decode cX2_shiftParts 26 = .ok (.getfield 36, 3) := by decide +kernel
theorem dX2_shiftParts_29 : decode cX2_shiftParts 29 = .ok (.iload_n 3, 1) := by decide +kernel
theorem dX2_shiftParts_30 : decode cX2_shiftParts 30 = .ok (.baload, 1) := by decide +kernel
theorem dX2_shiftParts_31 : decode cX2_shiftParts 31 = .ok (.ifCond .ne 16, 3) := by decide +kernel
theorem dX2_shiftParts_34 : decode cX2_shiftParts 34 = .ok (.aload_n 0, 1) := by decide +kernel
theorem dX2_shiftParts_35 : decode cX2_shiftParts 35 = .ok (.getfield 27, 3) := by decide +kernel
theorem dX2_shiftParts_38 : decode cX2_shiftParts 38 = .ok (.iload_n 3, 1) := by decide +kernel
theorem dX2_shiftParts_39 : decode cX2_shiftParts 39 = .ok (.dup2, 1) := by decide +kernel
theorem dX2_shiftParts_40 : decode cX2_shiftParts 40 = .ok (.iaload, 1) := by decide +kernel
theorem dX2_shiftParts_41 : decode cX2_shiftParts 41 = .ok (.iload_n 2, 1) := by decide +kernel
theorem dX2_shiftParts_42 : decode cX2_shiftParts 42 = .ok (.isub, 1) := by decide +kernel
theorem dX2_shiftParts_43 : decode cX2_shiftParts 43 = .ok (.iastore, 1) := by decide +kernel
theorem dX2_shiftParts_44 : decode cX2_shiftParts 44 = .ok (.goto 38, 3) := by decide +kernel
theorem dX2_shiftParts_47 : decode cX2_shiftParts 47 = .ok (.aload_n 0, 1) := by decide +kernel
theorem dX2_shiftParts_48 : decode cX2_shiftParts 48 = .ok (.getfield 18, 3) := by decide +kernel
theorem dX2_shiftParts_51 : decode cX2_shiftParts 51 = .ok (.iload_n 3, 1) := by decide +kernel
theorem dX2_shiftParts_52 : decode cX2_shiftParts 52 = .ok (.iaload, 1) := by decide +kernel
theorem dX2_shiftParts_53 : decode cX2_shiftParts 53 = .ok (.iconst (-1), 1) := by decide +kernel
theorem dX2_shiftParts_54 : decode cX2_shiftParts 54 = .ok (.if_icmp .eq 28, 3) := by decide +kernel
theorem dX2_shiftParts_57 : decode cX2_shiftParts 57 = .ok (.aload_n 0, 1) := by decide +kernel
theorem dX2_shiftParts_58 : decode cX2_shiftParts 58 = .ok (.getfield 21, 3) := by decide +kernel
theorem dX2_shiftParts_61 : decode cX2_shiftParts 61 = .ok (.aload_n 0, 1) := by decide +kernel
theorem dX2_shiftParts_62 : decode cX2_shiftParts 62 = .ok (.getfield 18, 3) := by decide +kernel
theorem dX2_shiftParts_65 : decode cX2_shiftParts 65 = .ok (.iload_n 3, 1) := by decide +kernel
theorem dX2_shiftParts_66 : decode cX2_shiftParts 66 = .ok (.iaload, 1) := by decide +kernel
theorem dX2_shiftParts_67 : decode cX2_shiftParts 67 = .ok (.dup2, 1) := by decide +kernel
theorem dX2_shiftParts_68 : decode cX2_shiftParts 68 = .ok (.iaload, 1) := by decide +kernel
theorem dX2_shiftParts_69 : decode cX2_shiftParts 69 = .ok (.iload_n 2, 1) := by decide +kernel
theorem dX2_shiftParts_70 : decode cX2_shiftParts 70 = .ok (.iadd, 1) := by decide +kernel
theorem dX2_shiftParts_71 : decode cX2_shiftParts 71 = .ok (.iastore, 1) := by decide +kernel
theorem dX2_shiftParts_72 : decode cX2_shiftParts 72 = .ok (.aload_n 0, 1) := by decide +kernel
theorem dX2_shiftParts_73 : decode cX2_shiftParts 73 = .ok (.getfield 24, 3) := by decide +kernel
theorem dX2_shiftParts_76 : decode cX2_shiftParts 76 = .ok (.iload_n 3, 1) := by decide +kernel
theorem dX2_shiftParts_77 : decode cX2_shiftParts 77 = .ok (.dup2, 1) := by decide +kernel
theorem dX2_shiftParts_78 : decode cX2_shiftParts 78 = .ok (.iaload, 1) := by decide +kernel
theorem dX2_shiftParts_79 : decode cX2_shiftParts 79 = .ok (.iload_n 2, 1) := by decide +kernel
theorem dX2_shiftParts_80 : decode cX2_shiftParts 80 = .ok (.isub, 1) := by decide +kernel
theorem dX2_shiftParts_81 : decode cX2_shiftParts 81 = .ok (.iastore, 1) := by decide +kernel
theorem dX2_shiftParts_82 : decode cX2_shiftParts 82 = .ok (.iinc 3 1, 3) := by decide +kernel
theorem dX2_shiftParts_85 : decode cX2_shiftParts 85 = .ok (.goto (-68), 3) := by decide +kernel
theorem dX2_shiftParts_88 : decode cX2_shiftParts 88 = .ok (.return_, 1) := by decide +kernel
theorem dX2_moveAlong_0 : decode cX2_moveAlong 0 = .ok (.iload_n 2, 1) := by decide +kernel
theorem dX2_moveAlong_1 : decode cX2_moveAlong 1 = .ok (.istore_n 3, 1) := by decide +kernel
theorem dX2_moveAlong_2 : decode cX2_moveAlong 2 = .ok (.iconst 0, 1) := by decide +kernel
theorem dX2_moveAlong_3 : decode cX2_moveAlong 3 = .ok (.istore 4, 2) := by decide +kernel
theorem dX2_moveAlong_5 : decode cX2_moveAlong 5 = .ok (.iload 4, 2) := by decide +kernel
theorem dX2_moveAlong_7 : decode cX2_moveAlong 7 = .ok (.aload_n 0, 1) := by decide +kernel
theorem dX2_moveAlong_8 : decode cX2_moveAlong 8 = .ok (.getfield 56, 3) := by decide +kernel
theorem dX2_moveAlong_11 : decode cX2_moveAlong 11 = .ok (.if_icmp .ge 47, 3) := by decide +kernel
theorem dX2_moveAlong_14 : decode cX2_moveAlong 14 = .ok (.iload_n 3, 1) := by decide +kernel
theorem dX2_moveAlong_15 : decode cX2_moveAlong 15 = .ok (.iconst (-1), 1) := by decide +kernel
theorem dX2_moveAlong_16 : decode cX2_moveAlong 16 = .ok (.if_icmp .eq 42, 3) := by decide +kernel
theorem dX2_moveAlong_19 : decode cX2_moveAlong 19 = .ok (.aload_n 0, 1) := by decide +kernel
theorem dX2_moveAlong_20 : decode cX2_moveAlong 20 = .ok (.getfield 30, 3) := by decide +kernel
theorem dX2_moveAlong_23 : decode cX2_moveAlong 23 = .ok (.iload_n 3, 1) := by decide +kernel
theorem dX2_moveAlong_24 : decode cX2_moveAlong 24 = .ok (.iaload, 1) := by decide +kernel
theorem dX2_moveAlong_25 : decode cX2_moveAlong 25 = .ok (.istore 5, 2) := by decide +kernel
theorem dX2_moveAlong_27 : decode cX2_moveAlong 27 = .ok (.aload_n 0, 1) := by decide +kernel
theorem dX2_moveAlong_28 : decode cX2_moveAlong 28 = .ok (.iload 5, 2) := by decide +kernel
theorem dX2_moveAlong_30 : decode cX2_moveAlong 30 = .ok (.iconst (-1), 1) := by decide +kernel
theorem dX2_moveAlong_31 : decode cX2_moveAlong 31 = .ok (.if_icmp .ne 7, 3) := by decide +kernel
theorem dX2_moveAlong_34 : decode cX2_moveAlong 34 = .ok (.iload_n 1, 1) := by decide +kernel
theorem dX2_moveAlong_35 : decode cX2_moveAlong 35 = .ok (.goto 10, 3) := by decide +kernel
theorem dX2_moveAlong_38 : decode cX2_moveAlong 38 = .ok (.aload_n 0, 1) := by decide +kernel
theorem dX2_moveAlong_39 : decode cX2_moveAlong 39 = .ok (.getfield 18, 3) := by decide +kernel
theorem dX2_moveAlong_42 : decode cX2_moveAlong 42 = .ok (.iload 5, 2) := by decide +kernel
theorem dX2_moveAlong_44 : decode cX2_moveAlong 44 = .ok (.iaload, 1) := by decide +kernel
theorem dX2_moveAlong_45 : decode cX2_moveAlong 45 = .ok (.iload_n 3, 1) := by decide +kernel
theorem dX2_moveAlong_46 : decode cX2_moveAlong 46 = .ok (.invokevirtual 60, 3) := by decide +kernel
theorem dX2_moveAlong_49 : decode cX2_moveAlong 49 = .ok (.iload 5, 2) := by decide +kernel
theorem dX2_moveAlong_51 : decode cX2_moveAlong 51 = .ok (.istore_n 3, 1) := by decide +kernel
theorem dX2_moveAlong_52 : decode cX2_moveAlong 52 = .ok (.iinc 4 1, 3) := by decide +kernel
theorem dX2_moveAlong_55 : decode cX2_moveAlong 55 = .ok (.goto (-50), 3) := by decide +kernel
theorem dX2_moveAlong_58 : decode cX2_moveAlong 58 = .ok (.return_, 1) := by decide +kernel
theorem dX2_takeFirst_0 : decode cX2_takeFirst 0 = .ok (.aload_n 0, 1) := by decide +kernel
theorem dX2_takeFirst_1 : decode cX2_takeFirst 1 = .ok (.getfield 15, 3) := by decide +kernel
theorem dX2_takeFirst_4 : decode cX2_takeFirst 4 = .ok (.iload_n 1, 1) := by decide +kernel
theorem dX2_takeFirst_5 : decode cX2_takeFirst 5 = .ok (.iaload, 1) := by decide +kernel
theorem dX2_takeFirst_6 : decode cX2_takeFirst 6 = .ok (.istore_n 2, 1) := by decide +kernel
theorem dX2_takeFirst_7 : decode cX2_takeFirst 7 = .ok (.iload_n 2, 1) := by decide +kernel
theorem dX2_takeFirst_8 : decode cX2_takeFirst 8 = .ok (.iconst (-1), 1) := by decide +kernel
theorem dX2_takeFirst_9 : decode cX2_takeFirst 9 = .ok (.if_icmp .eq 14, 3) := by decide +kernel
theorem dX2_takeFirst_12 : decode cX2_takeFirst 12 = .ok (.aload_n 0, 1) := by decide +kernel
theorem dX2_takeFirst_13 : decode cX2_takeFirst 13 = .ok (.iload_n 1, 1) := by decide +kernel
theorem dX2_takeFirst_14 : decode cX2_takeFirst 14 = .ok (.iload_n 2, 1) := by decide +kernel
theorem dX2_takeFirst_15 : decode cX2_takeFirst 15 = .ok (.iconst 0, 1) := by decide +kernel
theorem dX2_takeFirst_16 : decode cX2_takeFirst 16 = .ok (.invokevirtual 92, 3) := by decide +kernel
theorem dX2_takeFirst_19 : decode cX2_takeFirst 19 = .ok (.iload_n 2, 1) := by decide +kernel
theorem dX2_takeFirst_20 : decode cX2_takeFirst 20 = .ok (.if_icmp .ne 4, 3) := by decide +kernel
theorem dX2_takeFirst_23 : decode cX2_takeFirst 23 = .ok (.return_, 1) := by decide +kernel
theorem dX2_takeFirst_24 : decode cX2_takeFirst 24 = .ok (.aload_n 0, 1) := by decide +kernel
theorem dX2_takeFirst_25 : decode cX2_takeFirst 25 = .ok (.iload_n 1, 1) := by decide +kernel
theorem dX2_takeFirst_26 : decode cX2_takeFirst 26 = .ok (.iload_n 2, 1) := by decide +kernel
theorem dX2_takeFirst_27 : decode cX2_takeFirst 27 = .ok (.invokevirtual 96, 3) := by decide +kernel
theorem dX2_takeFirst_30 : decode cX2_takeFirst 30 = .ok (.iload_n 1, 1) := by decide +kernel
theorem dX2_takeFirst_31 : decode cX2_takeFirst 31 = .ok (.istore_n 3, 1) := by decide +kernel
theorem dX2_takeFirst_32 : decode cX2_takeFirst 32 = .ok (.aload_n 0, 1) := by decide +kernel
theorem dX2_takeFirst_33 : decode cX2_takeFirst 33 = .ok (.iload_n 1, 1) := by decide +kernel
theorem dX2_takeFirst_34 : decode cX2_takeFirst 34 = .ok (.iload_n 2, 1) := by decide +kernel
theorem dX2_takeFirst_35 : decode cX2_takeFirst 35 = .ok (.iconst 1, 1) := by decide +kernel
theorem dX2_takeFirst_36 : decode cX2_takeFirst 36 = .ok (.invokevirtual 92, 3) := by decide +kernel
theorem dX2_takeFirst_39 : decode cX2_takeFirst 39 = .ok (.istore 4, 2) := by decide +kernel
theorem dX2_takeFirst_41 : decode cX2_takeFirst 41 = .ok (.iconst 0, 1) := by decide +kernel
theorem dX2_takeFirst_42 : decode cX2_takeFirst 42 = .ok (.istore 5, 2) := by decide +kernel
theorem dX2_takeFirst_44 : decode cX2_takeFirst 44 = .ok (.iload 5, 2) := by decide +kernel
theorem dX2_takeFirst_46 : decode cX2_takeFirst 46 = .ok (.aload_n 0, 1) := by decide +kernel
theorem dX2_takeFirst_47 : decode cX2_takeFirst 47 = .ok (.getfield 56, 3) := by decide +kernel
theorem dX2_takeFirst_50 : decode cX2_takeFirst 50 = .ok (.if_icmp .ge 52, 3) := by decide +kernel
theorem dX2_takeFirst_53 : decode cX2_takeFirst 53 = .ok (.iload 4, 2) := by decide +kernel
theorem dX2_takeFirst_55 : decode cX2_takeFirst 55 = .ok (.iconst (-1), 1) := by decide +kernel
theorem dX2_takeFirst_56 : decode cX2_takeFirst 56 = .ok (.if_icmp .eq 46, 3) := by decide +kernel
theorem dX2_takeFirst_59 : decode cX2_takeFirst 59 = .ok (.iload_n 3, 1) := by decide +kernel
theorem dX2_takeFirst_60 : decode cX2_takeFirst 60 = .ok (.iconst (-1), 1) := by decide +kernel
theorem dX2_takeFirst_61 : decode cX2_takeFirst 61 = .ok (.if_icmp .eq 41, 3) := by decide +kernel
theorem dX2_takeFirst_64 : decode cX2_takeFirst 64 = .ok (.aload_n 0, 1) := by decide +kernel
theorem dX2_takeFirst_65 : decode cX2_takeFirst 65 = .ok (.getfield 18, 3) := by decide +kernel
theorem dX2_takeFirst_68 : decode cX2_takeFirst 68 = .ok (.iload 4, 2) := by decide +kernel
theorem dX2_takeFirst_70 : decode cX2_takeFirst 70 = .ok (.iaload, 1) := by decide +kernel
theorem dX2_takeFirst_71 : decode cX2_takeFirst 71 = .ok (.istore 6, 2) := by decide +kernel
theorem dX2_takeFirst_73 : decode cX2_takeFirst 73 = .ok (.aload_n 0, 1) := by decide +kernel
theorem dX2_takeFirst_74 : decode cX2_takeFirst 74 = .ok (.getfield 30, 3) := by decide +kernel
theorem dX2_takeFirst_77 : decode cX2_takeFirst 77 = .ok (.iload 4, 2) := by decide +kernel
theorem dX2_takeFirst_79 : decode cX2_takeFirst 79 = .ok (.iaload, 1) := by decide +kernel
theorem dX2_takeFirst_80 : decode cX2_takeFirst 80 = .ok (.istore 7, 2) := by decide +kernel
theorem dX2_takeFirst_82 : decode cX2_takeFirst 82 = .ok (.aload_n 0, 1) := by decide +kernel
theorem dX2_takeFirst_83 : decode cX2_takeFirst 83 = .ok (.iload_n 3, 1) := by decide +kernel
theorem dX2_takeFirst_84 : decode cX2_takeFirst 84 = .ok (.iload 4, 2) := by decide +kernel
theorem dX2_takeFirst_86 : decode cX2_takeFirst 86 = .ok (.invokevirtual 60, 3) := by decide +kernel
theorem dX2_takeFirst_89 : decode cX2_takeFirst 89 = .ok (.iload 6, 2) := by decide +kernel
theorem dX2_takeFirst_91 : decode cX2_takeFirst 91 = .ok (.istore_n 3, 1) := by decide +kernel
theorem dX2_takeFirst_92 : decode cX2_takeFirst 92 = .ok (.iload 7, 2) := by decide +kernel
theorem dX2_takeFirst_94 : decode cX2_takeFirst 94 = .ok (.istore 4, 2) := by decide +kernel
theorem dX2_takeFirst_96 : decode cX2_takeFirst 96 = .ok (.iinc 5 1, 3) := by decide +kernel
theorem dX2_takeFirst_99 : decode cX2_takeFirst 99 = .ok (.goto (-55), 3) := by decide +kernel
theorem dX2_takeFirst_102 : decode cX2_takeFirst 102 = .ok (.return_, 1) := by decide +kernel
theorem dX2_firstTight_0 : decode cX2_firstTight 0 = .ok (.iconst 0, 1) := by decide +kernel
theorem dX2_firstTight_1 : decode cX2_firstTight 1 = .ok (.istore 4, 2) := by decide +kernel
theorem dX2_firstTight_3 : decode cX2_firstTight 3 = .ok (.iload 4, 2) := by decide +kernel
theorem dX2_firstTight_5 : decode cX2_firstTight 5 = .ok (.iload_n 2, 1) := by decide +kernel
theorem dX2_firstTight_6 : decode cX2_firstTight 6 = .ok (.if_icmp .ge 36, 3) := by decide +kernel
theorem dX2_firstTight_9 : decode cX2_firstTight 9 = .ok (.aload_n 0, 1) := by decide +kernel
theorem dX2_firstTight_10 : decode cX2_firstTight 10 = .ok (.getfield 36, 3) := by decide +kernel
theorem dX2_firstTight_13 : decode cX2_firstTight 13 = .ok (.iload 4, 2) := by decide +kernel
theorem dX2_firstTight_15 : decode cX2_firstTight 15 = .ok (.baload, 1) := by decide +kernel
theorem dX2_firstTight_16 : decode cX2_firstTight 16 = .ok (.ifCond .ne 7, 3) := by decide +kernel
theorem dX2_firstTight_19 : decode cX2_firstTight 19 = .ok (.iload_n 3, 1) := by decide +kernel
theorem dX2_firstTight_20 : decode cX2_firstTight 20 = .ok (.ifCond .ne 16, 3) := by decide +kernel
theorem dX2_firstTight_23 : decode cX2_firstTight 23 = .ok (.aload_n 0, 1) := by decide +kernel
theorem dX2_firstTight_24 : decode cX2_firstTight 24 = .ok (.iload_n 1, 1) := by decide +kernel
theorem dX2_firstTight_25 : decode cX2_firstTight 25 = .ok (.iload 4, 2) := by decide +kernel
theorem dX2_firstTight_27 : decode cX2_firstTight 27 = .ok (.invokevirtual 89, 3) := by decide +kernel
theorem dX2_firstTight_30 : decode cX2_firstTight 30 = .ok (.ifCond .ne 6, 3) := by decide +kernel
theorem dX2_firstTight_33 : decode cX2_firstTight 33 = .ok (.iload 4, 2) := by decide +kernel
theorem dX2_firstTight_35 : decode cX2_firstTight 35 = .ok (.ireturn, 1) := by decide +kernel
theorem dX2_firstTight_36 : decode cX2_firstTight 36 = .ok (.iinc 4 1, 3) := by decide +kernel
theorem dX2_firstTight_39 : decode cX2_firstTight 39 = .ok (.goto (-36), 3) := by decide +kernel
theorem dX2_firstTight_42 : decode cX2_firstTight 42 = .ok (.iload_n 2, 1) := by decide +kernel
theorem dX2_firstTight_43 : decode cX2_firstTight 43 = .ok (.ireturn, 1) := by decide +kernel
theorem dX2_findMovable_0 : decode cX2_findMovable 0 = .ok (.aload_n 0, 1) := by decide +kernel
theorem dX2_findMovable_1 : decode cX2_findMovable 1 = .ok (.invokevirtual 73, 3) := by decide +kernel
theorem dX2_findMovable_4 : decode cX2_findMovable 4 = .ok (.aload_n 0, 1) := by decide +kernel
theorem dX2_findMovable_5 : decode cX2_findMovable 5 = .ok (.getfield 36, 3) := by decide +kernel
theorem dX2_findMovable_8 : decode cX2_findMovable 8 = .ok (.iload_n 2, 1) := by decide +kernel
theorem dX2_findMovable_9 : decode cX2_findMovable 9 = .ok (.iconst 1, 1) := by decide +kernel
theorem dX2_findMovable_10 : decode cX2_findMovable 10 = .ok (.bastore, 1) := by decide +kernel
theorem dX2_findMovable_11 : decode cX2_findMovable 11 = .ok (.aload_n 0, 1) := by decide +kernel
theorem dX2_findMovable_12 : decode cX2_findMovable 12 = .ok (.getfield 33, 3) := by decide +kernel
theorem dX2_findMovable_15 : decode cX2_findMovable 15 = .ok (.iconst 0, 1) := by decide +kernel
theorem dX2_findMovable_16 : decode cX2_findMovable 16 = .ok (.iload_n 2, 1) := by decide +kernel
theorem dX2_findMovable_17 : decode cX2_findMovable 17 = .ok (.iastore, 1) := by decide +kernel
theorem dX2_findMovable_18 : decode cX2_findMovable 18 = .ok (.iconst 1, 1) := by decide +kernel
theorem dX2_findMovable_19 : decode cX2_findMovable 19 = .ok (.istore_n 3, 1) := by decide +kernel
theorem dX2_findMovable_20 : decode cX2_findMovable 20 = .ok (.iconst 0, 1) := by decide +kernel
theorem dX2_findMovable_21 : decode cX2_findMovable 21 = .ok (.istore 4, 2) := by decide +kernel
theorem dX2_findMovable_23 : decode cX2_findMovable 23 = .ok (.iload 4, 2) := by decide +kernel
theorem dX2_findMovable_25 : decode cX2_findMovable 25 = .ok (.iload_n 3, 1) := by decide +kernel
theorem dX2_findMovable_26 : decode cX2_findMovable 26 = .ok (.if_icmp .ge 120, 3) := by decide +kernel
theorem dX2_findMovable_29 : decode cX2_findMovable 29 = .ok (.iload 4, 2) := by decide +kernel
theorem dX2_findMovable_31 : decode cX2_findMovable 31 = .ok (.aload_n 0, 1) := by decide +kernel
theorem dX2_findMovable_32 : decode cX2_findMovable 32 = .ok (.getfield 56, 3) := by decide +kernel
theorem dX2_findMovable_35 : decode cX2_findMovable 35 = .ok (.if_icmp .ge 111, 3) := by decide +kernel
theorem dX2_findMovable_38 : decode cX2_findMovable 38 = .ok (.iload_n 1, 1) := by decide +kernel
theorem dX2_findMovable_39 : decode cX2_findMovable 39 = .ok (.iconst 1, 1) := by decide +kernel
theorem dX2_findMovable_40 : decode cX2_findMovable 40 = .ok (.iadd, 1) := by decide +kernel
theorem dX2_findMovable_41 : decode cX2_findMovable 41 = .ok (.istore 5, 2) := by decide +kernel
theorem dX2_findMovable_43 : decode cX2_findMovable 43 = .ok (.iload 5, 2) := by decide +kernel
theorem dX2_findMovable_45 : decode cX2_findMovable 45 = .ok (.aload_n 0, 1) := by decide +kernel
theorem dX2_findMovable_46 : decode cX2_findMovable 46 = .ok (.getfield 56, 3) := by decide +kernel
theorem dX2_findMovable_49 : decode cX2_findMovable 49 = .ok (.if_icmp .ge 91, 3) := by decide +kernel
theorem dX2_findMovable_52 : decode cX2_findMovable 52 = .ok (.iload_n 3, 1) := by decide +kernel
theorem dX2_findMovable_53 : decode cX2_findMovable 53 = .ok (.aload_n 0, 1) := by decide +kernel
theorem dX2_findMovable_54 : decode cX2_findMovable 54 = .ok (.getfield 56, 3) := by decide +kernel
theorem dX2_findMovable_57 : decode cX2_findMovable 57 = .ok (.if_icmp .ge 83, 3) := by decide +kernel
theorem dX2_findMovable_60 : decode cX2_findMovable 60 = .ok (.aload_n 0, 1) := by decide +kernel
theorem dX2_findMovable_61 : decode cX2_findMovable 61 = .ok (.getfield 15, 3) := by decide +kernel
theorem dX2_findMovable_64 : decode cX2_findMovable 64 = .ok (.iload 5, 2) := by decide +kernel
theorem dX2_findMovable_66 : decode cX2_findMovable 66 = .ok (.iaload, 1) := by decide +kernel
theorem dX2_findMovable_67 : decode cX2_findMovable 67 = .ok (.istore 6, 2) := by decide +kernel
theorem dX2_findMovable_69 : decode cX2_findMovable 69 = .ok (.iload 6, 2) := by decide +kernel
theorem dX2_findMovable_71 : decode cX2_findMovable 71 = .ok (.iconst (-1), 1) := by decide +kernel
theorem dX2_findMovable_72 : decode cX2_findMovable 72 = .ok (.if_icmp .eq 62, 3) := by decide +kernel
theorem dX2_findMovable_75 : decode cX2_findMovable 75 = .ok (.aload_n 0, 1) := by decide +kernel
theorem dX2_findMovable_76 : decode cX2_findMovable 76 = .ok (.getfield 36, 3) := by decide +kernel
theorem dX2_findMovable_79 : decode cX2_findMovable 79 = .ok (.iload 6, 2) := by decide +kernel
theorem dX2_findMovable_81 : decode cX2_findMovable 81 = .ok (.baload, 1) := by decide +kernel
theorem dX2_findMovable_82 : decode cX2_findMovable 82 = .ok (.ifCond .ne 52, 3) := by decide +kernel
theorem dX2_findMovable_85 : decode cX2_findMovable 85 = .ok (.aload_n 0, 1) := by decide +kernel
theorem dX2_findMovable_86 : decode cX2_findMovable 86 = .ok (.iload 5, 2) := by decide +kernel
theorem dX2_findMovable_88 : decode cX2_findMovable 88 = .ok (.aload_n 0, 1) := by decide +kernel
theorem dX2_findMovable_89 : decode cX2_findMovable 89 = .ok (.getfield 33, 3) := by decide +kernel
theorem dX2_findMovable_92 : decode cX2_findMovable 92 = .ok (.iload 4, 2) := by decide +kernel
theorem dX2_findMovable_94 : decode cX2_findMovable 94 = .ok (.iaload, 1) := by decide +kernel
theorem dX2_findMovable_95 : decode cX2_findMovable 95 = .ok (.invokevirtual 89, 3) := by decide +kernel
theorem dX2_findMovable_98 : decode cX2_findMovable 98 = .ok (.ifCond .ne 36, 3) := by decide +kernel
theorem dX2_findMovable_101 : decode cX2_findMovable 101 = .ok (.aload_n 0, 1) := by decide +kernel
theorem dX2_findMovable_102 : decode cX2_findMovable 102 = .ok (.getfield 36, 3) := by decide +kernel
theorem dX2_findMovable_105 : decode cX2_findMovable 105 = .ok (.iload 6, 2) := by decide +kernel
theorem dX2_findMovable_107 : decode cX2_findMovable 107 = .ok (.iconst 1, 1) := by decide +kernel
theorem dX2_findMovable_108 : decode cX2_findMovable 108 = .ok (.bastore, 1) := by decide +kernel
theorem dX2_findMovable_109 : decode cX2_findMovable 109 = .ok (.aload_n 0, 1) := by decide +kernel
theorem dX2_findMovable_110 : decode cX2_findMovable 110 = .ok (.getfield 30, 3) := by decide +kernel
theorem dX2_findMovable_113 : decode cX2_findMovable 113 = .ok (.iload 6, 2) := by decide +kernel
theorem dX2_findMovable_115 : decode cX2_findMovable 115 = .ok (.aload_n 0, 1) := by decide +kernel
theorem dX2_findMovable_116 : decode cX2_findMovable 116 = .ok (.getfield 33, 3) := by decide +kernel
theorem dX2_findMovable_119 : decode cX2_findMovable 119 = .ok (.iload 4, 2) := by decide +kernel
theorem dX2_findMovable_121 : decode cX2_findMovable 121 = .ok (.iaload, 1) := by decide +kernel
theorem dX2_findMovable_122 : decode cX2_findMovable 122 = .ok (.iastore, 1) := by decide +kernel
theorem dX2_findMovable_123 : decode cX2_findMovable 123 = .ok (.aload_n 0, 1) := by decide +kernel
theorem dX2_findMovable_124 : decode cX2_findMovable 124 = .ok (.getfield 33, 3) := by decide +kernel
theorem dX2_findMovable_127 : decode cX2_findMovable 127 = .ok (.iload_n 3, 1) := by decide +kernel
theorem dX2_findMovable_128 : decode cX2_findMovable 128 = .ok (.iload 6, 2) := by decide +kernel
theorem dX2_findMovable_130 : decode cX2_findMovable 130 = .ok (.iastore, 1) := by decide +kernel
theorem dX2_findMovable_131 : decode cX2_findMovable 131 = .ok (.iinc 3 1, 3) := by decide +kernel
theorem dX2_findMovable_134 : decode cX2_findMovable 134 = .ok (.iinc 5 1, 3) := by decide +kernel
theorem dX2_findMovable_137 : decode cX2_findMovable 137 = .ok (.goto (-94), 3) := by decide +kernel
theorem dX2_findMovable_140 : decode cX2_findMovable 140 = .ok (.iinc 4 1, 3) := by decide +kernel
theorem dX2_findMovable_143 : decode cX2_findMovable 143 = .ok (.goto (-120), 3) := by decide +kernel
theorem dX2_findMovable_146 : decode cX2_findMovable 146 = .ok (.return_, 1) := by decide +kernel
theorem dX3_init_0 : decode cX3_init 0 = .ok (.aload_n 0, 1) := by decide +kernel
theorem dX3_init_1 : decode cX3_init 1 = .ok (.invokespecial 1, 3) := by decide +kernel
theorem dX3_init_4 : decode cX3_init 4 = .ok (.aload_n 0, 1) := by decide +kernel
theorem dX3_init_5 : decode cX3_init 5 = .ok (.sipush 180, 3) := by decide +kernel
theorem dX3_init_8 : decode cX3_init 8 = .ok (.newarray .byte, 2) := by decide +kernel
theorem dX3_init_10 : decode cX3_init 10 = .ok (.putfield 9, 3) := by decide +kernel
theorem dX3_init_13 : decode cX3_init 13 = .ok (.return_, 1) := by decide +kernel
theorem dX3_length_0 : decode cX3_length 0 = .ok (.aload_n 0, 1) := by decide +kernel
theorem dX3_length_1 : decode cX3_length 1 = .ok (.getfield 13, 3) := by decide +kernel
theorem dX3_length_4 : decode cX3_length 4 = .ok (.ireturn, 1) := by decide +kernel
theorem dX3_hasRoom_0 : decode cX3_hasRoom 0 = .ok (.aload_n 0, 1) := by decide +kernel
theorem dX3_hasRoom_1 : decode cX3_hasRoom 1 = .ok (.getfield 13, 3) := by decide +kernel
theorem dX3_hasRoom_4 : decode cX3_hasRoom 4 = .ok (.iload_n 1, 1) := by decide +kernel
theorem dX3_hasRoom_5 : decode cX3_hasRoom 5 = .ok (.iadd, 1) := by decide +kernel
theorem dX3_hasRoom_6 : decode cX3_hasRoom 6 = .ok (.sipush 180, 3) := by decide +kernel
theorem dX3_hasRoom_9 : decode cX3_hasRoom 9 = .ok (.if_icmp .gt 7, 3) := by decide +kernel
theorem dX3_hasRoom_12 : decode cX3_hasRoom 12 = .ok (.iconst 1, 1) := by decide +kernel
theorem dX3_hasRoom_13 : decode cX3_hasRoom 13 = .ok (.goto 4, 3) := by decide +kernel
theorem dX3_hasRoom_16 : decode cX3_hasRoom 16 = .ok (.iconst 0, 1) := by decide +kernel
theorem dX3_hasRoom_17 : decode cX3_hasRoom 17 = .ok (.ireturn, 1) := by decide +kernel
theorem dX3_append_0 : decode cX3_append 0 = .ok (.aload_n 0, 1) := by decide +kernel
theorem dX3_append_1 : decode cX3_append 1 = .ok (.iconst 4, 1) := by decide +kernel
theorem dX3_append_2 : decode cX3_append 2 = .ok (.invokevirtual 17, 3) := by decide +kernel
theorem dX3_append_5 : decode cX3_append 5 = .ok (.ifCond .ne 4, 3) := by decide +kernel
theorem dX3_append_8 : decode cX3_append 8 = .ok (.return_, 1) := by decide +kernel
theorem dX3_append_9 : decode cX3_append 9 = .ok (.bipush 24, 2) := by decide +kernel
theorem dX3_append_11 : decode cX3_append 11 = .ok (.istore_n 2, 1) := by decide +kernel
theorem dX3_append_12 : decode cX3_append 12 = .ok (.iload_n 2, 1) := by decide +kernel
theorem dX3_append_13 : decode cX3_append 13 = .ok (.ifCond .lt 32, 3) := by decide +kernel
theorem dX3_append_16 : decode cX3_append 16 = .ok (.aload_n 0, 1) := by decide +kernel
theorem dX3_append_17 : decode cX3_append 17 = .ok (.getfield 9, 3) := by decide +kernel
theorem dX3_append_20 : decode cX3_append 20 = .ok (.aload_n 0, 1) := by decide +kernel
theorem dX3_append_21 : decode cX3_append 21 = .ok (.getfield 13, 3) := by decide +kernel
theorem dX3_append_24 : decode cX3_append 24 = .ok (.iload_n 1, 1) := by decide +kernel
theorem dX3_append_25 : decode cX3_append 25 = .ok (.iload_n 2, 1) := by decide +kernel
theorem dX3_append_26 : decode cX3_append 26 = .ok (.ishr, 1) := by decide +kernel
theorem dX3_append_27 : decode cX3_append 27 = .ok (.i2b, 1) := by decide +kernel
theorem dX3_append_28 : decode cX3_append 28 = .ok (.bastore, 1) := by decide +kernel
theorem dX3_append_29 : decode cX3_append 29 = .ok (.aload_n 0, 1) := by decide +kernel
theorem dX3_append_30 : decode cX3_append 30 = .ok (.dup, 1) := by decide +kernel
theorem dX3_append_31 : decode cX3_append 31 = .ok (.getfield 13, 3) := by decide +kernel
theorem dX3_append_34 : decode cX3_append 34 = .ok (.iconst 1, 1) := by decide +kernel
theorem dX3_append_35 : decode cX3_append 35 = .ok (.iadd, 1) := by decide +kernel
theorem dX3_append_36 : decode cX3_append 36 = .ok (.putfield 13, 3) := by decide +kernel
theorem dX3_append_39 : decode cX3_append 39 = .ok (.iinc 2 (-8), 3) := by decide +kernel
theorem dX3_append_42 : decode cX3_append 42 = .ok (.goto (-30), 3) := by decide +kernel
theorem dX3_append_45 : decode cX3_append 45 = .ok (.return_, 1) := by decide +kernel
theorem dX3_cut_0 : decode cX3_cut 0 = .ok (.iload_n 1, 1) := by decide +kernel
theorem dX3_cut_1 : decode cX3_cut 1 = .ok (.ifCond .lt 11, 3) := by decide +kernel
theorem dX3_cut_4 : decode cX3_cut 4 = .ok (.iload_n 1, 1) := by decide +kernel
theorem dX3_cut_5 : decode cX3_cut 5 = .ok (.aload_n 0, 1) := by decide +kernel
theorem dX3_cut_6 : decode cX3_cut 6 = .ok (.getfield 13, 3) := by decide +kernel
theorem dX3_cut_9 : decode cX3_cut 9 = .ok (.if_icmp .le 5, 3) := by decide +kernel
theorem dX3_cut_12 : decode cX3_cut 12 = .ok (.iconst 0, 1) := by decide +kernel
theorem dX3_cut_13 : decode cX3_cut 13 = .ok (.ireturn, 1) := by decide +kernel
theorem dX3_cut_14 : decode cX3_cut 14 = .ok (.aload_n 0, 1) := by decide +kernel
theorem dX3_cut_15 : decode cX3_cut 15 = .ok (.iload_n 1, 1) := by decide +kernel
theorem dX3_cut_16 : decode cX3_cut 16 = .ok (.putfield 13, 3) := by decide +kernel
theorem dX3_cut_19 : decode cX3_cut 19 = .ok (.iconst 1, 1) := by decide +kernel
theorem dX3_cut_20 : decode cX3_cut 20 = .ok (.ireturn, 1) := by decide +kernel
theorem dX3_byteAt_0 : decode cX3_byteAt 0 = .ok (.iload_n 1, 1) := by decide +kernel
theorem dX3_byteAt_1 : decode cX3_byteAt 1 = .ok (.ifCond .lt 20, 3) := by decide +kernel
theorem dX3_byteAt_4 : decode cX3_byteAt 4 = .ok (.iload_n 1, 1) := by decide +kernel
theorem dX3_byteAt_5 : decode cX3_byteAt 5 = .ok (.aload_n 0, 1) := by decide +kernel
theorem dX3_byteAt_6 : decode cX3_byteAt 6 = .ok (.getfield 13, 3) := by decide +kernel
theorem dX3_byteAt_9 : decode cX3_byteAt 9 = .ok (.if_icmp .ge 12, 3) := by decide +kernel
theorem dX3_byteAt_12 : decode cX3_byteAt 12 = .ok (.aload_n 0, 1) := by decide +kernel
theorem dX3_byteAt_13 : decode cX3_byteAt 13 = .ok (.getfield 9, 3) := by decide +kernel
theorem dX3_byteAt_16 : decode cX3_byteAt 16 = .ok (.iload_n 1, 1) := by decide +kernel
theorem dX3_byteAt_17 : decode cX3_byteAt 17 = .ok (.baload, 1) := by decide +kernel
theorem dX3_byteAt_18 : decode cX3_byteAt 18 = .ok (.goto 4, 3) := by decide +kernel
theorem dX3_byteAt_21 : decode cX3_byteAt 21 = .ok (.iconst 0, 1) := by decide +kernel
theorem dX3_byteAt_22 : decode cX3_byteAt 22 = .ok (.ireturn, 1) := by decide +kernel
theorem dX3_isBlank_0 : decode cX3_isBlank 0 = .ok (.aload_n 0, 1) := by decide +kernel
theorem dX3_isBlank_1 : decode cX3_isBlank 1 = .ok (.iload_n 1, 1) := by decide +kernel
theorem dX3_isBlank_2 : decode cX3_isBlank 2 = .ok (.invokevirtual 21, 3) := by decide +kernel
theorem dX3_isBlank_5 : decode cX3_isBlank 5 = .ok (.istore_n 2, 1) := by decide +kernel
theorem dX3_isBlank_6 : decode cX3_isBlank 6 = .ok (.iload_n 2, 1) := by decide +kernel
theorem dX3_isBlank_7 : decode cX3_isBlank 7 = .ok (.bipush 32, 2) := by decide +kernel
theorem dX3_isBlank_9 : decode cX3_isBlank 9 = .ok (.if_icmp .eq 9, 3) := by decide +kernel
theorem dX3_isBlank_12 : decode cX3_isBlank 12 = .ok (.iload_n 2, 1) := by decide +kernel
theorem dX3_isBlank_13 : decode cX3_isBlank 13 = .ok (.bipush 10, 2) := by decide +kernel
theorem dX3_isBlank_15 : decode cX3_isBlank 15 = .ok (.if_icmp .ne 7, 3) := by decide +kernel
theorem dX3_isBlank_18 : decode cX3_isBlank 18 = .ok (.iconst 1, 1) := by decide +kernel
theorem dX3_isBlank_19 : decode cX3_isBlank 19 = .ok (.goto 4, 3) := by decide +kernel
theorem dX3_isBlank_22 : decode cX3_isBlank 22 = .ok (.iconst 0, 1) := by decide +kernel
theorem dX3_isBlank_23 : decode cX3_isBlank 23 = .ok (.ireturn, 1) := by decide +kernel
theorem dX3_isLetter_0 : decode cX3_isLetter 0 = .ok (.aload_n 0, 1) := by decide +kernel
theorem dX3_isLetter_1 : decode cX3_isLetter 1 = .ok (.iload_n 1, 1) := by decide +kernel
theorem dX3_isLetter_2 : decode cX3_isLetter 2 = .ok (.invokevirtual 21, 3) := by decide +kernel
theorem dX3_isLetter_5 : decode cX3_isLetter 5 = .ok (.istore_n 2, 1) := by decide +kernel
theorem dX3_isLetter_6 : decode cX3_isLetter 6 = .ok (.iload_n 2, 1) := by decide +kernel
theorem dX3_isLetter_7 : decode cX3_isLetter 7 = .ok (.bipush 97, 2) := by decide +kernel
theorem dX3_isLetter_9 : decode cX3_isLetter 9 = .ok (.if_icmp .lt 13, 3) := by decide +kernel
theorem dX3_isLetter_12 : decode cX3_isLetter 12 = .ok (.iload_n 2, 1) := by decide +kernel
theorem dX3_isLetter_13 : decode cX3_isLetter 13 = .ok (.bipush 122, 2) := by decide +kernel
theorem dX3_isLetter_15 : decode cX3_isLetter 15 = .ok (.if_icmp .gt 7, 3) := by decide +kernel
theorem dX3_isLetter_18 : decode cX3_isLetter 18 = .ok (.iconst 1, 1) := by decide +kernel
theorem dX3_isLetter_19 : decode cX3_isLetter 19 = .ok (.goto 4, 3) := by decide +kernel
theorem dX3_isLetter_22 : decode cX3_isLetter 22 = .ok (.iconst 0, 1) := by decide +kernel
theorem dX3_isLetter_23 : decode cX3_isLetter 23 = .ok (.ireturn, 1) := by decide +kernel
theorem dX3_isDigit_0 : decode cX3_isDigit 0 = .ok (.aload_n 0, 1) := by decide +kernel
theorem dX3_isDigit_1 : decode cX3_isDigit 1 = .ok (.iload_n 1, 1) := by decide +kernel
theorem dX3_isDigit_2 : decode cX3_isDigit 2 = .ok (.invokevirtual 21, 3) := by decide +kernel
theorem dX3_isDigit_5 : decode cX3_isDigit 5 = .ok (.istore_n 2, 1) := by decide +kernel
theorem dX3_isDigit_6 : decode cX3_isDigit 6 = .ok (.iload_n 2, 1) := by decide +kernel
theorem dX3_isDigit_7 : decode cX3_isDigit 7 = .ok (.bipush 48, 2) := by decide +kernel
theorem dX3_isDigit_9 : decode cX3_isDigit 9 = .ok (.if_icmp .lt 13, 3) := by decide +kernel
theorem dX3_isDigit_12 : decode cX3_isDigit 12 = .ok (.iload_n 2, 1) := by decide +kernel
theorem dX3_isDigit_13 : decode cX3_isDigit 13 = .ok (.bipush 57, 2) := by decide +kernel
theorem dX3_isDigit_15 : decode cX3_isDigit 15 = .ok (.if_icmp .gt 7, 3) := by decide +kernel
theorem dX3_isDigit_18 : decode cX3_isDigit 18 = .ok (.iconst 1, 1) := by decide +kernel
theorem dX3_isDigit_19 : decode cX3_isDigit 19 = .ok (.goto 4, 3) := by decide +kernel
theorem dX3_isDigit_22 : decode cX3_isDigit 22 = .ok (.iconst 0, 1) := by decide +kernel
theorem dX3_isDigit_23 : decode cX3_isDigit 23 = .ok (.ireturn, 1) := by decide +kernel
theorem dX4_init_0 : decode cX4_init 0 = .ok (.aload_n 0, 1) := by decide +kernel
theorem dX4_init_1 : decode cX4_init 1 = .ok (.invokespecial 3, 3) := by decide +kernel
theorem dX4_init_4 : decode cX4_init 4 = .ok (.aload_n 0, 1) := by decide +kernel
theorem dX4_init_5 : decode cX4_init 5 = .ok (.iconst (-1), 1) := by decide +kernel
theorem dX4_init_6 : decode cX4_init 6 = .ok (.putfield 9, 3) := by decide +kernel
theorem dX4_init_9 : decode cX4_init 9 = .ok (.aload_n 0, 1) := by decide +kernel
theorem dX4_init_10 : decode cX4_init 10 = .ok (.bipush 100, 2) := by decide +kernel
theorem dX4_init_12 : decode cX4_init 12 = .ok (.newarray .boolean, 2) := by decide +kernel
theorem dX4_init_14 : decode cX4_init 14 = .ok (.putfield 15, 3) := by decide +kernel
theorem dX4_init_17 : decode cX4_init 17 = .ok (.aload_n 0, 1) := by decide +kernel
theorem dX4_init_18 : decode cX4_init 18 = .ok (.bipush 100, 2) := by decide +kernel
theorem dX4_init_20 : decode cX4_init 20 = .ok (.newarray .int, 2) := by decide +kernel
theorem dX4_init_22 : decode cX4_init 22 = .ok (.putfield 19, 3) := by decide +kernel
theorem dX4_init_25 : decode cX4_init 25 = .ok (.aload_n 0, 1) := by decide +kernel
theorem dX4_init_26 : decode cX4_init 26 = .ok (.iload_n 1, 1) := by decide +kernel
theorem dX4_init_27 : decode cX4_init 27 = .ok (.putfield 23, 3) := by decide +kernel
theorem dX4_init_30 : decode cX4_init 30 = .ok (.aload_n 0, 1) := by decide +kernel
theorem dX4_init_31 : decode cX4_init 31 = .ok (.iload_n 2, 1) := by decide +kernel
theorem dX4_init_32 : decode cX4_init 32 = .ok (.putfield 26, 3) := by decide +kernel
theorem dX4_init_35 : decode cX4_init 35 = .ok (.aload_n 0, 1) := by decide +kernel
theorem dX4_init_36 : decode cX4_init 36 = .ok (.iload_n 3, 1) := by decide +kernel
theorem dX4_init_37 : decode cX4_init 37 = .ok (.putfield 29, 3) := by decide +kernel
theorem dX4_init_40 : decode cX4_init 40 = .ok (.aload_n 0, 1) := by decide +kernel
theorem dX4_init_41 : decode cX4_init 41 = .ok (.iload 4, 2) := by decide +kernel
theorem dX4_init_43 : decode cX4_init 43 = .ok (.putfield 32, 3) := by decide +kernel
theorem dX4_init_46 : decode cX4_init 46 = .ok (.return_, 1) := by decide +kernel
theorem dX4_isAway_0 : decode cX4_isAway 0 = .ok (.iload_n 1, 1) := by decide +kernel
theorem dX4_isAway_1 : decode cX4_isAway 1 = .ok (.ifCond .lt 22, 3) := by decide +kernel
theorem dX4_isAway_4 : decode cX4_isAway 4 = .ok (.iload_n 1, 1) := by decide +kernel
theorem dX4_isAway_5 : decode cX4_isAway 5 = .ok (.bipush 99, 2) := by decide +kernel
theorem dX4_isAway_7 : decode cX4_isAway 7 = .ok (.if_icmp .gt 16, 3) := by decide +kernel
theorem dX4_isAway_10 : decode cX4_isAway 10 = .ok (.aload_n 0, 1) := by decide +kernel
theorem dX4_isAway_11 : decode cX4_isAway 11 = .ok (.getfield 15, 3) := by decide +kernel
theorem dX4_isAway_14 : decode cX4_isAway 14 = .ok (.iload_n 1, 1) := by decide +kernel
theorem dX4_isAway_15 : decode cX4_isAway 15 = .ok (.baload, 1) := by decide +kernel
theorem dX4_isAway_16 : decode cX4_isAway 16 = .ok (.ifCond .eq 7, 3) := by decide +kernel
theorem dX4_isAway_19 : decode cX4_isAway 19 = .ok (.iconst 1, 1) := by decide +kernel
theorem dX4_isAway_20 : decode cX4_isAway 20 = .ok (.goto 4, 3) := by decide +kernel
theorem dX4_isAway_23 : decode cX4_isAway 23 = .ok (.iconst 0, 1) := by decide +kernel
theorem dX4_isAway_24 : decode cX4_isAway 24 = .ok (.ireturn, 1) := by decide +kernel
theorem dX4_setAway_0 : decode cX4_setAway 0 = .ok (.iload_n 1, 1) := by decide +kernel
theorem dX4_setAway_1 : decode cX4_setAway 1 = .ok (.ifCond .lt 19, 3) := by decide +kernel
theorem dX4_setAway_4 : decode cX4_setAway 4 = .ok (.iload_n 1, 1) := by decide +kernel
theorem dX4_setAway_5 : decode cX4_setAway 5 = .ok (.bipush 99, 2) := by decide +kernel
theorem dX4_setAway_7 : decode cX4_setAway 7 = .ok (.if_icmp .gt 13, 3) := by decide +kernel
theorem dX4_setAway_10 : decode cX4_setAway 10 = .ok (.aload_n 0, 1) := by decide +kernel
theorem dX4_setAway_11 : decode cX4_setAway 11 = .ok (.getfield 15, 3) := by decide +kernel
theorem dX4_setAway_14 : decode cX4_setAway 14 = .ok (.iload_n 1, 1) := by decide +kernel
theorem dX4_setAway_15 : decode cX4_setAway 15 = .ok (.baload, 1) := by decide +kernel
theorem dX4_setAway_16 : decode cX4_setAway 16 = .ok (.iload_n 2, 1) := by decide +kernel
theorem dX4_setAway_17 : decode cX4_setAway 17 = .ok (.if_icmp .ne 5, 3) := by decide +kernel
theorem dX4_setAway_20 : decode cX4_setAway 20 = .ok (.iconst 0, 1) := by decide +kernel
theorem dX4_setAway_21 : decode cX4_setAway 21 = .ok (.ireturn, 1) := by decide +kernel
theorem dX4_setAway_22 : decode cX4_setAway 22 = .ok (.aload_n 0, 1) := by decide +kernel
theorem dX4_setAway_23 : decode cX4_setAway 23 = .ok (.getfield 15, 3) := by decide +kernel
theorem dX4_setAway_26 : decode cX4_setAway 26 = .ok (.iload_n 1, 1) := by decide +kernel
theorem dX4_setAway_27 : decode cX4_setAway 27 = .ok (.iload_n 2, 1) := by decide +kernel
theorem dX4_setAway_28 : decode cX4_setAway 28 = .ok (.bastore, 1) := by decide +kernel
theorem dX4_setAway_29 : decode cX4_setAway 29 = .ok (.iconst 1, 1) := by decide +kernel
theorem dX4_setAway_30 : decode cX4_setAway 30 = .ok (.ireturn, 1) := by decide +kernel
theorem dX4_clubsIn_0 : decode cX4_clubsIn 0 = .ok (.iload_n 1, 1) := by decide +kernel
theorem dX4_clubsIn_1 : decode cX4_clubsIn 1 = .ok (.ifCond .lt 18, 3) := by decide +kernel
theorem dX4_clubsIn_4 : decode cX4_clubsIn 4 = .ok (.iload_n 1, 1) := by decide +kernel
theorem dX4_clubsIn_5 : decode cX4_clubsIn 5 = .ok (.bipush 99, 2) := by decide +kernel
theorem dX4_clubsIn_7 : decode cX4_clubsIn 7 = .ok (.if_icmp .gt 12, 3) := by decide +kernel
theorem dX4_clubsIn_10 : decode cX4_clubsIn 10 = .ok (.aload_n 0, 1) := by decide +kernel
theorem dX4_clubsIn_11 : decode cX4_clubsIn 11 = .ok (.getfield 19, 3) := by decide +kernel
theorem dX4_clubsIn_14 : decode cX4_clubsIn 14 = .ok (.iload_n 1, 1) := by decide +kernel
theorem dX4_clubsIn_15 : decode cX4_clubsIn 15 = .ok (.iaload, 1) := by decide +kernel
theorem dX4_clubsIn_16 : decode cX4_clubsIn 16 = .ok (.goto 4, 3) := by decide +kernel
theorem dX4_clubsIn_19 : decode cX4_clubsIn 19 = .ok (.iconst 0, 1) := by decide +kernel
theorem dX4_clubsIn_20 : decode cX4_clubsIn 20 = .ok (.ireturn, 1) := by decide +kernel
theorem dX4_stand_0 : decode cX4_stand 0 = .ok (.iload_n 1, 1) := by decide +kernel
theorem dX4_stand_1 : decode cX4_stand 1 = .ok (.ifCond .lt 26, 3) := by decide +kernel
theorem dX4_stand_4 : decode cX4_stand 4 = .ok (.iload_n 1, 1) := by decide +kernel
theorem dX4_stand_5 : decode cX4_stand 5 = .ok (.bipush 99, 2) := by decide +kernel
theorem dX4_stand_7 : decode cX4_stand 7 = .ok (.if_icmp .gt 20, 3) := by decide +kernel
theorem dX4_stand_10 : decode cX4_stand 10 = .ok (.aload_n 0, 1) := by decide +kernel
theorem dX4_stand_11 : decode cX4_stand 11 = .ok (.getfield 19, 3) := by decide +kernel
theorem dX4_stand_14 : decode cX4_stand 14 = .ok (.iload_n 1, 1) := by decide +kernel
theorem dX4_stand_15 : decode cX4_stand 15 = .ok (.iload_n 2, 1) := by decide +kernel
theorem dX4_stand_16 : decode cX4_stand 16 = .ok (.iastore, 1) := by decide +kernel
theorem dX4_stand_17 : decode cX4_stand 17 = .ok (.aload_n 0, 1) := by decide +kernel
theorem dX4_stand_18 : decode cX4_stand 18 = .ok (.dup, 1) := by decide +kernel
theorem dX4_stand_19 : decode cX4_stand 19 = .ok (.getfield 35, 3) := by decide +kernel
theorem dX4_stand_22 : decode cX4_stand 22 = .ok (.iconst 1, 1) := by decide +kernel
theorem dX4_stand_23 : decode cX4_stand 23 = .ok (.iadd, 1) := by decide +kernel
theorem dX4_stand_24 : decode cX4_stand 24 = .ok (.putfield 35, 3) := by decide +kernel
theorem dX4_stand_27 : decode cX4_stand 27 = .ok (.return_, 1) := by decide +kernel
theorem dX4_stoodInAll_0 : decode cX4_stoodInAll 0 = .ok (.iload_n 1, 1) := by decide +kernel
theorem dX4_stoodInAll_1 : decode cX4_stoodInAll 1 = .ok (.iload_n 2, 1) := by decide +kernel
theorem dX4_stoodInAll_2 : decode cX4_stoodInAll 2 = .ok (.if_icmp .ge 5, 3) := by decide +kernel
theorem dX4_stoodInAll_5 : decode cX4_stoodInAll 5 = .ok (.iconst 0, 1) := by decide +kernel
theorem dX4_stoodInAll_6 : decode cX4_stoodInAll 6 = .ok (.ireturn, 1) := by decide +kernel
theorem dX4_stoodInAll_7 : decode cX4_stoodInAll 7 = .ok (.iload_n 1, 1) := by decide +kernel
theorem dX4_stoodInAll_8 : decode cX4_stoodInAll 8 = .ok (.iload_n 2, 1) := by decide +kernel
theorem dX4_stoodInAll_9 : decode cX4_stoodInAll 9 = .ok (.isub, 1) := by decide +kernel
theorem dX4_stoodInAll_10 : decode cX4_stoodInAll 10 = .ok (.istore_n 3, 1) := by decide +kernel
theorem dX4_stoodInAll_11 : decode cX4_stoodInAll 11 = .ok (.iload_n 3, 1) := by decide +kernel
theorem dX4_stoodInAll_12 : decode cX4_stoodInAll 12 = .ok (.iload_n 1, 1) := by decide +kernel
theorem dX4_stoodInAll_13 : decode cX4_stoodInAll 13 = .ok (.if_icmp .ge 19, 3) := by decide +kernel
theorem dX4_stoodInAll_16 : decode cX4_stoodInAll 16 = .ok (.aload_n 0, 1) := by decide +kernel
theorem dX4_stoodInAll_17 : decode cX4_stoodInAll 17 = .ok (.iload_n 3, 1) := by decide +kernel
theorem dX4_stoodInAll_18 : decode cX4_stoodInAll 18 = .ok (.invokevirtual 38, 3) := by decide +kernel
theorem dX4_stoodInAll_21 : decode cX4_stoodInAll 21 = .ok (.ifCond .ne 5, 3) := by decide +kernel
theorem dX4_stoodInAll_24 : decode cX4_stoodInAll 24 = .ok (.iconst 0, 1) := by decide +kernel
theorem dX4_stoodInAll_25 : decode cX4_stoodInAll 25 = .ok (.ireturn, 1) := by decide +kernel
theorem dX4_stoodInAll_26 : decode cX4_stoodInAll 26 = .ok (.iinc 3 1, 3) := by decide +kernel
theorem dX4_stoodInAll_29 : decode cX4_stoodInAll 29 = .ok (.goto (-18), 3) := by decide +kernel
theorem dX4_stoodInAll_32 : decode cX4_stoodInAll 32 = .ok (.iconst 1, 1) := by decide +kernel
theorem dX4_stoodInAll_33 : decode cX4_stoodInAll 33 = .ok (.ireturn, 1) := by decide +kernel
theorem dX4_stoodWith_0 : decode cX4_stoodWith 0 = .ok (.iload_n 2, 1) := by decide +kernel
theorem dX4_stoodWith_1 : decode cX4_stoodWith 1 = .ok (.iload_n 3, 1) := by decide +kernel
theorem dX4_stoodWith_2 : decode cX4_stoodWith 2 = .ok (.isub, 1) := by decide +kernel
theorem dX4_stoodWith_3 : decode cX4_stoodWith 3 = .ok (.istore 4, 2) := by decide +kernel
theorem dX4_stoodWith_5 : decode cX4_stoodWith 5 = .ok (.iload 4, 2) := by decide +kernel
theorem dX4_stoodWith_7 : decode cX4_stoodWith 7 = .ok (.iload_n 2, 1) := by decide +kernel
theorem dX4_stoodWith_8 : decode cX4_stoodWith 8 = .ok (.if_icmp .ge 22, 3) := by decide +kernel
theorem dX4_stoodWith_11 : decode cX4_stoodWith 11 = .ok (.aload_n 0, 1) := by decide +kernel
theorem dX4_stoodWith_12 : decode cX4_stoodWith 12 = .ok (.iload 4, 2) := by decide +kernel
theorem dX4_stoodWith_14 : decode cX4_stoodWith 14 = .ok (.invokevirtual 38, 3) := by decide +kernel
theorem dX4_stoodWith_17 : decode cX4_stoodWith 17 = .ok (.iload_n 1, 1) := by decide +kernel
theorem dX4_stoodWith_18 : decode cX4_stoodWith 18 = .ok (.iand, 1) := by decide +kernel
theorem dX4_stoodWith_19 : decode cX4_stoodWith 19 = .ok (.ifCond .eq 5, 3) := by decide +kernel
theorem dX4_stoodWith_22 : decode cX4_stoodWith 22 = .ok (.iconst 1, 1) := by decide +kernel
theorem dX4_stoodWith_23 : decode cX4_stoodWith 23 = .ok (.ireturn, 1) := by decide +kernel
theorem dX4_stoodWith_24 : decode cX4_stoodWith 24 = .ok (.iinc 4 1, 3) := by decide +kernel
theorem dX4_stoodWith_27 : decode cX4_stoodWith 27 = .ok (.goto (-22), 3) := by decide +kernel
theorem dX4_stoodWith_30 : decode cX4_stoodWith 30 = .ok (.iconst 0, 1) := by decide +kernel
theorem dX4_stoodWith_31 : decode cX4_stoodWith 31 = .ok (.ireturn, 1) := by decide +kernel
theorem dX4_addMarks_0 : decode cX4_addMarks 0 = .ok (.aload_n 0, 1) := by decide +kernel
theorem dX4_addMarks_1 : decode cX4_addMarks 1 = .ok (.dup, 1) := by decide +kernel
theorem dX4_addMarks_2 : decode cX4_addMarks 2 = .ok (.getfield 42, 3) := by decide +kernel
theorem dX4_addMarks_5 : decode cX4_addMarks 5 = .ok (.iconst 1, 1) := by decide +kernel
theorem dX4_addMarks_6 : decode cX4_addMarks 6 = .ok (.iadd, 1) := by decide +kernel
theorem dX4_addMarks_7 : decode cX4_addMarks 7 = .ok (.putfield 42, 3) := by decide +kernel
theorem dX4_addMarks_10 : decode cX4_addMarks 10 = .ok (.aload_n 0, 1) := by decide +kernel
theorem dX4_addMarks_11 : decode cX4_addMarks 11 = .ok (.dup, 1) := by decide +kernel
theorem dX4_addMarks_12 : decode cX4_addMarks 12 = .ok (.getfield 45, 3) := by decide +kernel
theorem dX4_addMarks_15 : decode cX4_addMarks 15 = .ok (.iload_n 2, 1) := by decide +kernel
theorem dX4_addMarks_16 : decode cX4_addMarks 16 = .ok (.iadd, 1) := by decide +kernel
theorem dX4_addMarks_17 : decode cX4_addMarks 17 = .ok (.putfield 45, 3) := by decide +kernel
theorem dX4_addMarks_20 : decode cX4_addMarks 20 = .ok (.aload_n 0, 1) := by decide +kernel
theorem dX4_addMarks_21 : decode cX4_addMarks 21 = .ok (.dup, 1) := by decide +kernel
theorem dX4_addMarks_22 : decode cX4_addMarks 22 = .ok (.getfield 48, 3) := by decide +kernel
theorem dX4_addMarks_25 : decode cX4_addMarks 25 = .ok (.iload_n 1, 1) := by decide +kernel
theorem dX4_addMarks_26 : decode cX4_addMarks 26 = .ok (.iload_n 2, 1) := by decide +kernel
theorem dX4_addMarks_27 : decode cX4_addMarks 27 = .ok (.imul, 1) := by decide +kernel
theorem dX4_addMarks_28 : decode cX4_addMarks 28 = .ok (.iadd, 1) := by decide +kernel
theorem dX4_addMarks_29 : decode cX4_addMarks 29 = .ok (.putfield 48, 3) := by decide +kernel
theorem dX4_addMarks_32 : decode cX4_addMarks 32 = .ok (.return_, 1) := by decide +kernel
theorem dX4_giveGrade_0 : decode cX4_giveGrade 0 = .ok (.aload_n 0, 1) := by decide +kernel
theorem dX4_giveGrade_1 : decode cX4_giveGrade 1 = .ok (.iload_n 1, 1) := by decide +kernel
theorem dX4_giveGrade_2 : decode cX4_giveGrade 2 = .ok (.putfield 29, 3) := by decide +kernel
theorem dX4_giveGrade_5 : decode cX4_giveGrade 5 = .ok (.aload_n 0, 1) := by decide +kernel
theorem dX4_giveGrade_6 : decode cX4_giveGrade 6 = .ok (.iconst 0, 1) := by decide +kernel
theorem dX4_giveGrade_7 : decode cX4_giveGrade 7 = .ok (.putfield 42, 3) := by decide +kernel
theorem dX4_giveGrade_10 : decode cX4_giveGrade 10 = .ok (.aload_n 0, 1) := by decide +kernel
theorem dX4_giveGrade_11 : decode cX4_giveGrade 11 = .ok (.iconst 0, 1) := by decide +kernel
theorem dX4_giveGrade_12 : decode cX4_giveGrade 12 = .ok (.putfield 45, 3) := by decide +kernel
theorem dX4_giveGrade_15 : decode cX4_giveGrade 15 = .ok (.aload_n 0, 1) := by decide +kernel
theorem dX4_giveGrade_16 : decode cX4_giveGrade 16 = .ok (.iconst 0, 1) := by decide +kernel
theorem dX4_giveGrade_17 : decode cX4_giveGrade 17 = .ok (.putfield 48, 3) := by decide +kernel
theorem dX4_giveGrade_20 : decode cX4_giveGrade 20 = .ok (.return_, 1) := by decide +kernel
