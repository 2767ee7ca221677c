theorem dX5_init_0 : decode cX5_init 0 = .ok (.aload_n 0, 1) := by decide +kernel
theorem dX5_init_1 : decode cX5_init 1 = .ok (.invokespecial 1, 3) := by decide +kernel
theorem dX5_init_4 : decode cX5_init 4 = .ok (.aload_n 0, 1) := by decide +kernel
theorem dX5_init_5 : decode cX5_init 5 = .ok (.new 7, 3) := by decide +kernel
theorem dX5_init_8 : decode cX5_init 8 = .ok (.dup, 1) := by decide +kernel
theorem dX5_init_9 : decode cX5_init 9 = .ok (.invokespecial 9, 3) := by decide +kernel
theorem dX5_init_12 : decode cX5_init 12 = .ok (.putfield 10, 3) := by decide +kernel
theorem dX5_init_15 : decode cX5_init 15 = .ok (.aload_n 0, 1) := by decide +kernel
theorem dX5_init_16 : decode cX5_init 16 = .ok (.new 16, 3) := by decide +kernel
theorem dX5_init_19 : decode cX5_init 19 = .ok (.dup, 1) := by decide +kernel
theorem dX5_init_20 : decode cX5_init 20 = .ok (.invokespecial 18, 3) := by decide +kernel
theorem dX5_init_23 : decode cX5_init 23 = .ok (.putfield 19, 3) := by decide +kernel
theorem dX5_init_26 : decode cX5_init 26 = .ok (.aload_n 0, 1) := by decide +kernel
theorem dX5_init_27 : decode cX5_init 27 = .ok (.bipush 20, 2) := by decide +kernel
theorem dX5_init_29 : decode cX5_init 29 = .ok (.anewarray 23, 3) := by decide +kernel
theorem dX5_init_32 : decode cX5_init 32 = .ok (.putfield 25, 3) := by decide +kernel
theorem dX5_init_35 : decode cX5_init 35 = .ok (.aload_n 0, 1) := by decide +kernel
theorem dX5_init_36 : decode cX5_init 36 = .ok (.bipush 8, 2) := by decide +kernel
theorem dX5_init_38 : decode cX5_init 38 = .ok (.anewarray 29, 3) := by decide +kernel
theorem dX5_init_41 : decode cX5_init 41 = .ok (.putfield 31, 3) := by decide +kernel
theorem dX5_init_44 : decode cX5_init 44 = .ok (.iconst 0, 1) := by decide +kernel
theorem dX5_init_45 : decode cX5_init 45 = .ok (.istore_n 1, 1) := by decide +kernel
theorem dX5_init_46 : decode cX5_init 46 = .ok (.iload_n 1, 1) := by decide +kernel
theorem dX5_init_47 : decode cX5_init 47 = .ok (.bipush 8, 2) := by decide +kernel
theorem dX5_init_49 : decode cX5_init 49 = .ok (.if_icmp .ge 22, 3) := by decide +kernel
theorem dX5_init_52 : decode cX5_init 52 = .ok (.aload_n 0, 1) := by decide +kernel
theorem dX5_init_53 : decode cX5_init 53 = .ok (.getfield 31, 3) := by decide +kernel
theorem dX5_init_56 : decode cX5_init 56 = .ok (.iload_n 1, 1) := by decide +kernel
theorem dX5_init_57 : decode cX5_init 57 = .ok (.new 29, 3) := by decide +kernel
theorem dX5_init_60 : decode cX5_init 60 = .ok (.dup, 1) := by decide +kernel
theorem dX5_init_61 : decode cX5_init 61 = .ok (.invokespecial 35, 3) := by decide +kernel
theorem dX5_init_64 : decode cX5_init 64 = .ok (.aastore, 1) := by decide +kernel
theorem dX5_init_65 : decode cX5_init 65 = .ok (.iinc 1 1, 3) := by decide +kernel
theorem dX5_init_68 : decode cX5_init 68 = .ok (.goto (-22), 3) := by decide +kernel
theorem dX5_init_71 : decode cX5_init 71 = .ok (.aload_n 0, 1) := by decide +kernel
theorem dX5_init_72 : decode cX5_init 72 = .ok (.bipush 16, 2) := by decide +kernel
theorem dX5_init_74 : decode cX5_init 74 = .ok (.newarray .int, 2) := by decide +kernel
theorem dX5_init_76 : decode cX5_init 76 = .ok (.putfield 36, 3) := by decide +kernel
theorem dX5_init_79 : decode cX5_init 79 = .ok (.iconst 0, 1) := by decide +kernel
theorem dX5_init_80 : decode cX5_init 80 = .ok (.istore_n 1, 1) := by decide +kernel
theorem dX5_init_81 : decode cX5_init 81 = .ok (.iload_n 1, 1) := by decide +kernel
theorem dX5_init_82 : decode cX5_init 82 = .ok (.bipush 16, 2) := by decide +kernel
theorem dX5_init_84 : decode cX5_init 84 = .ok (.if_icmp .ge 16, 3) := by decide +kernel
theorem dX5_init_87 : decode cX5_init 87 = .ok (.aload_n 0, 1) := by decide +kernel
theorem dX5_init_88 : decode cX5_init 88 = .ok (.getfield 36, 3) := by decide +kernel
theorem dX5_init_91 : decode cX5_init 91 = .ok (.iload_n 1, 1) := by decide +kernel
theorem dX5_init_92 : decode cX5_init 92 = .ok (.iconst (-1), 1) := by decide +kernel
theorem dX5_init_93 : decode cX5_init 93 = .ok (.iastore, 1) := by decide +kernel
theorem dX5_init_94 : decode cX5_init 94 = .ok (.iinc 1 1, 3) := by decide +kernel
theorem dX5_init_97 : decode cX5_init 97 = .ok (.goto (-16), 3) := by decide +kernel
theorem dX5_init_100 : decode cX5_init 100 = .ok (.aload_n 0, 1) := by decide +kernel
theorem dX5_init_101 : decode cX5_init 101 = .ok (.new 40, 3) := by decide +kernel
theorem dX5_init_104 : decode cX5_init 104 = .ok (.dup, 1) := by decide +kernel
theorem dX5_init_105 : decode cX5_init 105 = .ok (.invokespecial 42, 3) := by decide +kernel
theorem dX5_init_108 : decode cX5_init 108 = .ok (.putfield 43, 3) := by decide +kernel
theorem dX5_init_111 : decode cX5_init 111 = .ok (.return_, 1) := by decide +kernel
theorem dX5_feed_0 : decode cX5_feed 0 = .ok (.aload_n 0, 1) := by decide +kernel
theorem dX5_feed_1 : decode cX5_feed 1 = .ok (.getfield 10, 3) := by decide +kernel
theorem dX5_feed_4 : decode cX5_feed 4 = .ok (.bipush 20, 2) := by decide +kernel
theorem dX5_feed_6 : decode cX5_feed 6 = .ok (.invokevirtual 47, 3) := by decide +kernel
theorem dX5_feed_9 : decode cX5_feed 9 = .ok (.ifCond .ne 5, 3) := by decide +kernel
theorem dX5_feed_12 : decode cX5_feed 12 = .ok (.iconst (-1), 1) := by decide +kernel
theorem dX5_feed_13 : decode cX5_feed 13 = .ok (.ireturn, 1) := by decide +kernel
theorem dX5_feed_14 : decode cX5_feed 14 = .ok (.aload_n 0, 1) := by decide +kernel
theorem dX5_feed_15 : decode cX5_feed 15 = .ok (.getfield 10, 3) := by decide +kernel
theorem dX5_feed_18 : decode cX5_feed 18 = .ok (.iload_n 1, 1) := by decide +kernel
theorem dX5_feed_19 : decode cX5_feed 19 = .ok (.invokevirtual 51, 3) := by decide +kernel
theorem dX5_feed_22 : decode cX5_feed 22 = .ok (.aload_n 0, 1) := by decide +kernel
theorem dX5_feed_23 : decode cX5_feed 23 = .ok (.getfield 10, 3) := by decide +kernel
theorem dX5_feed_26 : decode cX5_feed 26 = .ok (.iload_n 2, 1) := by decide +kernel
theorem dX5_feed_27 : decode cX5_feed 27 = .ok (.invokevirtual 51, 3) := by decide +kernel
theorem dX5_feed_30 : decode cX5_feed 30 = .ok (.aload_n 0, 1) := by decide +kernel
theorem dX5_feed_31 : decode cX5_feed 31 = .ok (.getfield 10, 3) := by decide +kernel
theorem dX5_feed_34 : decode cX5_feed 34 = .ok (.iload_n 3, 1) := by decide +kernel
theorem dX5_feed_35 : decode cX5_feed 35 = .ok (.invokevirtual 51, 3) := by decide +kernel
theorem dX5_feed_38 : decode cX5_feed 38 = .ok (.aload_n 0, 1) := by decide +kernel
theorem dX5_feed_39 : decode cX5_feed 39 = .ok (.getfield 10, 3) := by decide +kernel
theorem dX5_feed_42 : decode cX5_feed 42 = .ok (.iload 4, 2) := by decide +kernel
theorem dX5_feed_44 : decode cX5_feed 44 = .ok (.invokevirtual 51, 3) := by decide +kernel
theorem dX5_feed_47 : decode cX5_feed 47 = .ok (.aload_n 0, 1) := by decide +kernel
theorem dX5_feed_48 : decode cX5_feed 48 = .ok (.getfield 10, 3) := by decide +kernel
theorem dX5_feed_51 : decode cX5_feed 51 = .ok (.iload 5, 2) := by decide +kernel
theorem dX5_feed_53 : decode cX5_feed 53 = .ok (.invokevirtual 51, 3) := by decide +kernel
theorem dX5_feed_56 : decode cX5_feed 56 = .ok (.aload_n 0, 1) := by decide +kernel
theorem dX5_feed_57 : decode cX5_feed 57 = .ok (.getfield 10, 3) := by decide +kernel
theorem dX5_feed_60 : decode cX5_feed 60 = .ok (.invokevirtual 55, 3) := by decide +kernel
theorem dX5_feed_63 : decode cX5_feed 63 = .ok (.ireturn, 1) := by decide +kernel
theorem dX5_end_0 : decode cX5_end 0 = .ok (.aload_n 0, 1) := by decide +kernel
theorem dX5_end_1 : decode cX5_end 1 = .ok (.getfield 10, 3) := by decide +kernel
theorem dX5_end_4 : decode cX5_end 4 = .ok (.iload_n 1, 1) := by decide +kernel
theorem dX5_end_5 : decode cX5_end 5 = .ok (.invokevirtual 59, 3) := by decide +kernel
theorem dX5_end_8 : decode cX5_end 8 = .ok (.ireturn, 1) := by decide +kernel
theorem dX5_rules_0 : decode cX5_rules 0 = .ok (.aload_n 0, 1) := by decide +kernel
theorem dX5_rules_1 : decode cX5_rules 1 = .ok (.getfield 19, 3) := by decide +kernel
theorem dX5_rules_4 : decode cX5_rules 4 = .ok (.aload_n 0, 1) := by decide +kernel
theorem dX5_rules_5 : decode cX5_rules 5 = .ok (.getfield 10, 3) := by decide +kernel
theorem dX5_rules_8 : decode cX5_rules 8 = .ok (.invokevirtual 62, 3) := by decide +kernel
theorem dX5_rules_11 : decode cX5_rules 11 = .ok (.istore_n 1, 1) := by decide +kernel
theorem dX5_rules_12 : decode cX5_rules 12 = .ok (.aload_n 0, 1) := by decide +kernel
theorem dX5_rules_13 : decode cX5_rules 13 = .ok (.getfield 10, 3) := by decide +kernel
theorem dX5_rules_16 : decode cX5_rules 16 = .ok (.iconst 0, 1) := by decide +kernel
theorem dX5_rules_17 : decode cX5_rules 17 = .ok (.invokevirtual 59, 3) := by decide +kernel
theorem dX5_rules_20 : decode cX5_rules 20 = .ok (.pop, 1) := by decide +kernel
theorem dX5_rules_21 : decode cX5_rules 21 = .ok (.iload_n 1, 1) := by decide +kernel
theorem dX5_rules_22 : decode cX5_rules 22 = .ok (.ireturn, 1) := by decide +kernel
theorem dX5_fault_0 : decode cX5_fault 0 = .ok (.aload_n 0, 1) := by decide +kernel
theorem dX5_fault_1 : decode cX5_fault 1 = .ok (.getfield 19, 3) := by decide +kernel
theorem dX5_fault_4 : decode cX5_fault 4 = .ok (.invokevirtual 66, 3) := by decide +kernel
theorem dX5_fault_7 : decode cX5_fault 7 = .ok (.ireturn, 1) := by decide +kernel
theorem dX5_rule_0 : decode cX5_rule 0 = .ok (.aload_n 0, 1) := by decide +kernel
theorem dX5_rule_1 : decode cX5_rule 1 = .ok (.getfield 19, 3) := by decide +kernel
theorem dX5_rule_4 : decode cX5_rule 4 = .ok (.iload_n 1, 1) := by decide +kernel
theorem dX5_rule_5 : decode cX5_rule 5 = .ok (.invokevirtual 69, 3) := by decide +kernel
theorem dX5_rule_8 : decode cX5_rule 8 = .ok (.ireturn, 1) := by decide +kernel
theorem dX5_umpire_0 : decode cX5_umpire 0 = .ok (.aload_n 0, 1) := by decide +kernel
theorem dX5_umpire_1 : decode cX5_umpire 1 = .ok (.getfield 73, 3) := by decide +kernel
theorem dX5_umpire_4 : decode cX5_umpire 4 = .ok (.bipush 20, 2) := by decide +kernel
theorem dX5_umpire_6 : decode cX5_umpire 6 = .ok (.if_icmp .ge 11, 3) := by decide +kernel
theorem dX5_umpire_9 : decode cX5_umpire 9 = .ok (.iload_n 1, 1) := by decide +kernel
theorem dX5_umpire_10 : decode cX5_umpire 10 = .ok (.iload_n 2, 1) := by decide +kernel
theorem dX5_umpire_11 : decode cX5_umpire 11 = .ok (.invokestatic 77, 3) := by decide +kernel
theorem dX5_umpire_14 : decode cX5_umpire 14 = .ok (.ifCond .ne 5, 3) := by decide +kernel
theorem dX5_umpire_17 : decode cX5_umpire 17 = .ok (.iconst (-1), 1) := by decide +kernel
theorem dX5_umpire_18 : decode cX5_umpire 18 = .ok (.ireturn, 1) := by decide +kernel
theorem dX5_umpire_19 : decode cX5_umpire 19 = .ok (.iload_n 3, 1) := by decide +kernel
theorem dX5_umpire_20 : decode cX5_umpire 20 = .ok (.invokestatic 81, 3) := by decide +kernel
theorem dX5_umpire_23 : decode cX5_umpire 23 = .ok (.ifCond .eq 16, 3) := by decide +kernel
theorem dX5_umpire_26 : decode cX5_umpire 26 = .ok (.iload 4, 2) := by decide +kernel
theorem dX5_umpire_28 : decode cX5_umpire 28 = .ok (.ifCond .lt 11, 3) := by decide +kernel
theorem dX5_umpire_31 : decode cX5_umpire 31 = .ok (.iload 4, 2) := by decide +kernel
theorem dX5_umpire_33 : decode cX5_umpire 33 = .ok (.sipush 4096, 3) := by decide +kernel
theorem dX5_umpire_36 : decode cX5_umpire 36 = .ok (.if_icmp .lt 5, 3) := by decide +kernel
theorem dX5_umpire_39 : decode cX5_umpire 39 = .ok (.iconst (-1), 1) := by decide +kernel
theorem dX5_umpire_40 : decode cX5_umpire 40 = .ok (.ireturn, 1) := by decide +kernel
theorem dX5_umpire_41 : decode cX5_umpire 41 = .ok (.aload_n 0, 1) := by decide +kernel
theorem dX5_umpire_42 : decode cX5_umpire 42 = .ok (.getfield 73, 3) := by decide +kernel
theorem dX5_umpire_45 : decode cX5_umpire 45 = .ok (.istore 5, 2) := by decide +kernel
theorem dX5_umpire_47 : decode cX5_umpire 47 = .ok (.aload_n 0, 1) := by decide +kernel
theorem dX5_umpire_48 : decode cX5_umpire 48 = .ok (.getfield 25, 3) := by decide +kernel
theorem dX5_umpire_51 : decode cX5_umpire 51 = .ok (.iload 5, 2) := by decide +kernel
theorem dX5_umpire_53 : decode cX5_umpire 53 = .ok (.new 23, 3) := by decide +kernel
theorem dX5_umpire_56 : decode cX5_umpire 56 = .ok (.dup, 1) := by decide +kernel
theorem dX5_umpire_57 : decode cX5_umpire 57 = .ok (.iload_n 1, 1) := by decide +kernel
theorem dX5_umpire_58 : decode cX5_umpire 58 = .ok (.iload_n 2, 1) := by decide +kernel
theorem dX5_umpire_59 : decode cX5_umpire 59 = .ok (.iload_n 3, 1) := by decide +kernel
theorem dX5_umpire_60 : decode cX5_umpire 60 = .ok (.iload 4, 2) := by decide +kernel
theorem dX5_umpire_62 : decode cX5_umpire 62 = .ok (.invokespecial 84, 3) := by decide +kernel
theorem dX5_umpire_65 : decode cX5_umpire 65 = .ok (.aastore, 1) := by decide +kernel
theorem dX5_umpire_66 : decode cX5_umpire 66 = .ok (.aload_n 0, 1) := by decide +kernel
theorem dX5_umpire_67 : decode cX5_umpire 67 = .ok (.iload 5, 2) := by decide +kernel
theorem dX5_umpire_69 : decode cX5_umpire 69 = .ok (.iconst 1, 1) := by decide +kernel
theorem dX5_umpire_70 : decode cX5_umpire 70 = .ok (.iadd, 1) := by decide +kernel
theorem dX5_umpire_71 : decode cX5_umpire 71 = .ok (.putfield 73, 3) := by decide +kernel
theorem dX5_umpire_74 : decode cX5_umpire 74 = .ok (.iload 5, 2) := by decide +kernel
theorem dX5_umpire_76 : decode cX5_umpire 76 = .ok (.ireturn, 1) := by decide +kernel
theorem dX5_away_0 : decode cX5_away 0 = .ok (.aload_n 0, 1) := by decide +kernel
theorem dX5_away_1 : decode cX5_away 1 = .ok (.iload_n 1, 1) := by decide +kernel
theorem dX5_away_2 : decode cX5_away 2 = .ok (.invokevirtual 87, 3) := by decide +kernel
theorem dX5_away_5 : decode cX5_away 5 = .ok (.astore 4, 2) := by decide +kernel
theorem dX5_away_7 : decode cX5_away 7 = .ok (.aload 4, 2) := by decide +kernel
theorem dX5_away_9 : decode cX5_away 9 = .ok (.ifnull 17, 3) := by decide +kernel
theorem dX5_away_12 : decode cX5_away 12 = .ok (.iload_n 2, 1) := by decide +kernel
theorem dX5_away_13 : decode cX5_away 13 = .ok (.aload_n 0, 1) := by decide +kernel
theorem dX5_away_14 : decode cX5_away 14 = .ok (.getfield 91, 3) := by decide +kernel
theorem dX5_away_17 : decode cX5_away 17 = .ok (.if_icmp .lt 9, 3) := by decide +kernel
theorem dX5_away_20 : decode cX5_away 20 = .ok (.iload_n 2, 1) := by decide +kernel
theorem dX5_away_21 : decode cX5_away 21 = .ok (.bipush 99, 2) := by decide +kernel
theorem dX5_away_23 : decode cX5_away 23 = .ok (.if_icmp .le 5, 3) := by decide +kernel
theorem dX5_away_26 : decode cX5_away 26 = .ok (.iconst 0, 1) := by decide +kernel
theorem dX5_away_27 : decode cX5_away 27 = .ok (.ireturn, 1) := by decide +kernel
theorem dX5_away_28 : decode cX5_away 28 = .ok (.iload_n 2, 1) := by decide +kernel
theorem dX5_away_29 : decode cX5_away 29 = .ok (.aload_n 0, 1) := by decide +kernel
theorem dX5_away_30 : decode cX5_away 30 = .ok (.getfield 91, 3) := by decide +kernel
theorem dX5_away_33 : decode cX5_away 33 = .ok (.if_icmp .ne 14, 3) := by decide +kernel
theorem dX5_away_36 : decode cX5_away 36 = .ok (.aload 4, 2) := by decide +kernel
theorem dX5_away_38 : decode cX5_away 38 = .ok (.getfield 94, 3) := by decide +kernel
theorem dX5_away_41 : decode cX5_away 41 = .ok (.iconst (-1), 1) := by decide +kernel
theorem dX5_away_42 : decode cX5_away 42 = .ok (.if_icmp .eq 5, 3) := by decide +kernel
theorem dX5_away_45 : decode cX5_away 45 = .ok (.iconst 0, 1) := by decide +kernel
theorem dX5_away_46 : decode cX5_away 46 = .ok (.ireturn, 1) := by decide +kernel
theorem dX5_away_47 : decode cX5_away 47 = .ok (.aload 4, 2) := by decide +kernel
theorem dX5_away_49 : decode cX5_away 49 = .ok (.iload_n 2, 1) := by decide +kernel
theorem dX5_away_50 : decode cX5_away 50 = .ok (.iload_n 3, 1) := by decide +kernel
theorem dX5_away_51 : decode cX5_away 51 = .ok (.invokevirtual 97, 3) := by decide +kernel
theorem dX5_away_54 : decode cX5_away 54 = .ok (.ireturn, 1) := by decide +kernel
theorem dX5_game_0 : decode cX5_game 0 = .ok (.aload_n 0, 1) := by decide +kernel
theorem dX5_game_1 : decode cX5_game 1 = .ok (.getfield 101, 3) := by decide +kernel
theorem dX5_game_4 : decode cX5_game 4 = .ok (.bipush 8, 2) := by decide +kernel
theorem dX5_game_6 : decode cX5_game 6 = .ok (.if_icmp .ge 19, 3) := by decide +kernel
theorem dX5_game_9 : decode cX5_game 9 = .ok (.iload_n 1, 1) := by decide +kernel
theorem dX5_game_10 : decode cX5_game 10 = .ok (.iload_n 2, 1) := by decide +kernel
theorem dX5_game_11 : decode cX5_game 11 = .ok (.invokestatic 77, 3) := by decide +kernel
theorem dX5_game_14 : decode cX5_game 14 = .ok (.ifCond .eq 11, 3) := by decide +kernel
theorem dX5_game_17 : decode cX5_game 17 = .ok (.iload 5, 2) := by decide +kernel
theorem dX5_game_19 : decode cX5_game 19 = .ok (.invokestatic 81, 3) := by decide +kernel
theorem dX5_game_22 : decode cX5_game 22 = .ok (.ifCond .ne 5, 3) := by decide +kernel
theorem dX5_game_25 : decode cX5_game 25 = .ok (.iconst (-1), 1) := by decide +kernel
theorem dX5_game_26 : decode cX5_game 26 = .ok (.ireturn, 1) := by decide +kernel
theorem dX5_game_27 : decode cX5_game 27 = .ok (.iload_n 3, 1) := by decide +kernel
theorem dX5_game_28 : decode cX5_game 28 = .ok (.invokestatic 104, 3) := by decide +kernel
theorem dX5_game_31 : decode cX5_game 31 = .ok (.ifCond .eq 17, 3) := by decide +kernel
theorem dX5_game_34 : decode cX5_game 34 = .ok (.iload 4, 2) := by decide +kernel
theorem dX5_game_36 : decode cX5_game 36 = .ok (.invokestatic 104, 3) := by decide +kernel
theorem dX5_game_39 : decode cX5_game 39 = .ok (.ifCond .eq 9, 3) := by decide +kernel
theorem dX5_game_42 : decode cX5_game 42 = .ok (.iload_n 3, 1) := by decide +kernel
theorem dX5_game_43 : decode cX5_game 43 = .ok (.iload 4, 2) := by decide +kernel
theorem dX5_game_45 : decode cX5_game 45 = .ok (.if_icmp .ne 5, 3) := by decide +kernel
theorem dX5_game_48 : decode cX5_game 48 = .ok (.iconst (-1), 1) := by decide +kernel
theorem dX5_game_49 : decode cX5_game 49 = .ok (.ireturn, 1) := by decide +kernel
theorem dX5_game_50 : decode cX5_game 50 = .ok (.aload_n 0, 1) := by decide +kernel
theorem dX5_game_51 : decode cX5_game 51 = .ok (.getfield 101, 3) := by decide +kernel
theorem dX5_game_54 : decode cX5_game 54 = .ok (.istore 6, 2) := by decide +kernel
theorem dX5_game_56 : decode cX5_game 56 = .ok (.aload_n 0, 1) := by decide +kernel
theorem dX5_game_57 : decode cX5_game 57 = .ok (.getfield 31, 3) := by decide +kernel
theorem dX5_game_60 : decode cX5_game 60 = .ok (.iload 6, 2) := by decide +kernel
theorem dX5_game_62 : decode cX5_game 62 = .ok (.aaload, 1) := by decide +kernel
theorem dX5_game_63 : decode cX5_game 63 = .ok (.iload_n 1, 1) := by decide +kernel
theorem dX5_game_64 : decode cX5_game 64 = .ok (.iload_n 2, 1) := by decide +kernel
theorem dX5_game_65 : decode cX5_game 65 = .ok (.iconst 1, 1) := by decide +kernel
theorem dX5_game_66 : decode cX5_game 66 = .ok (.iload_n 3, 1) := by decide +kernel
theorem dX5_game_67 : decode cX5_game 67 = .ok (.ishl, 1) := by decide +kernel
theorem dX5_game_68 : decode cX5_game 68 = .ok (.iconst 1, 1) := by decide +kernel
theorem dX5_game_69 : decode cX5_game 69 = .ok (.iload 4, 2) := by decide +kernel
theorem dX5_game_71 : decode cX5_game 71 = .ok (.ishl, 1) := by decide +kernel
theorem dX5_game_72 : decode cX5_game 72 = .ok (.ior, 1) := by decide +kernel
theorem dX5_game_73 : decode cX5_game 73 = .ok (.iload 5, 2) := by decide +kernel
theorem dX5_game_75 : decode cX5_game 75 = .ok (.invokevirtual 107, 3) := by decide +kernel
theorem dX5_game_78 : decode cX5_game 78 = .ok (.aload_n 0, 1) := by decide +kernel
theorem dX5_game_79 : decode cX5_game 79 = .ok (.iload 6, 2) := by decide +kernel
theorem dX5_game_81 : decode cX5_game 81 = .ok (.iconst 1, 1) := by decide +kernel
theorem dX5_game_82 : decode cX5_game 82 = .ok (.iadd, 1) := by decide +kernel
theorem dX5_game_83 : decode cX5_game 83 = .ok (.putfield 101, 3) := by decide +kernel
theorem dX5_game_86 : decode cX5_game 86 = .ok (.iload 6, 2) := by decide +kernel
theorem dX5_game_88 : decode cX5_game 88 = .ok (.ireturn, 1) := by decide +kernel
theorem dX5_may_0 : decode cX5_may 0 = .ok (.aload_n 0, 1) := by decide +kernel
theorem dX5_may_1 : decode cX5_may 1 = .ok (.aload_n 0, 1) := by decide +kernel
theorem dX5_may_2 : decode cX5_may 2 = .ok (.iload_n 1, 1) := by decide +kernel
theorem dX5_may_3 : decode cX5_may 3 = .ok (.invokevirtual 87, 3) := by decide +kernel
theorem dX5_may_6 : decode cX5_may 6 = .ok (.iload_n 2, 1) := by decide +kernel
theorem dX5_may_7 : decode cX5_may 7 = .ok (.invokevirtual 110, 3) := by decide +kernel
theorem dX5_may_10 : decode cX5_may 10 = .ok (.ireturn, 1) := by decide +kernel
theorem dX5_cost_0 : decode cX5_cost 0 = .ok (.aload_n 0, 1) := by decide +kernel
theorem dX5_cost_1 : decode cX5_cost 1 = .ok (.aload_n 0, 1) := by decide +kernel
theorem dX5_cost_2 : decode cX5_cost 2 = .ok (.iload_n 1, 1) := by decide +kernel
theorem dX5_cost_3 : decode cX5_cost 3 = .ok (.invokevirtual 87, 3) := by decide +kernel
theorem dX5_cost_6 : decode cX5_cost 6 = .ok (.iload_n 2, 1) := by decide +kernel
theorem dX5_cost_7 : decode cX5_cost 7 = .ok (.invokevirtual 114, 3) := by decide +kernel
theorem dX5_cost_10 : decode cX5_cost 10 = .ok (.ireturn, 1) := by decide +kernel
theorem dX5_send_0 : decode cX5_send 0 = .ok (.aload_n 0, 1) := by decide +kernel
theorem dX5_send_1 : decode cX5_send 1 = .ok (.getfield 118, 3) := by decide +kernel
theorem dX5_send_4 : decode cX5_send 4 = .ok (.ifCond .eq 5, 3) := by decide +kernel
theorem dX5_send_7 : decode cX5_send 7 = .ok (.iconst (-1), 1) := by decide +kernel
theorem dX5_send_8 : decode cX5_send 8 = .ok (.ireturn, 1) := by decide +kernel
theorem dX5_send_9 : decode cX5_send 9 = .ok (.iconst 2, 1) := by decide +kernel
theorem dX5_send_10 : decode cX5_send 10 = .ok (.aload_n 0, 1) := by decide +kernel
theorem dX5_send_11 : decode cX5_send 11 = .ok (.getfield 101, 3) := by decide +kernel
theorem dX5_send_14 : decode cX5_send 14 = .ok (.imul, 1) := by decide +kernel
theorem dX5_send_15 : decode cX5_send 15 = .ok (.istore_n 1, 1) := by decide +kernel
theorem dX5_send_16 : decode cX5_send 16 = .ok (.aload_n 0, 1) := by decide +kernel
theorem dX5_send_17 : decode cX5_send 17 = .ok (.getfield 43, 3) := by decide +kernel
theorem dX5_send_20 : decode cX5_send 20 = .ok (.iload_n 1, 1) := by decide +kernel
theorem dX5_send_21 : decode cX5_send 21 = .ok (.aload_n 0, 1) := by decide +kernel
theorem dX5_send_22 : decode cX5_send 22 = .ok (.getfield 73, 3) := by decide +kernel
theorem dX5_send_25 : decode cX5_send 25 = .ok (.invokevirtual 121, 3) := by decide +kernel
theorem dX5_send_28 : decode cX5_send 28 = .ok (.iconst 0, 1) := by decide +kernel
theorem dX5_send_29 : decode cX5_send 29 = .ok (.istore_n 2, 1) := by decide +kernel
theorem dX5_send_30 : decode cX5_send 30 = .ok (.iload_n 2, 1) := by decide +kernel
theorem dX5_send_31 : decode cX5_send 31 = .ok (.iload_n 1, 1) := by decide +kernel
theorem dX5_send_32 : decode cX5_send 32 = .ok (.if_icmp .ge 62, 3) := by decide +kernel
theorem dX5_send_35 : decode cX5_send 35 = .ok (.aload_n 0, 1) := by decide +kernel
theorem dX5_send_36 : decode cX5_send 36 = .ok (.iload_n 2, 1) := by decide +kernel
theorem dX5_send_37 : decode cX5_send 37 = .ok (.invokevirtual 125, 3) := by decide +kernel
theorem dX5_send_40 : decode cX5_send 40 = .ok (.iconst 0, 1) := by decide +kernel
theorem dX5_send_41 : decode cX5_send 41 = .ok (.istore_n 3, 1) := by decide +kernel
theorem dX5_send_42 : decode cX5_send 42 = .ok (.iload_n 3, 1) := by decide +kernel
theorem dX5_send_43 : decode cX5_send 43 = .ok (.aload_n 0, 1) := by decide +kernel
theorem dX5_send_44 : decode cX5_send 44 = .ok (.getfield 73, 3) := by decide +kernel
theorem dX5_send_47 : decode cX5_send 47 = .ok (.if_icmp .ge 41, 3) := by decide +kernel
theorem dX5_send_50 : decode cX5_send 50 = .ok (.aload_n 0, 1) := by decide +kernel
theorem dX5_send_51 : decode cX5_send 51 = .ok (.aload_n 0, 1) := by decide +kernel
theorem dX5_send_52 : decode cX5_send 52 = .ok (.iload_n 3, 1) := by decide +kernel
theorem dX5_send_53 : decode cX5_send 53 = .ok (.invokevirtual 87, 3) := by decide +kernel
theorem dX5_send_56 : decode cX5_send 56 = .ok (.iload_n 2, 1) := by decide +kernel
theorem dX5_send_57 : decode cX5_send 57 = .ok (.invokevirtual 110, 3) := by decide +kernel
theorem dX5_send_60 : decode cX5_send 60 = .ok (.ifCond .eq 22, 3) := by decide +kernel
theorem dX5_send_63 : decode cX5_send 63 = .ok (.aload_n 0, 1) := by decide +kernel
theorem dX5_send_64 : decode cX5_send 64 = .ok (.getfield 43, 3) := by decide +kernel
theorem dX5_send_67 : decode cX5_send 67 = .ok (.iload_n 2, 1) := by decide +kernel
theorem dX5_send_68 : decode cX5_send 68 = .ok (.iload_n 3, 1) := by decide +kernel
theorem dX5_send_69 : decode cX5_send 69 = .ok (.aload_n 0, 1) := by decide +kernel
theorem dX5_send_70 : decode cX5_send 70 = .ok (.aload_n 0, 1) := by decide +kernel
theorem dX5_send_71 : decode cX5_send 71 = .ok (.iload_n 3, 1) := by decide +kernel
theorem dX5_send_72 : decode cX5_send 72 = .ok (.invokevirtual 87, 3) := by decide +kernel
theorem dX5_send_75 : decode cX5_send 75 = .ok (.iload_n 2, 1) := by decide +kernel
theorem dX5_send_76 : decode cX5_send 76 = .ok (.invokevirtual 114, 3) := by decide +kernel
theorem dX5_send_79 : decode cX5_send 79 = .ok (.invokevirtual 128, 3) := by decide +kernel
theorem dX5_send_82 : decode cX5_send 82 = .ok (.iinc 3 1, 3) := by decide +kernel
theorem dX5_send_85 : decode cX5_send 85 = .ok (.goto (-43), 3) := by decide +kernel
theorem dX5_send_88 : decode cX5_send 88 = .ok (.iinc 2 1, 3) := by decide +kernel
theorem dX5_send_91 : decode cX5_send 91 = .ok (.goto (-61), 3) := by decide +kernel
theorem dX5_send_94 : decode cX5_send 94 = .ok (.aload_n 0, 1) := by decide +kernel
theorem dX5_send_95 : decode cX5_send 95 = .ok (.getfield 43, 3) := by decide +kernel
theorem dX5_send_98 : decode cX5_send 98 = .ok (.invokevirtual 132, 3) := by decide +kernel
theorem dX5_send_101 : decode cX5_send 101 = .ok (.iconst 0, 1) := by decide +kernel
theorem dX5_send_102 : decode cX5_send 102 = .ok (.istore_n 2, 1) := by decide +kernel
theorem dX5_send_103 : decode cX5_send 103 = .ok (.iload_n 2, 1) := by decide +kernel
theorem dX5_send_104 : decode cX5_send 104 = .ok (.iload_n 1, 1) := by decide +kernel
theorem dX5_send_105 : decode cX5_send 105 = .ok (.if_icmp .ge 22, 3) := by decide +kernel
theorem dX5_send_108 : decode cX5_send 108 = .ok (.aload_n 0, 1) := by decide +kernel
theorem dX5_send_109 : decode cX5_send 109 = .ok (.iload_n 2, 1) := by decide +kernel
theorem dX5_send_110 : decode cX5_send 110 = .ok (.aload_n 0, 1) := by decide +kernel
theorem dX5_send_111 : decode cX5_send 111 = .ok (.getfield 43, 3) := by decide +kernel
theorem dX5_send_114 : decode cX5_send 114 = .ok (.iload_n 2, 1) := by decide +kernel
theorem dX5_send_115 : decode cX5_send 115 = .ok (.invokevirtual 135, 3) := by decide +kernel
theorem dX5_send_118 : decode cX5_send 118 = .ok (.invokevirtual 138, 3) := by decide +kernel
theorem dX5_send_121 : decode cX5_send 121 = .ok (.iinc 2 1, 3) := by decide +kernel
theorem dX5_send_124 : decode cX5_send 124 = .ok (.goto (-21), 3) := by decide +kernel
theorem dX5_send_127 : decode cX5_send 127 = .ok (.aload_n 0, 1) := by decide +kernel
theorem dX5_send_128 : decode cX5_send 128 = .ok (.invokevirtual 141, 3) := by decide +kernel
theorem dX5_send_131 : decode cX5_send 131 = .ok (.ireturn, 1) := by decide +kernel
theorem dX5_off_0 : decode cX5_off 0 = .ok (.aload_n 0, 1) := by decide +kernel
theorem dX5_off_1 : decode cX5_off 1 = .ok (.iload_n 1, 1) := by decide +kernel
theorem dX5_off_2 : decode cX5_off 2 = .ok (.invokevirtual 87, 3) := by decide +kernel
theorem dX5_off_5 : decode cX5_off 5 = .ok (.astore_n 2, 1) := by decide +kernel
theorem dX5_off_6 : decode cX5_off 6 = .ok (.aload_n 2, 1) := by decide +kernel
theorem dX5_off_7 : decode cX5_off 7 = .ok (.ifnull 18, 3) := by decide +kernel
theorem dX5_off_10 : decode cX5_off 10 = .ok (.aload_n 2, 1) := by decide +kernel
theorem dX5_off_11 : decode cX5_off 11 = .ok (.getfield 94, 3) := by decide +kernel
theorem dX5_off_14 : decode cX5_off 14 = .ok (.iconst (-1), 1) := by decide +kernel
theorem dX5_off_15 : decode cX5_off 15 = .ok (.if_icmp .eq 10, 3) := by decide +kernel
theorem dX5_off_18 : decode cX5_off 18 = .ok (.aload_n 0, 1) := by decide +kernel
theorem dX5_off_19 : decode cX5_off 19 = .ok (.getfield 118, 3) := by decide +kernel
theorem dX5_off_22 : decode cX5_off 22 = .ok (.ifCond .eq 5, 3) := by decide +kernel
theorem dX5_off_25 : decode cX5_off 25 = .ok (.iconst (-1), 1) := by decide +kernel
theorem dX5_off_26 : decode cX5_off 26 = .ok (.ireturn, 1) := by decide +kernel
theorem dX5_off_27 : decode cX5_off 27 = .ok (.aload_n 2, 1) := by decide +kernel
theorem dX5_off_28 : decode cX5_off 28 = .ok (.getfield 94, 3) := by decide +kernel
theorem dX5_off_31 : decode cX5_off 31 = .ok (.istore_n 3, 1) := by decide +kernel
theorem dX5_off_32 : decode cX5_off 32 = .ok (.aload_n 0, 1) := by decide +kernel
theorem dX5_off_33 : decode cX5_off 33 = .ok (.iload_n 3, 1) := by decide +kernel
theorem dX5_off_34 : decode cX5_off 34 = .ok (.invokevirtual 125, 3) := by decide +kernel
theorem dX5_off_37 : decode cX5_off 37 = .ok (.aload_n 2, 1) := by decide +kernel
theorem dX5_off_38 : decode cX5_off 38 = .ok (.aload_n 0, 1) := by decide +kernel
theorem dX5_off_39 : decode cX5_off 39 = .ok (.getfield 91, 3) := by decide +kernel
theorem dX5_off_42 : decode cX5_off 42 = .ok (.iconst 1, 1) := by decide +kernel
theorem dX5_off_43 : decode cX5_off 43 = .ok (.invokevirtual 97, 3) := by decide +kernel
theorem dX5_off_46 : decode cX5_off 46 = .ok (.pop, 1) := by decide +kernel
theorem dX5_off_47 : decode cX5_off 47 = .ok (.aload_n 0, 1) := by decide +kernel
theorem dX5_off_48 : decode cX5_off 48 = .ok (.iload_n 3, 1) := by decide +kernel
theorem dX5_off_49 : decode cX5_off 49 = .ok (.invokevirtual 144, 3) := by decide +kernel
theorem dX5_off_52 : decode cX5_off 52 = .ok (.istore 4, 2) := by decide +kernel
theorem dX5_off_54 : decode cX5_off 54 = .ok (.iload 4, 2) := by decide +kernel
theorem dX5_off_56 : decode cX5_off 56 = .ok (.iconst (-1), 1) := by decide +kernel
theorem dX5_off_57 : decode cX5_off 57 = .ok (.if_icmp .eq 12, 3) := by decide +kernel
theorem dX5_off_60 : decode cX5_off 60 = .ok (.aload_n 0, 1) := by decide +kernel
theorem dX5_off_61 : decode cX5_off 61 = .ok (.iload_n 3, 1) := by decide +kernel
theorem dX5_off_62 : decode cX5_off 62 = .ok (.iload 4, 2) := by decide +kernel
theorem dX5_off_64 : decode cX5_off 64 = .ok (.invokevirtual 138, 3) := by decide +kernel
theorem dX5_off_67 : decode cX5_off 67 = .ok (.iconst 1, 1) := by decide +kernel
theorem dX5_off_68 : decode cX5_off 68 = .ok (.ireturn, 1) := by decide +kernel
theorem dX5_off_69 : decode cX5_off 69 = .ok (.aload_n 0, 1) := by decide +kernel
theorem dX5_off_70 : decode cX5_off 70 = .ok (.iload_n 3, 1) := by decide +kernel
theorem dX5_off_71 : decode cX5_off 71 = .ok (.invokevirtual 147, 3) := by decide +kernel
theorem dX5_off_74 : decode cX5_off 74 = .ok (.ifCond .eq 7, 3) := by decide +kernel
theorem dX5_off_77 : decode cX5_off 77 = .ok (.iconst 2, 1) := by decide +kernel
theorem dX5_off_78 : decode cX5_off 78 = .ok (.goto 4, 3) := by decide +kernel
theorem dX5_off_81 : decode cX5_off 81 = .ok (.iconst 0, 1) := by decide +kernel
theorem dX5_off_82 : decode cX5_off 82 = .ok (.ireturn, 1) := by decide +kernel
theorem dX5_seat_0 : decode cX5_seat 0 = .ok (.aload_n 0, 1) := by decide +kernel
theorem dX5_seat_1 : decode cX5_seat 1 = .ok (.iload_n 1, 1) := by decide +kernel
theorem dX5_seat_2 : decode cX5_seat 2 = .ok (.invokevirtual 150, 3) := by decide +kernel
theorem dX5_seat_5 : decode cX5_seat 5 = .ok (.ifCond .eq 12, 3) := by decide +kernel
theorem dX5_seat_8 : decode cX5_seat 8 = .ok (.aload_n 0, 1) := by decide +kernel
theorem dX5_seat_9 : decode cX5_seat 9 = .ok (.getfield 36, 3) := by decide +kernel
theorem dX5_seat_12 : decode cX5_seat 12 = .ok (.iload_n 1, 1) := by decide +kernel
theorem dX5_seat_13 : decode cX5_seat 13 = .ok (.iaload, 1) := by decide +kernel
theorem dX5_seat_14 : decode cX5_seat 14 = .ok (.goto 4, 3) := by decide +kernel
theorem dX5_seat_17 : decode cX5_seat 17 = .ok (.iconst (-1), 1) := by decide +kernel
theorem dX5_seat_18 : decode cX5_seat 18 = .ok (.ireturn, 1) := by decide +kernel
theorem dX5_mark_0 : decode cX5_mark 0 = .ok (.aload_n 0, 1) := by decide +kernel
theorem dX5_mark_1 : decode cX5_mark 1 = .ok (.iload_n 1, 1) := by decide +kernel
theorem dX5_mark_2 : decode cX5_mark 2 = .ok (.invokevirtual 153, 3) := by decide +kernel
theorem dX5_mark_5 : decode cX5_mark 5 = .ok (.astore 5, 2) := by decide +kernel
theorem dX5_mark_7 : decode cX5_mark 7 = .ok (.aload 5, 2) := by decide +kernel
theorem dX5_mark_9 : decode cX5_mark 9 = .ok (.ifnull 22, 3) := by decide +kernel
theorem dX5_mark_12 : decode cX5_mark 12 = .ok (.iload_n 2, 1) := by decide +kernel
theorem dX5_mark_13 : decode cX5_mark 13 = .ok (.ifCond .lt 18, 3) := by decide +kernel
theorem dX5_mark_16 : decode cX5_mark 16 = .ok (.iload_n 2, 1) := by decide +kernel
theorem dX5_mark_17 : decode cX5_mark 17 = .ok (.iconst 1, 1) := by decide +kernel
theorem dX5_mark_18 : decode cX5_mark 18 = .ok (.if_icmp .gt 13, 3) := by decide +kernel
theorem dX5_mark_21 : decode cX5_mark 21 = .ok (.iload_n 3, 1) := by decide +kernel
theorem dX5_mark_22 : decode cX5_mark 22 = .ok (.ifCond .lt 9, 3) := by decide +kernel
theorem dX5_mark_25 : decode cX5_mark 25 = .ok (.iload_n 3, 1) := by decide +kernel
theorem dX5_mark_26 : decode cX5_mark 26 = .ok (.bipush 100, 2) := by decide +kernel
theorem dX5_mark_28 : decode cX5_mark 28 = .ok (.if_icmp .le 5, 3) := by decide +kernel
theorem dX5_mark_31 : decode cX5_mark 31 = .ok (.iconst 0, 1) := by decide +kernel
theorem dX5_mark_32 : decode cX5_mark 32 = .ok (.ireturn, 1) := by decide +kernel
theorem dX5_mark_33 : decode cX5_mark 33 = .ok (.iconst 1, 1) := by decide +kernel
theorem dX5_mark_34 : decode cX5_mark 34 = .ok (.iconst 2, 1) := by decide +kernel
theorem dX5_mark_35 : decode cX5_mark 35 = .ok (.iload_n 1, 1) := by decide +kernel
theorem dX5_mark_36 : decode cX5_mark 36 = .ok (.imul, 1) := by decide +kernel
theorem dX5_mark_37 : decode cX5_mark 37 = .ok (.iload_n 2, 1) := by decide +kernel
theorem dX5_mark_38 : decode cX5_mark 38 = .ok (.iadd, 1) := by decide +kernel
theorem dX5_mark_39 : decode cX5_mark 39 = .ok (.ishl, 1) := by decide +kernel
theorem dX5_mark_40 : decode cX5_mark 40 = .ok (.istore 6, 2) := by decide +kernel
theorem dX5_mark_42 : decode cX5_mark 42 = .ok (.aload_n 0, 1) := by decide +kernel
theorem dX5_mark_43 : decode cX5_mark 43 = .ok (.getfield 118, 3) := by decide +kernel
theorem dX5_mark_46 : decode cX5_mark 46 = .ok (.iload 6, 2) := by decide +kernel
theorem dX5_mark_48 : decode cX5_mark 48 = .ok (.iand, 1) := by decide +kernel
theorem dX5_mark_49 : decode cX5_mark 49 = .ok (.ifCond .eq 5, 3) := by decide +kernel
theorem dX5_mark_52 : decode cX5_mark 52 = .ok (.iconst 0, 1) := by decide +kernel
theorem dX5_mark_53 : decode cX5_mark 53 = .ok (.ireturn, 1) := by decide +kernel
theorem dX5_mark_54 : decode cX5_mark 54 = .ok (.aload_n 0, 1) := by decide +kernel
theorem dX5_mark_55 : decode cX5_mark 55 = .ok (.dup, 1) := by decide +kernel
theorem dX5_mark_56 : decode cX5_mark 56 = .ok (.getfield 118, 3) := by decide +kernel
theorem dX5_mark_59 : decode cX5_mark 59 = .ok (.iload 6, 2) := by decide +kernel
theorem dX5_mark_61 : decode cX5_mark 61 = .ok (.ior, 1) := by decide +kernel
theorem dX5_mark_62 : decode cX5_mark 62 = .ok (.putfield 118, 3) := by decide +kernel
theorem dX5_mark_65 : decode cX5_mark 65 = .ok (.aload 5, 2) := by decide +kernel
theorem dX5_mark_67 : decode cX5_mark 67 = .ok (.iload_n 3, 1) := by decide +kernel
theorem dX5_mark_68 : decode cX5_mark 68 = .ok (.aload_n 0, 1) := by decide +kernel
theorem dX5_mark_69 : decode cX5_mark 69 = .ok (.getfield 19, 3) := by decide +kernel
theorem dX5_mark_72 : decode cX5_mark 72 = .ok (.iload 4, 2) := by decide +kernel
theorem dX5_mark_74 : decode cX5_mark 74 = .ok (.ifCond .eq 7, 3) := by decide +kernel
theorem dX5_mark_77 : decode cX5_mark 77 = .ok (.iconst 4, 1) := by decide +kernel
theorem dX5_mark_78 : decode cX5_mark 78 = .ok (.goto 4, 3) := by decide +kernel
theorem dX5_mark_81 : decode cX5_mark 81 = .ok (.iconst 5, 1) := by decide +kernel
theorem dX5_mark_82 : decode cX5_mark 82 = .ok (.invokevirtual 69, 3) := by decide +kernel
theorem dX5_mark_85 : decode cX5_mark 85 = .ok (.invokevirtual 156, 3) := by decide +kernel
theorem dX5_mark_88 : decode cX5_mark 88 = .ok (.iconst 1, 1) := by decide +kernel
theorem dX5_mark_89 : decode cX5_mark 89 = .ok (.ireturn, 1) := by decide +kernel
theorem dX5_next_0 : decode cX5_next 0 = .ok (.aload_n 0, 1) := by decide +kernel
theorem dX5_next_1 : decode cX5_next 1 = .ok (.getfield 91, 3) := by decide +kernel
theorem dX5_next_4 : decode cX5_next 4 = .ok (.bipush 99, 2) := by decide +kernel
theorem dX5_next_6 : decode cX5_next 6 = .ok (.if_icmp .lt 5, 3) := by decide +kernel
theorem dX5_next_9 : decode cX5_next 9 = .ok (.iconst (-1), 1) := by decide +kernel
theorem dX5_next_10 : decode cX5_next 10 = .ok (.ireturn, 1) := by decide +kernel
theorem dX5_next_11 : decode cX5_next 11 = .ok (.iconst 0, 1) := by decide +kernel
theorem dX5_next_12 : decode cX5_next 12 = .ok (.istore_n 1, 1) := by decide +kernel
theorem dX5_next_13 : decode cX5_next 13 = .ok (.iload_n 1, 1) := by decide +kernel
theorem dX5_next_14 : decode cX5_next 14 = .ok (.iconst 2, 1) := by decide +kernel
theorem dX5_next_15 : decode cX5_next 15 = .ok (.aload_n 0, 1) := by decide +kernel
theorem dX5_next_16 : decode cX5_next 16 = .ok (.getfield 101, 3) := by decide +kernel
theorem dX5_next_19 : decode cX5_next 19 = .ok (.imul, 1) := by decide +kernel
theorem dX5_next_20 : decode cX5_next 20 = .ok (.if_icmp .ge 14, 3) := by decide +kernel
theorem dX5_next_23 : decode cX5_next 23 = .ok (.aload_n 0, 1) := by decide +kernel
theorem dX5_next_24 : decode cX5_next 24 = .ok (.iload_n 1, 1) := by decide +kernel
theorem dX5_next_25 : decode cX5_next 25 = .ok (.invokevirtual 159, 3) := by decide +kernel
theorem dX5_next_28 : decode cX5_next 28 = .ok (.iinc 1 1, 3) := by decide +kernel
theorem dX5_next_31 : decode cX5_next 31 = .ok (.goto (-18), 3) := by decide +kernel
theorem dX5_next_34 : decode cX5_next 34 = .ok (.iconst 0, 1) := by decide +kernel
theorem dX5_next_35 : decode cX5_next 35 = .ok (.istore_n 1, 1) := by decide +kernel
theorem dX5_next_36 : decode cX5_next 36 = .ok (.iload_n 1, 1) := by decide +kernel
theorem dX5_next_37 : decode cX5_next 37 = .ok (.aload_n 0, 1) := by decide +kernel
theorem dX5_next_38 : decode cX5_next 38 = .ok (.getfield 73, 3) := by decide +kernel
theorem dX5_next_41 : decode cX5_next 41 = .ok (.if_icmp .ge 18, 3) := by decide +kernel
theorem dX5_next_44 : decode cX5_next 44 = .ok (.aload_n 0, 1) := by decide +kernel
theorem dX5_next_45 : decode cX5_next 45 = .ok (.aload_n 0, 1) := by decide +kernel
theorem dX5_next_46 : decode cX5_next 46 = .ok (.iload_n 1, 1) := by decide +kernel
theorem dX5_next_47 : decode cX5_next 47 = .ok (.invokevirtual 87, 3) := by decide +kernel
theorem dX5_next_50 : decode cX5_next 50 = .ok (.invokevirtual 162, 3) := by decide +kernel
theorem dX5_next_53 : decode cX5_next 53 = .ok (.iinc 1 1, 3) := by decide +kernel
theorem dX5_next_56 : decode cX5_next 56 = .ok (.goto (-20), 3) := by decide +kernel
theorem dX5_next_59 : decode cX5_next 59 = .ok (.aload_n 0, 1) := by decide +kernel
theorem dX5_next_60 : decode cX5_next 60 = .ok (.iconst 0, 1) := by decide +kernel
theorem dX5_next_61 : decode cX5_next 61 = .ok (.putfield 101, 3) := by decide +kernel
theorem dX5_next_64 : decode cX5_next 64 = .ok (.aload_n 0, 1) := by decide +kernel
theorem dX5_next_65 : decode cX5_next 65 = .ok (.iconst 0, 1) := by decide +kernel
theorem dX5_next_66 : decode cX5_next 66 = .ok (.putfield 118, 3) := by decide +kernel
theorem dX5_next_69 : decode cX5_next 69 = .ok (.aload_n 0, 1) := by decide +kernel
theorem dX5_next_70 : decode cX5_next 70 = .ok (.dup, 1) := by decide +kernel
theorem dX5_next_71 : decode cX5_next 71 = .ok (.getfield 91, 3) := by decide +kernel
theorem dX5_next_74 : decode cX5_next 74 = .ok (.iconst 1, 1) := by decide +kernel
theorem dX5_next_75 : decode cX5_next 75 = .ok (.iadd, 1) := by decide +kernel
theorem dX5_next_76 : decode cX5_next 76 = .ok (.putfield 91, 3) := by decide +kernel
theorem dX5_next_79 : decode cX5_next 79 = .ok (.aload_n 0, 1) := by decide +kernel
theorem dX5_next_80 : decode cX5_next 80 = .ok (.getfield 91, 3) := by decide +kernel
theorem dX5_next_83 : decode cX5_next 83 = .ok (.ireturn, 1) := by decide +kernel
theorem dX5_about_0 : decode cX5_about 0 = .ok (.aload_n 0, 1) := by decide +kernel
theorem dX5_about_1 : decode cX5_about 1 = .ok (.iload_n 1, 1) := by decide +kernel
theorem dX5_about_2 : decode cX5_about 2 = .ok (.invokevirtual 87, 3) := by decide +kernel
theorem dX5_about_5 : decode cX5_about 5 = .ok (.astore_n 3, 1) := by decide +kernel
theorem dX5_about_6 : decode cX5_about 6 = .ok (.aload_n 3, 1) := by decide +kernel
theorem dX5_about_7 : decode cX5_about 7 = .ok (.ifnonnull 13, 3) := by decide +kernel
theorem dX5_about_10 : decode cX5_about 10 = .ok (.new 166, 3) := by decide +kernel
theorem dX5_about_13 : decode cX5_about 13 = .ok (.dup, 1) := by decide +kernel
theorem dX5_about_14 : decode cX5_about 14 = .ok (.ldc 168, 2) := by decide +kernel
theorem dX5_about_16 : decode cX5_about 16 = .ok (.invokespecial 170, 3) := by decide +kernel
theorem dX5_about_19 : decode cX5_about 19 = .ok (.athrow, 1) := by decide +kernel
theorem dX5_about_20 : decode cX5_about 20 = .ok (.iload_n 2, 1) := by decide +kernel
theorem dX5_about_21 : decode cX5_about 21 = .ok (.tableswitch 69 0 5 #[39, 44, 49, 54, 59, 64], 39) := by decide +kernel
theorem dX5_about_60 : decode cX5_about 60 = .ok (.aload_n 3, 1) := by decide +kernel
theorem dX5_about_61 : decode cX5_about 61 = .ok (.getfield 173, 3) := by decide +kernel
theorem dX5_about_64 : decode cX5_about 64 = .ok (.ireturn, 1) := by decide +kernel
theorem dX5_about_65 : decode cX5_about 65 = .ok (.aload_n 3, 1) := by decide +kernel
theorem dX5_about_66 : decode cX5_about 66 = .ok (.getfield 94, 3) := by decide +kernel
theorem dX5_about_69 : decode cX5_about 69 = .ok (.ireturn, 1) := by decide +kernel
theorem dX5_about_70 : decode cX5_about 70 = .ok (.aload_n 3, 1) := by decide +kernel
theorem dX5_about_71 : decode cX5_about 71 = .ok (.getfield 176, 3) := by decide +kernel
theorem dX5_about_74 : decode cX5_about 74 = .ok (.ireturn, 1) := by decide +kernel
theorem dX5_about_75 : decode cX5_about 75 = .ok (.aload_n 3, 1) := by decide +kernel
theorem dX5_about_76 : decode cX5_about 76 = .ok (.getfield 179, 3) := by decide +kernel
theorem dX5_about_79 : decode cX5_about 79 = .ok (.ireturn, 1) := by decide +kernel
theorem dX5_about_80 : decode cX5_about 80 = .ok (.aload_n 3, 1) := by decide +kernel
theorem dX5_about_81 : decode cX5_about 81 = .ok (.getfield 182, 3) := by decide +kernel
theorem dX5_about_84 : decode cX5_about 84 = .ok (.ireturn, 1) := by decide +kernel
theorem dX5_about_85 : decode cX5_about 85 = .ok (.aload_n 3, 1) := by decide +kernel
theorem dX5_about_86 : decode cX5_about 86 = .ok (.getfield 185, 3) := by decide +kernel
theorem dX5_about_89 : decode cX5_about 89 = .ok (.ireturn, 1) := by decide +kernel
theorem dX5_about_90 : decode cX5_about 90 = .ok (.new 166, 3) := by decide +kernel
theorem dX5_about_93 : decode cX5_about 93 = .ok (.dup, 1) := by decide +kernel
theorem dX5_about_94 : decode cX5_about 94 = .ok (.ldc 188, 2) := by decide +kernel
theorem dX5_about_96 : decode cX5_about 96 = .ok (.invokespecial 170, 3) := by decide +kernel
theorem dX5_about_99 : decode cX5_about 99 = .ok (.athrow, 1) := by decide +kernel
theorem dX5_stood_0 : decode cX5_stood 0 = .ok (.aload_n 0, 1) := by decide +kernel
theorem dX5_stood_1 : decode cX5_stood 1 = .ok (.iload_n 1, 1) := by decide +kernel
theorem dX5_stood_2 : decode cX5_stood 2 = .ok (.invokevirtual 87, 3) := by decide +kernel
theorem dX5_stood_5 : decode cX5_stood 5 = .ok (.astore_n 3, 1) := by decide +kernel
theorem dX5_stood_6 : decode cX5_stood 6 = .ok (.aload_n 3, 1) := by decide +kernel
theorem dX5_stood_7 : decode cX5_stood 7 = .ok (.ifnull 15, 3) := by decide +kernel
theorem dX5_stood_10 : decode cX5_stood 10 = .ok (.iload_n 2, 1) := by decide +kernel
theorem dX5_stood_11 : decode cX5_stood 11 = .ok (.ifCond .lt 11, 3) := by decide +kernel
theorem dX5_stood_14 : decode cX5_stood 14 = .ok (.iload_n 2, 1) := by decide +kernel
theorem dX5_stood_15 : decode cX5_stood 15 = .ok (.aload_n 0, 1) := by decide +kernel
theorem dX5_stood_16 : decode cX5_stood 16 = .ok (.getfield 91, 3) := by decide +kernel
theorem dX5_stood_19 : decode cX5_stood 19 = .ok (.if_icmp .lt 5, 3) := by decide +kernel
theorem dX5_stood_22 : decode cX5_stood 22 = .ok (.iconst (-1), 1) := by decide +kernel
theorem dX5_stood_23 : decode cX5_stood 23 = .ok (.ireturn, 1) := by decide +kernel
theorem dX5_stood_24 : decode cX5_stood 24 = .ok (.aload_n 3, 1) := by decide +kernel
theorem dX5_stood_25 : decode cX5_stood 25 = .ok (.iload_n 2, 1) := by decide +kernel
theorem dX5_stood_26 : decode cX5_stood 26 = .ok (.invokevirtual 190, 3) := by decide +kernel
theorem dX5_stood_29 : decode cX5_stood 29 = .ok (.ireturn, 1) := by decide +kernel
theorem dX5_together_0 : decode cX5_together 0 = .ok (.iconst 0, 1) := by decide +kernel
theorem dX5_together_1 : decode cX5_together 1 = .ok (.istore_n 1, 1) := by decide +kernel
theorem dX5_together_2 : decode cX5_together 2 = .ok (.iconst 0, 1) := by decide +kernel
theorem dX5_together_3 : decode cX5_together 3 = .ok (.istore_n 2, 1) := by decide +kernel
theorem dX5_together_4 : decode cX5_together 4 = .ok (.iload_n 2, 1) := by decide +kernel
theorem dX5_together_5 : decode cX5_together 5 = .ok (.iconst 2, 1) := by decide +kernel
theorem dX5_together_6 : decode cX5_together 6 = .ok (.aload_n 0, 1) := by decide +kernel
theorem dX5_together_7 : decode cX5_together 7 = .ok (.getfield 101, 3) := by decide +kernel
theorem dX5_together_10 : decode cX5_together 10 = .ok (.imul, 1) := by decide +kernel
theorem dX5_together_11 : decode cX5_together 11 = .ok (.if_icmp .ge 28, 3) := by decide +kernel
theorem dX5_together_14 : decode cX5_together 14 = .ok (.aload_n 0, 1) := by decide +kernel
theorem dX5_together_15 : decode cX5_together 15 = .ok (.iload_n 2, 1) := by decide +kernel
theorem dX5_together_16 : decode cX5_together 16 = .ok (.invokevirtual 153, 3) := by decide +kernel
theorem dX5_together_19 : decode cX5_together 19 = .ok (.astore_n 3, 1) := by decide +kernel
theorem dX5_together_20 : decode cX5_together 20 = .ok (.aload_n 3, 1) := by decide +kernel
theorem dX5_together_21 : decode cX5_together 21 = .ok (.ifnull 12, 3) := by decide +kernel
theorem dX5_together_24 : decode cX5_together 24 = .ok (.iload_n 1, 1) := by decide +kernel
theorem dX5_together_25 : decode cX5_together 25 = .ok (.aload_n 0, 1) := by decide +kernel
theorem dX5_together_26 : decode cX5_together 26 = .ok (.aload_n 3, 1) := by decide +kernel
theorem dX5_together_27 : decode cX5_together 27 = .ok (.iload_n 2, 1) := by decide +kernel
theorem dX5_together_28 : decode cX5_together 28 = .ok (.invokevirtual 114, 3) := by decide +kernel
theorem dX5_together_31 : decode cX5_together 31 = .ok (.iadd, 1) := by decide +kernel
theorem dX5_together_32 : decode cX5_together 32 = .ok (.istore_n 1, 1) := by decide +kernel
theorem dX5_together_33 : decode cX5_together 33 = .ok (.iinc 2 1, 3) := by decide +kernel
theorem dX5_together_36 : decode cX5_together 36 = .ok (.goto (-32), 3) := by decide +kernel
theorem dX5_together_39 : decode cX5_together 39 = .ok (.iload_n 1, 1) := by decide +kernel
theorem dX5_together_40 : decode cX5_together 40 = .ok (.ireturn, 1) := by decide +kernel
theorem dX5_count_0 : decode cX5_count 0 = .ok (.iload_n 1, 1) := by decide +kernel
theorem dX5_count_1 : decode cX5_count 1 = .ok (.tableswitch 75 0 5 #[39, 44, 49, 54, 59, 67], 39) := by decide +kernel
theorem dX5_count_40 : decode cX5_count 40 = .ok (.aload_n 0, 1) := by decide +kernel
theorem dX5_count_41 : decode cX5_count 41 = .ok (.getfield 91, 3) := by decide +kernel
theorem dX5_count_44 : decode cX5_count 44 = .ok (.ireturn, 1) := by decide +kernel
theorem dX5_count_45 : decode cX5_count 45 = .ok (.aload_n 0, 1) := by decide +kernel
theorem dX5_count_46 : decode cX5_count 46 = .ok (.getfield 73, 3) := by decide +kernel
theorem dX5_count_49 : decode cX5_count 49 = .ok (.ireturn, 1) := by decide +kernel
theorem dX5_count_50 : decode cX5_count 50 = .ok (.aload_n 0, 1) := by decide +kernel
theorem dX5_count_51 : decode cX5_count 51 = .ok (.getfield 101, 3) := by decide +kernel
theorem dX5_count_54 : decode cX5_count 54 = .ok (.ireturn, 1) := by decide +kernel
theorem dX5_count_55 : decode cX5_count 55 = .ok (.aload_n 0, 1) := by decide +kernel
theorem dX5_count_56 : decode cX5_count 56 = .ok (.invokevirtual 141, 3) := by decide +kernel
theorem dX5_count_59 : decode cX5_count 59 = .ok (.ireturn, 1) := by decide +kernel
theorem dX5_count_60 : decode cX5_count 60 = .ok (.aload_n 0, 1) := by decide +kernel
theorem dX5_count_61 : decode cX5_count 61 = .ok (.getfield 118, 3) := by decide +kernel
theorem dX5_count_64 : decode cX5_count 64 = .ok (.invokestatic 193, 3) := by decide +kernel
theorem dX5_count_67 : decode cX5_count 67 = .ok (.ireturn, 1) := by decide +kernel
theorem dX5_count_68 : decode cX5_count 68 = .ok (.aload_n 0, 1) := by decide +kernel
theorem dX5_count_69 : decode cX5_count 69 = .ok (.getfield 10, 3) := by decide +kernel
theorem dX5_count_72 : decode cX5_count 72 = .ok (.invokevirtual 55, 3) := by decide +kernel
theorem dX5_count_75 : decode cX5_count 75 = .ok (.ireturn, 1) := by decide +kernel
theorem dX5_count_76 : decode cX5_count 76 = .ok (.iconst (-1), 1) := by decide +kernel
theorem dX5_count_77 : decode cX5_count 77 = .ok (.ireturn, 1) := by decide +kernel
theorem dX5_isPlace_0 : decode cX5_isPlace 0 = .ok (.iload_n 0, 1) := by decide +kernel
theorem dX5_isPlace_1 : decode cX5_isPlace 1 = .ok (.ifCond .lt 23, 3) := by decide +kernel
theorem dX5_isPlace_4 : decode cX5_isPlace 4 = .ok (.iload_n 0, 1) := by decide +kernel
theorem dX5_isPlace_5 : decode cX5_isPlace 5 = .ok (.bipush 99, 2) := by decide +kernel
theorem dX5_isPlace_7 : decode cX5_isPlace 7 = .ok (.if_icmp .gt 17, 3) := by decide +kernel
theorem dX5_isPlace_10 : decode cX5_isPlace 10 = .ok (.iload_n 1, 1) := by decide +kernel
theorem dX5_isPlace_11 : decode cX5_isPlace 11 = .ok (.ifCond .lt 13, 3) := by decide +kernel
theorem dX5_isPlace_14 : decode cX5_isPlace 14 = .ok (.iload_n 1, 1) := by decide +kernel
theorem dX5_isPlace_15 : decode cX5_isPlace 15 = .ok (.bipush 99, 2) := by decide +kernel
theorem dX5_isPlace_17 : decode cX5_isPlace 17 = .ok (.if_icmp .gt 7, 3) := by decide +kernel
theorem dX5_isPlace_20 : decode cX5_isPlace 20 = .ok (.iconst 1, 1) := by decide +kernel
theorem dX5_isPlace_21 : decode cX5_isPlace 21 = .ok (.goto 4, 3) := by decide +kernel
theorem dX5_isPlace_24 : decode cX5_isPlace 24 = .ok (.iconst 0, 1) := by decide +kernel
theorem dX5_isPlace_25 : decode cX5_isPlace 25 = .ok (.ireturn, 1) := by decide +kernel
theorem dX5_isGrade_0 : decode cX5_isGrade 0 = .ok (.iload_n 0, 1) := by decide +kernel
theorem dX5_isGrade_1 : decode cX5_isGrade 1 = .ok (.iconst 1, 1) := by decide +kernel
theorem dX5_isGrade_2 : decode cX5_isGrade 2 = .ok (.if_icmp .lt 12, 3) := by decide +kernel
theorem dX5_isGrade_5 : decode cX5_isGrade 5 = .ok (.iload_n 0, 1) := by decide +kernel
theorem dX5_isGrade_6 : decode cX5_isGrade 6 = .ok (.iconst 4, 1) := by decide +kernel
theorem dX5_isGrade_7 : decode cX5_isGrade 7 = .ok (.if_icmp .gt 7, 3) := by decide +kernel
theorem dX5_isGrade_10 : decode cX5_isGrade 10 = .ok (.iconst 1, 1) := by decide +kernel
theorem dX5_isGrade_11 : decode cX5_isGrade 11 = .ok (.goto 4, 3) := by decide +kernel
theorem dX5_isGrade_14 : decode cX5_isGrade 14 = .ok (.iconst 0, 1) := by decide +kernel
theorem dX5_isGrade_15 : decode cX5_isGrade 15 = .ok (.ireturn, 1) := by decide +kernel
theorem dX5_isClub_0 : decode cX5_isClub 0 = .ok (.iload_n 0, 1) := by decide +kernel
theorem dX5_isClub_1 : decode cX5_isClub 1 = .ok (.ifCond .lt 13, 3) := by decide +kernel
theorem dX5_isClub_4 : decode cX5_isClub 4 = .ok (.iload_n 0, 1) := by decide +kernel
theorem dX5_isClub_5 : decode cX5_isClub 5 = .ok (.bipush 12, 2) := by decide +kernel
theorem dX5_isClub_7 : decode cX5_isClub 7 = .ok (.if_icmp .ge 7, 3) := by decide +kernel
theorem dX5_isClub_10 : decode cX5_isClub 10 = .ok (.iconst 1, 1) := by decide +kernel
theorem dX5_isClub_11 : decode cX5_isClub 11 = .ok (.goto 4, 3) := by decide +kernel
theorem dX5_isClub_14 : decode cX5_isClub 14 = .ok (.iconst 0, 1) := by decide +kernel
theorem dX5_isClub_15 : decode cX5_isClub 15 = .ok (.ireturn, 1) := by decide +kernel
theorem dX5_isSeat_0 : decode cX5_isSeat 0 = .ok (.iload_n 1, 1) := by decide +kernel
theorem dX5_isSeat_1 : decode cX5_isSeat 1 = .ok (.ifCond .lt 23, 3) := by decide +kernel
theorem dX5_isSeat_4 : decode cX5_isSeat 4 = .ok (.iload_n 1, 1) := by decide +kernel
theorem dX5_isSeat_5 : decode cX5_isSeat 5 = .ok (.iconst 2, 1) := by decide +kernel
theorem dX5_isSeat_6 : decode cX5_isSeat 6 = .ok (.aload_n 0, 1) := by decide +kernel
theorem dX5_isSeat_7 : decode cX5_isSeat 7 = .ok (.getfield 101, 3) := by decide +kernel
theorem dX5_isSeat_10 : decode cX5_isSeat 10 = .ok (.imul, 1) := by decide +kernel
theorem dX5_isSeat_11 : decode cX5_isSeat 11 = .ok (.if_icmp .ge 13, 3) := by decide +kernel
theorem dX5_isSeat_14 : decode cX5_isSeat 14 = .ok (.iload_n 1, 1) := by decide +kernel
theorem dX5_isSeat_15 : decode cX5_isSeat 15 = .ok (.bipush 16, 2) := by decide +kernel
theorem dX5_isSeat_17 : decode cX5_isSeat 17 = .ok (.if_icmp .ge 7, 3) := by decide +kernel
theorem dX5_isSeat_20 : decode cX5_isSeat 20 = .ok (.iconst 1, 1) := by decide +kernel
theorem dX5_isSeat_21 : decode cX5_isSeat 21 = .ok (.goto 4, 3) := by decide +kernel
theorem dX5_isSeat_24 : decode cX5_isSeat 24 = .ok (.iconst 0, 1) := by decide +kernel
theorem dX5_isSeat_25 : decode cX5_isSeat 25 = .ok (.ireturn, 1) := by decide +kernel
theorem dX5_umpireAt_0 : decode cX5_umpireAt 0 = .ok (.iload_n 1, 1) := by decide +kernel
theorem dX5_umpireAt_1 : decode cX5_umpireAt 1 = .ok (.ifCond .lt 26, 3) := by decide +kernel
theorem dX5_umpireAt_4 : decode cX5_umpireAt 4 = .ok (.iload_n 1, 1) := by decide +kernel
theorem dX5_umpireAt_5 : decode cX5_umpireAt 5 = .ok (.aload_n 0, 1) := by decide +kernel
theorem dX5_umpireAt_6 : decode cX5_umpireAt 6 = .ok (.getfield 73, 3) := by decide +kernel
theorem dX5_umpireAt_9 : decode cX5_umpireAt 9 = .ok (.if_icmp .ge 18, 3) := by decide +kernel
theorem dX5_umpireAt_12 : decode cX5_umpireAt 12 = .ok (.iload_n 1, 1) := by decide +kernel
theorem dX5_umpireAt_13 : decode cX5_umpireAt 13 = .ok (.bipush 20, 2) := by decide +kernel
theorem dX5_umpireAt_15 : decode cX5_umpireAt 15 = .ok (.if_icmp .ge 12, 3) := by decide +kernel
theorem dX5_umpireAt_18 : decode cX5_umpireAt 18 = .ok (.aload_n 0, 1) := by decide +kernel
theorem dX5_umpireAt_19 : decode cX5_umpireAt 19 = .ok (.getfield 25, 3) := by decide +kernel
theorem dX5_umpireAt_22 : decode cX5_umpireAt 22 = .ok (.iload_n 1, 1) := by decide +kernel
theorem dX5_umpireAt_23 : decode cX5_umpireAt 23 = .ok (.aaload, 1) := by decide +kernel
theorem dX5_umpireAt_24 : decode cX5_umpireAt 24 = .ok (.goto 4, 3) := by decide +kernel
theorem dX5_umpireAt_27 : decode cX5_umpireAt 27 = .ok (.aconst_null, 1) := by decide +kernel
theorem dX5_umpireAt_28 : decode cX5_umpireAt 28 = .ok (.areturn, 1) := by decide +kernel
theorem dX5_holderOf_0 : decode cX5_holderOf 0 = .ok (.aload_n 0, 1) := by decide +kernel
theorem dX5_holderOf_1 : decode cX5_holderOf 1 = .ok (.iload_n 1, 1) := by decide +kernel
theorem dX5_holderOf_2 : decode cX5_holderOf 2 = .ok (.invokevirtual 150, 3) := by decide +kernel
theorem dX5_holderOf_5 : decode cX5_holderOf 5 = .ok (.ifCond .eq 16, 3) := by decide +kernel
theorem dX5_holderOf_8 : decode cX5_holderOf 8 = .ok (.aload_n 0, 1) := by decide +kernel
theorem dX5_holderOf_9 : decode cX5_holderOf 9 = .ok (.aload_n 0, 1) := by decide +kernel
theorem dX5_holderOf_10 : decode cX5_holderOf 10 = .ok (.getfield 36, 3) := by decide +kernel
theorem dX5_holderOf_13 : decode cX5_holderOf 13 = .ok (.iload_n 1, 1) := by decide +kernel
theorem dX5_holderOf_14 : decode cX5_holderOf 14 = .ok (.iaload, 1) := by decide +kernel
theorem dX5_holderOf_15 : decode cX5_holderOf 15 = .ok (.invokevirtual 87, 3) := by decide +kernel
theorem dX5_holderOf_18 : decode cX5_holderOf 18 = .ok (.goto 4, 3) := by decide +kernel
theorem dX5_holderOf_21 : decode cX5_holderOf 21 = .ok (.aconst_null, 1) := by decide +kernel
theorem dX5_holderOf_22 : decode cX5_holderOf 22 = .ok (.areturn, 1) := by decide +kernel
theorem dX5_gameOf_0 : decode cX5_gameOf 0 = .ok (.aload_n 0, 1) := by decide +kernel
theorem dX5_gameOf_1 : decode cX5_gameOf 1 = .ok (.iload_n 1, 1) := by decide +kernel
theorem dX5_gameOf_2 : decode cX5_gameOf 2 = .ok (.invokevirtual 150, 3) := by decide +kernel
theorem dX5_gameOf_5 : decode cX5_gameOf 5 = .ok (.ifCond .eq 14, 3) := by decide +kernel
theorem dX5_gameOf_8 : decode cX5_gameOf 8 = .ok (.aload_n 0, 1) := by decide +kernel
theorem dX5_gameOf_9 : decode cX5_gameOf 9 = .ok (.getfield 31, 3) := by decide +kernel
theorem dX5_gameOf_12 : decode cX5_gameOf 12 = .ok (.iload_n 1, 1) := by decide +kernel
theorem dX5_gameOf_13 : decode cX5_gameOf 13 = .ok (.iconst 2, 1) := by decide +kernel
theorem dX5_gameOf_14 : decode cX5_gameOf 14 = .ok (.idiv, 1) := by decide +kernel
theorem dX5_gameOf_15 : decode cX5_gameOf 15 = .ok (.aaload, 1) := by decide +kernel
theorem dX5_gameOf_16 : decode cX5_gameOf 16 = .ok (.goto 4, 3) := by decide +kernel
theorem dX5_gameOf_19 : decode cX5_gameOf 19 = .ok (.aconst_null, 1) := by decide +kernel
theorem dX5_gameOf_20 : decode cX5_gameOf 20 = .ok (.areturn, 1) := by decide +kernel
theorem dX5_fits_0 : decode cX5_fits 0 = .ok (.aload_n 0, 1) := by decide +kernel
theorem dX5_fits_1 : decode cX5_fits 1 = .ok (.iload_n 2, 1) := by decide +kernel
theorem dX5_fits_2 : decode cX5_fits 2 = .ok (.invokevirtual 198, 3) := by decide +kernel
theorem dX5_fits_5 : decode cX5_fits 5 = .ok (.astore_n 3, 1) := by decide +kernel
theorem dX5_fits_6 : decode cX5_fits 6 = .ok (.aload_n 1, 1) := by decide +kernel
theorem dX5_fits_7 : decode cX5_fits 7 = .ok (.ifnull 7, 3) := by decide +kernel
theorem dX5_fits_10 : decode cX5_fits 10 = .ok (.aload_n 3, 1) := by decide +kernel
theorem dX5_fits_11 : decode cX5_fits 11 = .ok (.ifnonnull 5, 3) := by decide +kernel
theorem dX5_fits_14 : decode cX5_fits 14 = .ok (.iconst 0, 1) := by decide +kernel
theorem dX5_fits_15 : decode cX5_fits 15 = .ok (.ireturn, 1) := by decide +kernel
theorem dX5_fits_16 : decode cX5_fits 16 = .ok (.aload_n 1, 1) := by decide +kernel
theorem dX5_fits_17 : decode cX5_fits 17 = .ok (.aload_n 0, 1) := by decide +kernel
theorem dX5_fits_18 : decode cX5_fits 18 = .ok (.getfield 91, 3) := by decide +kernel
theorem dX5_fits_21 : decode cX5_fits 21 = .ok (.invokevirtual 202, 3) := by decide +kernel
theorem dX5_fits_24 : decode cX5_fits 24 = .ok (.ifCond .ne 92, 3) := by decide +kernel
theorem dX5_fits_27 : decode cX5_fits 27 = .ok (.aload_n 1, 1) := by decide +kernel
theorem dX5_fits_28 : decode cX5_fits 28 = .ok (.getfield 205, 3) := by decide +kernel
theorem dX5_fits_31 : decode cX5_fits 31 = .ok (.aload_n 3, 1) := by decide +kernel
theorem dX5_fits_32 : decode cX5_fits 32 = .ok (.getfield 208, 3) := by decide +kernel
theorem dX5_fits_35 : decode cX5_fits 35 = .ok (.iand, 1) := by decide +kernel
theorem dX5_fits_36 : decode cX5_fits 36 = .ok (.ifCond .ne 80, 3) := by decide +kernel
theorem dX5_fits_39 : decode cX5_fits 39 = .ok (.aload_n 1, 1) := by decide +kernel
theorem dX5_fits_40 : decode cX5_fits 40 = .ok (.getfield 173, 3) := by decide +kernel
theorem dX5_fits_43 : decode cX5_fits 43 = .ok (.aload_n 3, 1) := by decide +kernel
theorem dX5_fits_44 : decode cX5_fits 44 = .ok (.getfield 211, 3) := by decide +kernel
theorem dX5_fits_47 : decode cX5_fits 47 = .ok (.iload_n 2, 1) := by decide +kernel
theorem dX5_fits_48 : decode cX5_fits 48 = .ok (.iconst 2, 1) := by decide +kernel
theorem dX5_fits_49 : decode cX5_fits 49 = .ok (.irem, 1) := by decide +kernel
theorem dX5_fits_50 : decode cX5_fits 50 = .ok (.iadd, 1) := by decide +kernel
theorem dX5_fits_51 : decode cX5_fits 51 = .ok (.if_icmp .gt 65, 3) := by decide +kernel
theorem dX5_fits_54 : decode cX5_fits 54 = .ok (.aload_n 3, 1) := by decide +kernel
theorem dX5_fits_55 : decode cX5_fits 55 = .ok (.aload_n 1, 1) := by decide +kernel
theorem dX5_fits_56 : decode cX5_fits 56 = .ok (.invokevirtual 214, 3) := by decide +kernel
theorem dX5_fits_59 : decode cX5_fits 59 = .ok (.aload_n 0, 1) := by decide +kernel
theorem dX5_fits_60 : decode cX5_fits 60 = .ok (.getfield 19, 3) := by decide +kernel
theorem dX5_fits_63 : decode cX5_fits 63 = .ok (.iconst 2, 1) := by decide +kernel
theorem dX5_fits_64 : decode cX5_fits 64 = .ok (.invokevirtual 69, 3) := by decide +kernel
theorem dX5_fits_67 : decode cX5_fits 67 = .ok (.if_icmp .gt 49, 3) := by decide +kernel
theorem dX5_fits_70 : decode cX5_fits 70 = .ok (.aload_n 1, 1) := by decide +kernel
theorem dX5_fits_71 : decode cX5_fits 71 = .ok (.aload_n 0, 1) := by decide +kernel
theorem dX5_fits_72 : decode cX5_fits 72 = .ok (.getfield 91, 3) := by decide +kernel
theorem dX5_fits_75 : decode cX5_fits 75 = .ok (.aload_n 0, 1) := by decide +kernel
theorem dX5_fits_76 : decode cX5_fits 76 = .ok (.getfield 19, 3) := by decide +kernel
theorem dX5_fits_79 : decode cX5_fits 79 = .ok (.iconst 0, 1) := by decide +kernel
theorem dX5_fits_80 : decode cX5_fits 80 = .ok (.invokevirtual 69, 3) := by decide +kernel
theorem dX5_fits_83 : decode cX5_fits 83 = .ok (.invokevirtual 218, 3) := by decide +kernel
theorem dX5_fits_86 : decode cX5_fits 86 = .ok (.ifCond .ne 30, 3) := by decide +kernel
theorem dX5_fits_89 : decode cX5_fits 89 = .ok (.aload_n 1, 1) := by decide +kernel
theorem dX5_fits_90 : decode cX5_fits 90 = .ok (.aload_n 3, 1) := by decide +kernel
theorem dX5_fits_91 : decode cX5_fits 91 = .ok (.getfield 208, 3) := by decide +kernel
theorem dX5_fits_94 : decode cX5_fits 94 = .ok (.aload_n 0, 1) := by decide +kernel
theorem dX5_fits_95 : decode cX5_fits 95 = .ok (.getfield 91, 3) := by decide +kernel
theorem dX5_fits_98 : decode cX5_fits 98 = .ok (.aload_n 0, 1) := by decide +kernel
theorem dX5_fits_99 : decode cX5_fits 99 = .ok (.getfield 19, 3) := by decide +kernel
theorem dX5_fits_102 : decode cX5_fits 102 = .ok (.iconst 1, 1) := by decide +kernel
theorem dX5_fits_103 : decode cX5_fits 103 = .ok (.invokevirtual 69, 3) := by decide +kernel
theorem dX5_fits_106 : decode cX5_fits 106 = .ok (.invokevirtual 221, 3) := by decide +kernel
theorem dX5_fits_109 : decode cX5_fits 109 = .ok (.ifCond .ne 7, 3) := by decide +kernel
theorem dX5_fits_112 : decode cX5_fits 112 = .ok (.iconst 1, 1) := by decide +kernel
theorem dX5_fits_113 : decode cX5_fits 113 = .ok (.goto 4, 3) := by decide +kernel
theorem dX5_fits_116 : decode cX5_fits 116 = .ok (.iconst 0, 1) := by decide +kernel
theorem dX5_fits_117 : decode cX5_fits 117 = .ok (.ireturn, 1) := by decide +kernel
theorem dX5_price_0 : decode cX5_price 0 = .ok (.aload_n 0, 1) := by decide +kernel
theorem dX5_price_1 : decode cX5_price 1 = .ok (.iload_n 2, 1) := by decide +kernel
theorem dX5_price_2 : decode cX5_price 2 = .ok (.invokevirtual 198, 3) := by decide +kernel
theorem dX5_price_5 : decode cX5_price 5 = .ok (.astore_n 3, 1) := by decide +kernel
theorem dX5_price_6 : decode cX5_price 6 = .ok (.aload_n 1, 1) := by decide +kernel
theorem dX5_price_7 : decode cX5_price 7 = .ok (.ifnull 7, 3) := by decide +kernel
theorem dX5_price_10 : decode cX5_price 10 = .ok (.aload_n 3, 1) := by decide +kernel
theorem dX5_price_11 : decode cX5_price 11 = .ok (.ifnonnull 5, 3) := by decide +kernel
theorem dX5_price_14 : decode cX5_price 14 = .ok (.iconst (-1), 1) := by decide +kernel
theorem dX5_price_15 : decode cX5_price 15 = .ok (.ireturn, 1) := by decide +kernel
theorem dX5_price_16 : decode cX5_price 16 = .ok (.aload_n 3, 1) := by decide +kernel
theorem dX5_price_17 : decode cX5_price 17 = .ok (.aload_n 1, 1) := by decide +kernel
theorem dX5_price_18 : decode cX5_price 18 = .ok (.invokevirtual 214, 3) := by decide +kernel
theorem dX5_price_21 : decode cX5_price 21 = .ok (.aload_n 0, 1) := by decide +kernel
theorem dX5_price_22 : decode cX5_price 22 = .ok (.getfield 19, 3) := by decide +kernel
theorem dX5_price_25 : decode cX5_price 25 = .ok (.iconst 3, 1) := by decide +kernel
theorem dX5_price_26 : decode cX5_price 26 = .ok (.invokevirtual 69, 3) := by decide +kernel
theorem dX5_price_29 : decode cX5_price 29 = .ok (.aload_n 1, 1) := by decide +kernel
theorem dX5_price_30 : decode cX5_price 30 = .ok (.getfield 176, 3) := by decide +kernel
theorem dX5_price_33 : decode cX5_price 33 = .ok (.imul, 1) := by decide +kernel
theorem dX5_price_34 : decode cX5_price 34 = .ok (.iadd, 1) := by decide +kernel
theorem dX5_price_35 : decode cX5_price 35 = .ok (.ireturn, 1) := by decide +kernel
theorem dX5_filledSeats_0 : decode cX5_filledSeats 0 = .ok (.iconst 0, 1) := by decide +kernel
theorem dX5_filledSeats_1 : decode cX5_filledSeats 1 = .ok (.istore_n 1, 1) := by decide +kernel
theorem dX5_filledSeats_2 : decode cX5_filledSeats 2 = .ok (.iconst 0, 1) := by decide +kernel
theorem dX5_filledSeats_3 : decode cX5_filledSeats 3 = .ok (.istore_n 2, 1) := by decide +kernel
theorem dX5_filledSeats_4 : decode cX5_filledSeats 4 = .ok (.iload_n 2, 1) := by decide +kernel
theorem dX5_filledSeats_5 : decode cX5_filledSeats 5 = .ok (.iconst 2, 1) := by decide +kernel
theorem dX5_filledSeats_6 : decode cX5_filledSeats 6 = .ok (.aload_n 0, 1) := by decide +kernel
theorem dX5_filledSeats_7 : decode cX5_filledSeats 7 = .ok (.getfield 101, 3) := by decide +kernel
theorem dX5_filledSeats_10 : decode cX5_filledSeats 10 = .ok (.imul, 1) := by decide +kernel
theorem dX5_filledSeats_11 : decode cX5_filledSeats 11 = .ok (.if_icmp .ge 20, 3) := by decide +kernel
theorem dX5_filledSeats_14 : decode cX5_filledSeats 14 = .ok (.aload_n 0, 1) := by decide +kernel
theorem dX5_filledSeats_15 : decode cX5_filledSeats 15 = .ok (.iload_n 2, 1) := by decide +kernel
theorem dX5_filledSeats_16 : decode cX5_filledSeats 16 = .ok (.invokevirtual 153, 3) := by decide +kernel
theorem dX5_filledSeats_19 : decode cX5_filledSeats 19 = .ok (.ifnull 6, 3) := by decide +kernel
theorem dX5_filledSeats_22 : decode cX5_filledSeats 22 = .ok (.iinc 1 1, 3) := by decide +kernel
theorem dX5_filledSeats_25 : decode cX5_filledSeats 25 = .ok (.iinc 2 1, 3) := by decide +kernel
theorem dX5_filledSeats_28 : decode cX5_filledSeats 28 = .ok (.goto (-24), 3) := by decide +kernel
theorem dX5_filledSeats_31 : decode cX5_filledSeats 31 = .ok (.iload_n 1, 1) := by decide +kernel
theorem dX5_filledSeats_32 : decode cX5_filledSeats 32 = .ok (.ireturn, 1) := by decide +kernel
theorem dX5_clearSeat_0 : decode cX5_clearSeat 0 = .ok (.aload_n 0, 1) := by decide +kernel
theorem dX5_clearSeat_1 : decode cX5_clearSeat 1 = .ok (.iload_n 1, 1) := by decide +kernel
theorem dX5_clearSeat_2 : decode cX5_clearSeat 2 = .ok (.invokevirtual 153, 3) := by decide +kernel
theorem dX5_clearSeat_5 : decode cX5_clearSeat 5 = .ok (.astore_n 2, 1) := by decide +kernel
theorem dX5_clearSeat_6 : decode cX5_clearSeat 6 = .ok (.aload_n 2, 1) := by decide +kernel
theorem dX5_clearSeat_7 : decode cX5_clearSeat 7 = .ok (.ifnull 15, 3) := by decide +kernel
theorem dX5_clearSeat_10 : decode cX5_clearSeat 10 = .ok (.aload_n 2, 1) := by decide +kernel
theorem dX5_clearSeat_11 : decode cX5_clearSeat 11 = .ok (.iconst (-1), 1) := by decide +kernel
theorem dX5_clearSeat_12 : decode cX5_clearSeat 12 = .ok (.putfield 94, 3) := by decide +kernel
theorem dX5_clearSeat_15 : decode cX5_clearSeat 15 = .ok (.aload_n 0, 1) := by decide +kernel
theorem dX5_clearSeat_16 : decode cX5_clearSeat 16 = .ok (.getfield 36, 3) := by decide +kernel
theorem dX5_clearSeat_19 : decode cX5_clearSeat 19 = .ok (.iload_n 1, 1) := by decide +kernel
theorem dX5_clearSeat_20 : decode cX5_clearSeat 20 = .ok (.iconst (-1), 1) := by decide +kernel
theorem dX5_clearSeat_21 : decode cX5_clearSeat 21 = .ok (.iastore, 1) := by decide +kernel
theorem dX5_clearSeat_22 : decode cX5_clearSeat 22 = .ok (.return_, 1) := by decide +kernel
theorem dX5_fillSeat_0 : decode cX5_fillSeat 0 = .ok (.aload_n 0, 1) := by decide +kernel
theorem dX5_fillSeat_1 : decode cX5_fillSeat 1 = .ok (.iload_n 2, 1) := by decide +kernel
theorem dX5_fillSeat_2 : decode cX5_fillSeat 2 = .ok (.invokevirtual 87, 3) := by decide +kernel
theorem dX5_fillSeat_5 : decode cX5_fillSeat 5 = .ok (.astore_n 3, 1) := by decide +kernel
theorem dX5_fillSeat_6 : decode cX5_fillSeat 6 = .ok (.aload_n 3, 1) := by decide +kernel
theorem dX5_fillSeat_7 : decode cX5_fillSeat 7 = .ok (.ifnull 23, 3) := by decide +kernel
theorem dX5_fillSeat_10 : decode cX5_fillSeat 10 = .ok (.aload_n 0, 1) := by decide +kernel
theorem dX5_fillSeat_11 : decode cX5_fillSeat 11 = .ok (.iload_n 1, 1) := by decide +kernel
theorem dX5_fillSeat_12 : decode cX5_fillSeat 12 = .ok (.invokevirtual 150, 3) := by decide +kernel
theorem dX5_fillSeat_15 : decode cX5_fillSeat 15 = .ok (.ifCond .eq 15, 3) := by decide +kernel
theorem dX5_fillSeat_18 : decode cX5_fillSeat 18 = .ok (.aload_n 3, 1) := by decide +kernel
theorem dX5_fillSeat_19 : decode cX5_fillSeat 19 = .ok (.iload_n 1, 1) := by decide +kernel
theorem dX5_fillSeat_20 : decode cX5_fillSeat 20 = .ok (.putfield 94, 3) := by decide +kernel
theorem dX5_fillSeat_23 : decode cX5_fillSeat 23 = .ok (.aload_n 0, 1) := by decide +kernel
theorem dX5_fillSeat_24 : decode cX5_fillSeat 24 = .ok (.getfield 36, 3) := by decide +kernel
theorem dX5_fillSeat_27 : decode cX5_fillSeat 27 = .ok (.iload_n 1, 1) := by decide +kernel
theorem dX5_fillSeat_28 : decode cX5_fillSeat 28 = .ok (.iload_n 2, 1) := by decide +kernel
theorem dX5_fillSeat_29 : decode cX5_fillSeat 29 = .ok (.iastore, 1) := by decide +kernel
theorem dX5_fillSeat_30 : decode cX5_fillSeat 30 = .ok (.return_, 1) := by decide +kernel
theorem dX5_cheapestFree_0 : decode cX5_cheapestFree 0 = .ok (.iconst (-1), 1) := by decide +kernel
theorem dX5_cheapestFree_1 : decode cX5_cheapestFree 1 = .ok (.istore_n 2, 1) := by decide +kernel
theorem dX5_cheapestFree_2 : decode cX5_cheapestFree 2 = .ok (.iconst 0, 1) := by decide +kernel
theorem dX5_cheapestFree_3 : decode cX5_cheapestFree 3 = .ok (.istore_n 3, 1) := by decide +kernel
theorem dX5_cheapestFree_4 : decode cX5_cheapestFree 4 = .ok (.iconst 0, 1) := by decide +kernel
theorem dX5_cheapestFree_5 : decode cX5_cheapestFree 5 = .ok (.istore 4, 2) := by decide +kernel
theorem dX5_cheapestFree_7 : decode cX5_cheapestFree 7 = .ok (.iload 4, 2) := by decide +kernel
theorem dX5_cheapestFree_9 : decode cX5_cheapestFree 9 = .ok (.aload_n 0, 1) := by decide +kernel
theorem dX5_cheapestFree_10 : decode cX5_cheapestFree 10 = .ok (.getfield 73, 3) := by decide +kernel
theorem dX5_cheapestFree_13 : decode cX5_cheapestFree 13 = .ok (.if_icmp .ge 67, 3) := by decide +kernel
theorem dX5_cheapestFree_16 : decode cX5_cheapestFree 16 = .ok (.aload_n 0, 1) := by decide +kernel
theorem dX5_cheapestFree_17 : decode cX5_cheapestFree 17 = .ok (.iload 4, 2) := by decide +kernel
theorem dX5_cheapestFree_19 : decode cX5_cheapestFree 19 = .ok (.invokevirtual 87, 3) := by decide +kernel
theorem dX5_cheapestFree_22 : decode cX5_cheapestFree 22 = .ok (.astore 5, 2) := by decide +kernel
theorem dX5_cheapestFree_24 : decode cX5_cheapestFree 24 = .ok (.aload 5, 2) := by decide +kernel
theorem dX5_cheapestFree_26 : decode cX5_cheapestFree 26 = .ok (.ifnull 48, 3) := by decide +kernel
theorem dX5_cheapestFree_29 : decode cX5_cheapestFree 29 = .ok (.aload 5, 2) := by decide +kernel
theorem dX5_cheapestFree_31 : decode cX5_cheapestFree 31 = .ok (.getfield 94, 3) := by decide +kernel
theorem dX5_cheapestFree_34 : decode cX5_cheapestFree 34 = .ok (.iconst (-1), 1) := by decide +kernel
theorem dX5_cheapestFree_35 : decode cX5_cheapestFree 35 = .ok (.if_icmp .ne 39, 3) := by decide +kernel
theorem dX5_cheapestFree_38 : decode cX5_cheapestFree 38 = .ok (.aload_n 0, 1) := by decide +kernel
theorem dX5_cheapestFree_39 : decode cX5_cheapestFree 39 = .ok (.aload 5, 2) := by decide +kernel
theorem dX5_cheapestFree_41 : decode cX5_cheapestFree 41 = .ok (.iload_n 1, 1) := by decide +kernel
theorem dX5_cheapestFree_42 : decode cX5_cheapestFree 42 = .ok (.invokevirtual 110, 3) := by decide +kernel
theorem dX5_cheapestFree_45 : decode cX5_cheapestFree 45 = .ok (.ifCond .eq 29, 3) := by decide +kernel
theorem dX5_cheapestFree_48 : decode cX5_cheapestFree 48 = .ok (.aload_n 0, 1) := by decide +kernel
theorem dX5_cheapestFree_49 : decode cX5_cheapestFree 49 = .ok (.aload 5, 2) := by decide +kernel
theorem dX5_cheapestFree_51 : decode cX5_cheapestFree 51 = .ok (.iload_n 1, 1) := by decide +kernel
theorem dX5_cheapestFree_52 : decode cX5_cheapestFree 52 = .ok (.invokevirtual 114, 3) := by decide +kernel
theorem dX5_cheapestFree_55 : decode cX5_cheapestFree 55 = .ok (.istore 6, 2) := by decide +kernel
theorem dX5_cheapestFree_57 : decode cX5_cheapestFree 57 = .ok (.iload_n 2, 1) := by decide +kernel
theorem dX5_cheapestFree_58 : decode cX5_cheapestFree 58 = .ok (.iconst (-1), 1) := by decide +kernel
theorem dX5_cheapestFree_59 : decode cX5_cheapestFree 59 = .ok (.if_icmp .eq 9, 3) := by decide +kernel
theorem dX5_cheapestFree_62 : decode cX5_cheapestFree 62 = .ok (.iload 6, 2) := by decide +kernel
theorem dX5_cheapestFree_64 : decode cX5_cheapestFree 64 = .ok (.iload_n 3, 1) := by decide +kernel
theorem dX5_cheapestFree_65 : decode cX5_cheapestFree 65 = .ok (.if_icmp .ge 9, 3) := by decide +kernel
theorem dX5_cheapestFree_68 : decode cX5_cheapestFree 68 = .ok (.iload 4, 2) := by decide +kernel
theorem dX5_cheapestFree_70 : decode cX5_cheapestFree 70 = .ok (.istore_n 2, 1) := by decide +kernel
theorem dX5_cheapestFree_71 : decode cX5_cheapestFree 71 = .ok (.iload 6, 2) := by decide +kernel
theorem dX5_cheapestFree_73 : decode cX5_cheapestFree 73 = .ok (.istore_n 3, 1) := by decide +kernel
theorem dX5_cheapestFree_74 : decode cX5_cheapestFree 74 = .ok (.iinc 4 1, 3) := by decide +kernel
theorem dX5_cheapestFree_77 : decode cX5_cheapestFree 77 = .ok (.goto (-70), 3) := by decide +kernel
theorem dX5_cheapestFree_80 : decode cX5_cheapestFree 80 = .ok (.iload_n 2, 1) := by decide +kernel
theorem dX5_cheapestFree_81 : decode cX5_cheapestFree 81 = .ok (.ireturn, 1) := by decide +kernel
theorem dX5_fillByMove_0 : decode cX5_fillByMove 0 = .ok (.iconst (-1), 1) := by decide +kernel
theorem dX5_fillByMove_1 : decode cX5_fillByMove 1 = .ok (.istore_n 2, 1) := by decide +kernel
theorem dX5_fillByMove_2 : decode cX5_fillByMove 2 = .ok (.iconst (-1), 1) := by decide +kernel
theorem dX5_fillByMove_3 : decode cX5_fillByMove 3 = .ok (.istore_n 3, 1) := by decide +kernel
theorem dX5_fillByMove_4 : decode cX5_fillByMove 4 = .ok (.iconst 0, 1) := by decide +kernel
theorem dX5_fillByMove_5 : decode cX5_fillByMove 5 = .ok (.istore 4, 2) := by decide +kernel
theorem dX5_fillByMove_7 : decode cX5_fillByMove 7 = .ok (.iconst 0, 1) := by decide +kernel
theorem dX5_fillByMove_8 : decode cX5_fillByMove 8 = .ok (.istore 5, 2) := by decide +kernel
theorem dX5_fillByMove_10 : decode cX5_fillByMove 10 = .ok (.iload 5, 2) := by decide +kernel
theorem dX5_fillByMove_12 : decode cX5_fillByMove 12 = .ok (.iconst 2, 1) := by decide +kernel
theorem dX5_fillByMove_13 : decode cX5_fillByMove 13 = .ok (.aload_n 0, 1) := by decide +kernel
theorem dX5_fillByMove_14 : decode cX5_fillByMove 14 = .ok (.getfield 101, 3) := by decide +kernel
theorem dX5_fillByMove_17 : decode cX5_fillByMove 17 = .ok (.imul, 1) := by decide +kernel
theorem dX5_fillByMove_18 : decode cX5_fillByMove 18 = .ok (.if_icmp .ge 104, 3) := by decide +kernel
theorem dX5_fillByMove_21 : decode cX5_fillByMove 21 = .ok (.aload_n 0, 1) := by decide +kernel
theorem dX5_fillByMove_22 : decode cX5_fillByMove 22 = .ok (.iload 5, 2) := by decide +kernel
theorem dX5_fillByMove_24 : decode cX5_fillByMove 24 = .ok (.invokevirtual 153, 3) := by decide +kernel
theorem dX5_fillByMove_27 : decode cX5_fillByMove 27 = .ok (.astore 6, 2) := by decide +kernel
theorem dX5_fillByMove_29 : decode cX5_fillByMove 29 = .ok (.iload 5, 2) := by decide +kernel
theorem dX5_fillByMove_31 : decode cX5_fillByMove 31 = .ok (.iload_n 1, 1) := by decide +kernel
theorem dX5_fillByMove_32 : decode cX5_fillByMove 32 = .ok (.if_icmp .eq 22, 3) := by decide +kernel
theorem dX5_fillByMove_35 : decode cX5_fillByMove 35 = .ok (.aload_n 0, 1) := by decide +kernel
theorem dX5_fillByMove_36 : decode cX5_fillByMove 36 = .ok (.aload 6, 2) := by decide +kernel
theorem dX5_fillByMove_38 : decode cX5_fillByMove 38 = .ok (.iload_n 1, 1) := by decide +kernel
theorem dX5_fillByMove_39 : decode cX5_fillByMove 39 = .ok (.invokevirtual 110, 3) := by decide +kernel
theorem dX5_fillByMove_42 : decode cX5_fillByMove 42 = .ok (.ifCond .eq 12, 3) := by decide +kernel
theorem dX5_fillByMove_45 : decode cX5_fillByMove 45 = .ok (.aload_n 0, 1) := by decide +kernel
theorem dX5_fillByMove_46 : decode cX5_fillByMove 46 = .ok (.iload 5, 2) := by decide +kernel
theorem dX5_fillByMove_48 : decode cX5_fillByMove 48 = .ok (.invokevirtual 144, 3) := by decide +kernel
theorem dX5_fillByMove_51 : decode cX5_fillByMove 51 = .ok (.goto 4, 3) := by decide +kernel
theorem dX5_fillByMove_54 : decode cX5_fillByMove 54 = .ok (.iconst (-1), 1) := by decide +kernel
theorem dX5_fillByMove_55 : decode cX5_fillByMove 55 = .ok (.istore 7, 2) := by decide +kernel
theorem dX5_fillByMove_57 : decode cX5_fillByMove 57 = .ok (.iload 7, 2) := by decide +kernel
theorem dX5_fillByMove_59 : decode cX5_fillByMove 59 = .ok (.iconst (-1), 1) := by decide +kernel
theorem dX5_fillByMove_60 : decode cX5_fillByMove 60 = .ok (.if_icmp .eq 56, 3) := by decide +kernel
theorem dX5_fillByMove_63 : decode cX5_fillByMove 63 = .ok (.aload_n 0, 1) := by decide +kernel
theorem dX5_fillByMove_64 : decode cX5_fillByMove 64 = .ok (.aload 6, 2) := by decide +kernel
theorem dX5_fillByMove_66 : decode cX5_fillByMove 66 = .ok (.iload_n 1, 1) := by decide +kernel
theorem dX5_fillByMove_67 : decode cX5_fillByMove 67 = .ok (.invokevirtual 114, 3) := by decide +kernel
theorem dX5_fillByMove_70 : decode cX5_fillByMove 70 = .ok (.aload_n 0, 1) := by decide +kernel
theorem dX5_fillByMove_71 : decode cX5_fillByMove 71 = .ok (.aload 6, 2) := by decide +kernel
theorem dX5_fillByMove_73 : decode cX5_fillByMove 73 = .ok (.iload 5, 2) := by decide +kernel
theorem dX5_fillByMove_75 : decode cX5_fillByMove 75 = .ok (.invokevirtual 114, 3) := by decide +kernel
theorem dX5_fillByMove_78 : decode cX5_fillByMove 78 = .ok (.isub, 1) := by decide +kernel
theorem dX5_fillByMove_79 : decode cX5_fillByMove 79 = .ok (.aload_n 0, 1) := by decide +kernel
theorem dX5_fillByMove_80 : decode cX5_fillByMove 80 = .ok (.aload_n 0, 1) := by decide +kernel
theorem dX5_fillByMove_81 : decode cX5_fillByMove 81 = .ok (.iload 7, 2) := by decide +kernel
theorem dX5_fillByMove_83 : decode cX5_fillByMove 83 = .ok (.invokevirtual 87, 3) := by decide +kernel
theorem dX5_fillByMove_86 : decode cX5_fillByMove 86 = .ok (.iload 5, 2) := by decide +kernel
theorem dX5_fillByMove_88 : decode cX5_fillByMove 88 = .ok (.invokevirtual 114, 3) := by decide +kernel
theorem dX5_fillByMove_91 : decode cX5_fillByMove 91 = .ok (.iadd, 1) := by decide +kernel
theorem dX5_fillByMove_92 : decode cX5_fillByMove 92 = .ok (.istore 8, 2) := by decide +kernel
theorem dX5_fillByMove_94 : decode cX5_fillByMove 94 = .ok (.iload_n 2, 1) := by decide +kernel
theorem dX5_fillByMove_95 : decode cX5_fillByMove 95 = .ok (.iconst (-1), 1) := by decide +kernel
theorem dX5_fillByMove_96 : decode cX5_fillByMove 96 = .ok (.if_icmp .eq 10, 3) := by decide +kernel
theorem dX5_fillByMove_99 : decode cX5_fillByMove 99 = .ok (.iload 8, 2) := by decide +kernel
theorem dX5_fillByMove_101 : decode cX5_fillByMove 101 = .ok (.iload 4, 2) := by decide +kernel
theorem dX5_fillByMove_103 : decode cX5_fillByMove 103 = .ok (.if_icmp .ge 13, 3) := by decide +kernel
theorem dX5_fillByMove_106 : decode cX5_fillByMove 106 = .ok (.iload 5, 2) := by decide +kernel
theorem dX5_fillByMove_108 : decode cX5_fillByMove 108 = .ok (.istore_n 2, 1) := by decide +kernel
theorem dX5_fillByMove_109 : decode cX5_fillByMove 109 = .ok (.iload 7, 2) := by decide +kernel
theorem dX5_fillByMove_111 : decode cX5_fillByMove 111 = .ok (.istore_n 3, 1) := by decide +kernel
theorem dX5_fillByMove_112 : decode cX5_fillByMove 112 = .ok (.iload 8, 2) := by decide +kernel
theorem dX5_fillByMove_114 : decode cX5_fillByMove 114 = .ok (.istore 4, 2) := by decide +kernel
theorem dX5_fillByMove_116 : decode cX5_fillByMove 116 = .ok (.iinc 5 1, 3) := by decide +kernel
theorem dX5_fillByMove_119 : decode cX5_fillByMove 119 = .ok (.goto (-109), 3) := by decide +kernel
theorem dX5_fillByMove_122 : decode cX5_fillByMove 122 = .ok (.aload_n 0, 1) := by decide +kernel
theorem dX5_fillByMove_123 : decode cX5_fillByMove 123 = .ok (.iload_n 2, 1) := by decide +kernel
theorem dX5_fillByMove_124 : decode cX5_fillByMove 124 = .ok (.invokevirtual 150, 3) := by decide +kernel
theorem dX5_fillByMove_127 : decode cX5_fillByMove 127 = .ok (.ifCond .ne 5, 3) := by decide +kernel
theorem dX5_fillByMove_130 : decode cX5_fillByMove 130 = .ok (.iconst 0, 1) := by decide +kernel
theorem dX5_fillByMove_131 : decode cX5_fillByMove 131 = .ok (.ireturn, 1) := by decide +kernel
theorem dX5_fillByMove_132 : decode cX5_fillByMove 132 = .ok (.aload_n 0, 1) := by decide +kernel
theorem dX5_fillByMove_133 : decode cX5_fillByMove 133 = .ok (.getfield 36, 3) := by decide +kernel
theorem dX5_fillByMove_136 : decode cX5_fillByMove 136 = .ok (.iload_n 2, 1) := by decide +kernel
theorem dX5_fillByMove_137 : decode cX5_fillByMove 137 = .ok (.iaload, 1) := by decide +kernel
theorem dX5_fillByMove_138 : decode cX5_fillByMove 138 = .ok (.istore 5, 2) := by decide +kernel
theorem dX5_fillByMove_140 : decode cX5_fillByMove 140 = .ok (.aload_n 0, 1) := by decide +kernel
theorem dX5_fillByMove_141 : decode cX5_fillByMove 141 = .ok (.iload_n 2, 1) := by decide +kernel
theorem dX5_fillByMove_142 : decode cX5_fillByMove 142 = .ok (.invokevirtual 125, 3) := by decide +kernel
theorem dX5_fillByMove_145 : decode cX5_fillByMove 145 = .ok (.aload_n 0, 1) := by decide +kernel
theorem dX5_fillByMove_146 : decode cX5_fillByMove 146 = .ok (.iload_n 1, 1) := by decide +kernel
theorem dX5_fillByMove_147 : decode cX5_fillByMove 147 = .ok (.iload 5, 2) := by decide +kernel
theorem dX5_fillByMove_149 : decode cX5_fillByMove 149 = .ok (.invokevirtual 138, 3) := by decide +kernel
theorem dX5_fillByMove_152 : decode cX5_fillByMove 152 = .ok (.aload_n 0, 1) := by decide +kernel
theorem dX5_fillByMove_153 : decode cX5_fillByMove 153 = .ok (.iload_n 2, 1) := by decide +kernel
theorem dX5_fillByMove_154 : decode cX5_fillByMove 154 = .ok (.iload_n 3, 1) := by decide +kernel
theorem dX5_fillByMove_155 : decode cX5_fillByMove 155 = .ok (.invokevirtual 138, 3) := by decide +kernel
theorem dX5_fillByMove_158 : decode cX5_fillByMove 158 = .ok (.iconst 1, 1) := by decide +kernel
theorem dX5_fillByMove_159 : decode cX5_fillByMove 159 = .ok (.ireturn, 1) := by decide +kernel
theorem dX5_endSeat_0 : decode cX5_endSeat 0 = .ok (.aload_n 0, 1) := by decide +kernel
theorem dX5_endSeat_1 : decode cX5_endSeat 1 = .ok (.iload_n 1, 1) := by decide +kernel
theorem dX5_endSeat_2 : decode cX5_endSeat 2 = .ok (.invokevirtual 153, 3) := by decide +kernel
theorem dX5_endSeat_5 : decode cX5_endSeat 5 = .ok (.astore_n 2, 1) := by decide +kernel
theorem dX5_endSeat_6 : decode cX5_endSeat 6 = .ok (.aload_n 0, 1) := by decide +kernel
theorem dX5_endSeat_7 : decode cX5_endSeat 7 = .ok (.iload_n 1, 1) := by decide +kernel
theorem dX5_endSeat_8 : decode cX5_endSeat 8 = .ok (.invokevirtual 198, 3) := by decide +kernel
theorem dX5_endSeat_11 : decode cX5_endSeat 11 = .ok (.astore_n 3, 1) := by decide +kernel
theorem dX5_endSeat_12 : decode cX5_endSeat 12 = .ok (.aload_n 2, 1) := by decide +kernel
theorem dX5_endSeat_13 : decode cX5_endSeat 13 = .ok (.ifnull 19, 3) := by decide +kernel
theorem dX5_endSeat_16 : decode cX5_endSeat 16 = .ok (.aload_n 3, 1) := by decide +kernel
theorem dX5_endSeat_17 : decode cX5_endSeat 17 = .ok (.ifnull 15, 3) := by decide +kernel
theorem dX5_endSeat_20 : decode cX5_endSeat 20 = .ok (.aload_n 2, 1) := by decide +kernel
theorem dX5_endSeat_21 : decode cX5_endSeat 21 = .ok (.aload_n 0, 1) := by decide +kernel
theorem dX5_endSeat_22 : decode cX5_endSeat 22 = .ok (.getfield 91, 3) := by decide +kernel
theorem dX5_endSeat_25 : decode cX5_endSeat 25 = .ok (.aload_n 3, 1) := by decide +kernel
theorem dX5_endSeat_26 : decode cX5_endSeat 26 = .ok (.getfield 208, 3) := by decide +kernel
theorem dX5_endSeat_29 : decode cX5_endSeat 29 = .ok (.invokevirtual 225, 3) := by decide +kernel
theorem dX5_endSeat_32 : decode cX5_endSeat 32 = .ok (.aload_n 0, 1) := by decide +kernel
theorem dX5_endSeat_33 : decode cX5_endSeat 33 = .ok (.iload_n 1, 1) := by decide +kernel
theorem dX5_endSeat_34 : decode cX5_endSeat 34 = .ok (.invokevirtual 125, 3) := by decide +kernel
theorem dX5_endSeat_37 : decode cX5_endSeat 37 = .ok (.return_, 1) := by decide +kernel
theorem dX5_regrade_0 : decode cX5_regrade 0 = .ok (.aload_n 1, 1) := by decide +kernel
theorem dX5_regrade_1 : decode cX5_regrade 1 = .ok (.ifnull 26, 3) := by decide +kernel
theorem dX5_regrade_4 : decode cX5_regrade 4 = .ok (.aload_n 1, 1) := by decide +kernel
theorem dX5_regrade_5 : decode cX5_regrade 5 = .ok (.getfield 179, 3) := by decide +kernel
theorem dX5_regrade_8 : decode cX5_regrade 8 = .ok (.aload_n 0, 1) := by decide +kernel
theorem dX5_regrade_9 : decode cX5_regrade 9 = .ok (.getfield 19, 3) := by decide +kernel
theorem dX5_regrade_12 : decode cX5_regrade 12 = .ok (.bipush 8, 2) := by decide +kernel
theorem dX5_regrade_14 : decode cX5_regrade 14 = .ok (.invokevirtual 69, 3) := by decide +kernel
theorem dX5_regrade_17 : decode cX5_regrade 17 = .ok (.if_icmp .lt 10, 3) := by decide +kernel
theorem dX5_regrade_20 : decode cX5_regrade 20 = .ok (.aload_n 1, 1) := by decide +kernel
theorem dX5_regrade_21 : decode cX5_regrade 21 = .ok (.getfield 182, 3) := by decide +kernel
theorem dX5_regrade_24 : decode cX5_regrade 24 = .ok (.ifCond .ne 4, 3) := by decide +kernel
theorem dX5_regrade_27 : decode cX5_regrade 27 = .ok (.return_, 1) := by decide +kernel
theorem dX5_regrade_28 : decode cX5_regrade 28 = .ok (.aload_n 1, 1) := by decide +kernel
theorem dX5_regrade_29 : decode cX5_regrade 29 = .ok (.getfield 185, 3) := by decide +kernel
theorem dX5_regrade_32 : decode cX5_regrade 32 = .ok (.aload_n 0, 1) := by decide +kernel
theorem dX5_regrade_33 : decode cX5_regrade 33 = .ok (.getfield 19, 3) := by decide +kernel
theorem dX5_regrade_36 : decode cX5_regrade 36 = .ok (.bipush 6, 2) := by decide +kernel
theorem dX5_regrade_38 : decode cX5_regrade 38 = .ok (.invokevirtual 69, 3) := by decide +kernel
theorem dX5_regrade_41 : decode cX5_regrade 41 = .ok (.aload_n 1, 1) := by decide +kernel
theorem dX5_regrade_42 : decode cX5_regrade 42 = .ok (.getfield 182, 3) := by decide +kernel
theorem dX5_regrade_45 : decode cX5_regrade 45 = .ok (.imul, 1) := by decide +kernel
theorem dX5_regrade_46 : decode cX5_regrade 46 = .ok (.if_icmp .lt 7, 3) := by decide +kernel
theorem dX5_regrade_49 : decode cX5_regrade 49 = .ok (.iconst 1, 1) := by decide +kernel
theorem dX5_regrade_50 : decode cX5_regrade 50 = .ok (.goto 4, 3) := by decide +kernel
theorem dX5_regrade_53 : decode cX5_regrade 53 = .ok (.iconst 0, 1) := by decide +kernel
theorem dX5_regrade_54 : decode cX5_regrade 54 = .ok (.istore_n 2, 1) := by decide +kernel
theorem dX5_regrade_55 : decode cX5_regrade 55 = .ok (.aload_n 1, 1) := by decide +kernel
theorem dX5_regrade_56 : decode cX5_regrade 56 = .ok (.getfield 185, 3) := by decide +kernel
theorem dX5_regrade_59 : decode cX5_regrade 59 = .ok (.aload_n 0, 1) := by decide +kernel
theorem dX5_regrade_60 : decode cX5_regrade 60 = .ok (.getfield 19, 3) := by decide +kernel
theorem dX5_regrade_63 : decode cX5_regrade 63 = .ok (.bipush 7, 2) := by decide +kernel
theorem dX5_regrade_65 : decode cX5_regrade 65 = .ok (.invokevirtual 69, 3) := by decide +kernel
theorem dX5_regrade_68 : decode cX5_regrade 68 = .ok (.aload_n 1, 1) := by decide +kernel
theorem dX5_regrade_69 : decode cX5_regrade 69 = .ok (.getfield 182, 3) := by decide +kernel
theorem dX5_regrade_72 : decode cX5_regrade 72 = .ok (.imul, 1) := by decide +kernel
theorem dX5_regrade_73 : decode cX5_regrade 73 = .ok (.if_icmp .gt 7, 3) := by decide +kernel
theorem dX5_regrade_76 : decode cX5_regrade 76 = .ok (.iconst 1, 1) := by decide +kernel
theorem dX5_regrade_77 : decode cX5_regrade 77 = .ok (.goto 4, 3) := by decide +kernel
theorem dX5_regrade_80 : decode cX5_regrade 80 = .ok (.iconst 0, 1) := by decide +kernel
theorem dX5_regrade_81 : decode cX5_regrade 81 = .ok (.istore_n 3, 1) := by decide +kernel
theorem dX5_regrade_82 : decode cX5_regrade 82 = .ok (.iload_n 2, 1) := by decide +kernel
theorem dX5_regrade_83 : decode cX5_regrade 83 = .ok (.ifCond .eq 24, 3) := by decide +kernel
theorem dX5_regrade_86 : decode cX5_regrade 86 = .ok (.aload_n 1, 1) := by decide +kernel
theorem dX5_regrade_87 : decode cX5_regrade 87 = .ok (.getfield 173, 3) := by decide +kernel
theorem dX5_regrade_90 : decode cX5_regrade 90 = .ok (.iconst 1, 1) := by decide +kernel
theorem dX5_regrade_91 : decode cX5_regrade 91 = .ok (.if_icmp .le 16, 3) := by decide +kernel
theorem dX5_regrade_94 : decode cX5_regrade 94 = .ok (.aload_n 1, 1) := by decide +kernel
theorem dX5_regrade_95 : decode cX5_regrade 95 = .ok (.aload_n 1, 1) := by decide +kernel
theorem dX5_regrade_96 : decode cX5_regrade 96 = .ok (.getfield 173, 3) := by decide +kernel
theorem dX5_regrade_99 : decode cX5_regrade 99 = .ok (.iconst 1, 1) := by decide +kernel
theorem dX5_regrade_100 : decode cX5_regrade 100 = .ok (.isub, 1) := by decide +kernel
theorem dX5_regrade_101 : decode cX5_regrade 101 = .ok (.invokevirtual 228, 3) := by decide +kernel
theorem dX5_regrade_104 : decode cX5_regrade 104 = .ok (.goto 25, 3) := by decide +kernel
theorem dX5_regrade_107 : decode cX5_regrade 107 = .ok (.iload_n 3, 1) := by decide +kernel
theorem dX5_regrade_108 : decode cX5_regrade 108 = .ok (.ifCond .eq 21, 3) := by decide +kernel
theorem dX5_regrade_111 : decode cX5_regrade 111 = .ok (.aload_n 1, 1) := by decide +kernel
theorem dX5_regrade_112 : decode cX5_regrade 112 = .ok (.getfield 173, 3) := by decide +kernel
theorem dX5_regrade_115 : decode cX5_regrade 115 = .ok (.iconst 4, 1) := by decide +kernel
theorem dX5_regrade_116 : decode cX5_regrade 116 = .ok (.if_icmp .ge 13, 3) := by decide +kernel
theorem dX5_regrade_119 : decode cX5_regrade 119 = .ok (.aload_n 1, 1) := by decide +kernel
theorem dX5_regrade_120 : decode cX5_regrade 120 = .ok (.aload_n 1, 1) := by decide +kernel
theorem dX5_regrade_121 : decode cX5_regrade 121 = .ok (.getfield 173, 3) := by decide +kernel
theorem dX5_regrade_124 : decode cX5_regrade 124 = .ok (.iconst 1, 1) := by decide +kernel
theorem dX5_regrade_125 : decode cX5_regrade 125 = .ok (.iadd, 1) := by decide +kernel
theorem dX5_regrade_126 : decode cX5_regrade 126 = .ok (.invokevirtual 228, 3) := by decide +kernel
theorem dX5_regrade_129 : decode cX5_regrade 129 = .ok (.return_, 1) := by decide +kernel
theorem dJ6_bitCount_0f7a4_0 : decode cJ6_bitCount_0f7a4 0 = .ok (.iload_n 0, 1) := by decide +kernel
theorem dJ6_bitCount_0f7a4_1 : decode cJ6_bitCount_0f7a4 1 = .ok (.iload_n 0, 1) := by decide +kernel
theorem dJ6_bitCount_0f7a4_2 : decode cJ6_bitCount_0f7a4 2 = .ok (.iconst 1, 1) := by decide +kernel
theorem dJ6_bitCount_0f7a4_3 : decode cJ6_bitCount_0f7a4 3 = .ok (.iushr, 1) := by decide +kernel
theorem dJ6_bitCount_0f7a4_4 : decode cJ6_bitCount_0f7a4 4 = .ok (.ldc_w 265, 3) := by decide +kernel
theorem dJ6_bitCount_0f7a4_7 : decode cJ6_bitCount_0f7a4 7 = .ok (.iand, 1) := by decide +kernel
theorem dJ6_bitCount_0f7a4_8 : decode cJ6_bitCount_0f7a4 8 = .ok (.isub, 1) := by decide +kernel
theorem dJ6_bitCount_0f7a4_9 : decode cJ6_bitCount_0f7a4 9 = .ok (.istore_n 0, 1) := by decide +kernel
theorem dJ6_bitCount_0f7a4_10 : decode cJ6_bitCount_0f7a4 10 = .ok (.iload_n 0, 1) := by decide +kernel
theorem dJ6_bitCount_0f7a4_11 : decode cJ6_bitCount_0f7a4 11 = .ok (.ldc_w 266, 3) := by decide +kernel
theorem dJ6_bitCount_0f7a4_14 : decode cJ6_bitCount_0f7a4 14 = .ok (.iand, 1) := by decide +kernel
theorem dJ6_bitCount_0f7a4_15 : decode cJ6_bitCount_0f7a4 15 = .ok (.iload_n 0, 1) := by decide +kernel
theorem dJ6_bitCount_0f7a4_16 : decode cJ6_bitCount_0f7a4 16 = .ok (.iconst 2, 1) := by decide +kernel
theorem dJ6_bitCount_0f7a4_17 : decode cJ6_bitCount_0f7a4 17 = .ok (.iushr, 1) := by decide +kernel
theorem dJ6_bitCount_0f7a4_18 : decode cJ6_bitCount_0f7a4 18 = .ok (.ldc_w 266, 3) := by decide +kernel
theorem dJ6_bitCount_0f7a4_21 : decode cJ6_bitCount_0f7a4 21 = .ok (.iand, 1) := by decide +kernel
theorem dJ6_bitCount_0f7a4_22 : decode cJ6_bitCount_0f7a4 22 = .ok (.iadd, 1) := by decide +kernel
theorem dJ6_bitCount_0f7a4_23 : decode cJ6_bitCount_0f7a4 23 = .ok (.istore_n 0, 1) := by decide +kernel
theorem dJ6_bitCount_0f7a4_24 : decode cJ6_bitCount_0f7a4 24 = .ok (.iload_n 0, 1) := by decide +kernel
theorem dJ6_bitCount_0f7a4_25 : decode cJ6_bitCount_0f7a4 25 = .ok (.iload_n 0, 1) := by decide +kernel
theorem dJ6_bitCount_0f7a4_26 : decode cJ6_bitCount_0f7a4 26 = .ok (.iconst 4, 1) := by decide +kernel
theorem dJ6_bitCount_0f7a4_27 : decode cJ6_bitCount_0f7a4 27 = .ok (.iushr, 1) := by decide +kernel
theorem dJ6_bitCount_0f7a4_28 : decode cJ6_bitCount_0f7a4 28 = .ok (.iadd, 1) := by decide +kernel
theorem dJ6_bitCount_0f7a4_29 : decode cJ6_bitCount_0f7a4 29 = .ok (.ldc_w 267, 3) := by decide +kernel
theorem dJ6_bitCount_0f7a4_32 : decode cJ6_bitCount_0f7a4 32 = .ok (.iand, 1) := by decide +kernel
theorem dJ6_bitCount_0f7a4_33 : decode cJ6_bitCount_0f7a4 33 = .ok (.istore_n 0, 1) := by decide +kernel
theorem dJ6_bitCount_0f7a4_34 : decode cJ6_bitCount_0f7a4 34 = .ok (.iload_n 0, 1) := by decide +kernel
theorem dJ6_bitCount_0f7a4_35 : decode cJ6_bitCount_0f7a4 35 = .ok (.iload_n 0, 1) := by decide +kernel
theorem dJ6_bitCount_0f7a4_36 : decode cJ6_bitCount_0f7a4 36 = .ok (.bipush 8, 2) := by decide +kernel
theorem dJ6_bitCount_0f7a4_38 : decode cJ6_bitCount_0f7a4 38 = .ok (.iushr, 1) := by decide +kernel
theorem dJ6_bitCount_0f7a4_39 : decode cJ6_bitCount_0f7a4 39 = .ok (.iadd, 1) := by decide +kernel
theorem dJ6_bitCount_0f7a4_40 : decode cJ6_bitCount_0f7a4 40 = .ok (.istore_n 0, 1) := by decide +kernel
theorem dJ6_bitCount_0f7a4_41 : decode cJ6_bitCount_0f7a4 41 = .ok (.iload_n 0, 1) := by decide +kernel
theorem dJ6_bitCount_0f7a4_42 : decode cJ6_bitCount_0f7a4 42 = .ok (.iload_n 0, 1) := by decide +kernel
theorem dJ6_bitCount_0f7a4_43 : decode cJ6_bitCount_0f7a4 43 = .ok (.bipush 16, 2) := by decide +kernel
theorem dJ6_bitCount_0f7a4_45 : decode cJ6_bitCount_0f7a4 45 = .ok (.iushr, 1) := by decide +kernel
theorem dJ6_bitCount_0f7a4_46 : decode cJ6_bitCount_0f7a4 46 = .ok (.iadd, 1) := by decide +kernel
theorem dJ6_bitCount_0f7a4_47 : decode cJ6_bitCount_0f7a4 47 = .ok (.istore_n 0, 1) := by decide +kernel
theorem dJ6_bitCount_0f7a4_48 : decode cJ6_bitCount_0f7a4 48 = .ok (.iload_n 0, 1) := by decide +kernel
theorem dJ6_bitCount_0f7a4_49 : decode cJ6_bitCount_0f7a4 49 = .ok (.bipush 63, 2) := by decide +kernel
theorem dJ6_bitCount_0f7a4_51 : decode cJ6_bitCount_0f7a4 51 = .ok (.iand, 1) := by decide +kernel
theorem dJ6_bitCount_0f7a4_52 : decode cJ6_bitCount_0f7a4 52 = .ok (.ireturn, 1) := by decide +kernel
theorem dJ9_abs_0f7a4_0 : decode cJ9_abs_0f7a4 0 = .ok (.iload_n 0, 1) := by decide +kernel
theorem dJ9_abs_0f7a4_1 : decode cJ9_abs_0f7a4 1 = .ok (.ifCond .ge 8, 3) := by decide +kernel
theorem dJ9_abs_0f7a4_4 : decode cJ9_abs_0f7a4 4 = .ok (.iload_n 0, 1) := by decide +kernel
theorem dJ9_abs_0f7a4_5 : decode cJ9_abs_0f7a4 5 = .ok (.ineg, 1) := by decide +kernel
theorem dJ9_abs_0f7a4_6 : decode cJ9_abs_0f7a4 6 = .ok (.goto 4, 3) := by decide +kernel
theorem dJ9_abs_0f7a4_9 : decode cJ9_abs_0f7a4 9 = .ok (.iload_n 0, 1) := by decide +kernel
theorem dJ9_abs_0f7a4_10 : decode cJ9_abs_0f7a4 10 = .ok (.ireturn, 1) := by decide +kernel
theorem dJ9_max_7cf53_0 : decode cJ9_max_7cf53 0 = .ok (.iload_n 0, 1) := by decide +kernel
theorem dJ9_max_7cf53_1 : decode cJ9_max_7cf53 1 = .ok (.iload_n 1, 1) := by decide +kernel
theorem dJ9_max_7cf53_2 : decode cJ9_max_7cf53 2 = .ok (.if_icmp .lt 7, 3) := by decide +kernel
theorem dJ9_max_7cf53_5 : decode cJ9_max_7cf53 5 = .ok (.iload_n 0, 1) := by decide +kernel
theorem dJ9_max_7cf53_6 : decode cJ9_max_7cf53 6 = .ok (.goto 4, 3) := by decide +kernel
theorem dJ9_max_7cf53_9 : decode cJ9_max_7cf53 9 = .ok (.iload_n 1, 1) := by decide +kernel
theorem dJ9_max_7cf53_10 : decode cJ9_max_7cf53 10 = .ok (.ireturn, 1) := by decide +kernel
theorem dJ9_min_7cf53_0 : decode cJ9_min_7cf53 0 = .ok (.iload_n 0, 1) := by decide +kernel
theorem dJ9_min_7cf53_1 : decode cJ9_min_7cf53 1 = .ok (.iload_n 1, 1) := by decide +kernel
theorem dJ9_min_7cf53_2 : decode cJ9_min_7cf53 2 = .ok (.if_icmp .gt 7, 3) := by decide +kernel
theorem dJ9_min_7cf53_5 : decode cJ9_min_7cf53 5 = .ok (.iload_n 0, 1) := by decide +kernel
theorem dJ9_min_7cf53_6 : decode cJ9_min_7cf53 6 = .ok (.goto 4, 3) := by decide +kernel
theorem dJ9_min_7cf53_9 : decode cJ9_min_7cf53 9 = .ok (.iload_n 1, 1) := by decide +kernel
theorem dJ9_min_7cf53_10 : decode cJ9_min_7cf53 10 = .ok (.ireturn, 1) := by decide +kernel
theorem dJ0_length_8abf5_0 : decode cJ0_length_8abf5 0 = .ok (.aload_n 0, 1) := by decide +kernel
theorem dJ0_length_8abf5_1 : decode cJ0_length_8abf5 1 = .ok (.getfield 9, 3) := by decide +kernel
theorem dJ0_length_8abf5_4 : decode cJ0_length_8abf5 4 = .ok (.arraylength, 1) := by decide +kernel
theorem dJ0_length_8abf5_5 : decode cJ0_length_8abf5 5 = .ok (.aload_n 0, 1) := by decide +kernel
theorem dJ0_length_8abf5_6 : decode cJ0_length_8abf5 6 = .ok (.invokevirtual 335, 3) := by decide +kernel
theorem dJ0_length_8abf5_9 : decode cJ0_length_8abf5 9 = .ok (.ishr, 1) := by decide +kernel
theorem dJ0_length_8abf5_10 : decode cJ0_length_8abf5 10 = .ok (.ireturn, 1) := by decide +kernel
theorem dJ0_charAt_5068e_0 : decode cJ0_charAt_5068e 0 = .ok (.aload_n 0, 1) := by decide +kernel
theorem dJ0_charAt_5068e_1 : decode cJ0_charAt_5068e 1 = .ok (.invokevirtual 492, 3) := by decide +kernel
theorem dJ0_charAt_5068e_4 : decode cJ0_charAt_5068e 4 = .ok (.ifCond .eq 12, 3) := by decide +kernel
theorem dJ0_charAt_5068e_7 : decode cJ0_charAt_5068e 7 = .ok (.aload_n 0, 1) := by decide +kernel
theorem dJ0_charAt_5068e_8 : decode cJ0_charAt_5068e 8 = .ok (.getfield 9, 3) := by decide +kernel
theorem dJ0_charAt_5068e_11 : decode cJ0_charAt_5068e 11 = .ok (.iload_n 1, 1) := by decide +kernel
theorem dJ0_charAt_5068e_12 : decode cJ0_charAt_5068e 12 = .ok (.invokestatic 495, 3) := by decide +kernel
theorem dJ0_charAt_5068e_15 : decode cJ0_charAt_5068e 15 = .ok (.ireturn, 1) := by decide +kernel
theorem dJ0_charAt_5068e_16 : decode cJ0_charAt_5068e 16 = .ok (.aload_n 0, 1) := by decide +kernel
theorem dJ0_charAt_5068e_17 : decode cJ0_charAt_5068e 17 = .ok (.getfield 9, 3) := by decide +kernel
theorem dJ0_charAt_5068e_20 : decode cJ0_charAt_5068e 20 = .ok (.iload_n 1, 1) := by decide +kernel
theorem dJ0_charAt_5068e_21 : decode cJ0_charAt_5068e 21 = .ok (.invokestatic 498, 3) := by decide +kernel
theorem dJ0_charAt_5068e_24 : decode cJ0_charAt_5068e 24 = .ok (.ireturn, 1) := by decide +kernel
theorem dJ0_coder_7d493_0 : decode cJ0_coder_7d493 0 = .ok (.getstatic 38, 3) := by decide +kernel
theorem dJ0_coder_7d493_3 : decode cJ0_coder_7d493 3 = .ok (.ifCond .eq 10, 3) := by decide +kernel
theorem dJ0_coder_7d493_6 : decode cJ0_coder_7d493 6 = .ok (.aload_n 0, 1) := by decide +kernel
theorem dJ0_coder_7d493_7 : decode cJ0_coder_7d493 7 = .ok (.getfield 15, 3) := by decide +kernel
theorem dJ0_coder_7d493_10 : decode cJ0_coder_7d493 10 = .ok (.goto 4, 3) := by decide +kernel
theorem dJ0_coder_7d493_13 : decode cJ0_coder_7d493 13 = .ok (.iconst 1, 1) := by decide +kernel
theorem dJ0_coder_7d493_14 : decode cJ0_coder_7d493 14 = .ok (.ireturn, 1) := by decide +kernel
theorem dJ0_isLatin1_aae02_0 : decode cJ0_isLatin1_aae02 0 = .ok (.getstatic 38, 3) := by decide +kernel
theorem dJ0_isLatin1_aae02_3 : decode cJ0_isLatin1_aae02 3 = .ok (.ifCond .eq 14, 3) := by decide +kernel
theorem dJ0_isLatin1_aae02_6 : decode cJ0_isLatin1_aae02 6 = .ok (.aload_n 0, 1) := by decide +kernel
theorem dJ0_isLatin1_aae02_7 : decode cJ0_isLatin1_aae02 7 = .ok (.getfield 15, 3) := by decide +kernel
theorem dJ0_isLatin1_aae02_10 : decode cJ0_isLatin1_aae02 10 = .ok (.ifCond .ne 7, 3) := by decide +kernel
theorem dJ0_isLatin1_aae02_13 : decode cJ0_isLatin1_aae02 13 = .ok (.iconst 1, 1) := by decide +kernel
theorem dJ0_isLatin1_aae02_14 : decode cJ0_isLatin1_aae02 14 = .ok (.goto 4, 3) := by decide +kernel
theorem dJ0_isLatin1_aae02_17 : decode cJ0_isLatin1_aae02 17 = .ok (.iconst 0, 1) := by decide +kernel
theorem dJ0_isLatin1_aae02_18 : decode cJ0_isLatin1_aae02 18 = .ok (.ireturn, 1) := by decide +kernel
theorem dJ0_checkIndex_df160_0 : decode cJ0_checkIndex_df160 0 = .ok (.iload_n 0, 1) := by decide +kernel
theorem dJ0_checkIndex_df160_1 : decode cJ0_checkIndex_df160 1 = .ok (.iload_n 1, 1) := by decide +kernel
theorem dJ0_checkIndex_df160_2 : decode cJ0_checkIndex_df160 2 = .ok (.getstatic 1053, 3) := by decide +kernel
theorem dJ0_checkIndex_df160_5 : decode cJ0_checkIndex_df160 5 = .ok (.invokestatic 1059, 3) := by decide +kernel
theorem dJ0_checkIndex_df160_8 : decode cJ0_checkIndex_df160 8 = .ok (.pop, 1) := by decide +kernel
theorem dJ0_checkIndex_df160_9 : decode cJ0_checkIndex_df160 9 = .ok (.return_, 1) := by decide +kernel
theorem dJ1_charAt_3b067_0 : decode cJ1_charAt_3b067 0 = .ok (.iload_n 1, 1) := by decide +kernel
theorem dJ1_charAt_3b067_1 : decode cJ1_charAt_3b067 1 = .ok (.aload_n 0, 1) := by decide +kernel
theorem dJ1_charAt_3b067_2 : decode cJ1_charAt_3b067 2 = .ok (.arraylength, 1) := by decide +kernel
theorem dJ1_charAt_3b067_3 : decode cJ1_charAt_3b067 3 = .ok (.invokestatic 9, 3) := by decide +kernel
theorem dJ1_charAt_3b067_6 : decode cJ1_charAt_3b067 6 = .ok (.aload_n 0, 1) := by decide +kernel
theorem dJ1_charAt_3b067_7 : decode cJ1_charAt_3b067 7 = .ok (.iload_n 1, 1) := by decide +kernel
theorem dJ1_charAt_3b067_8 : decode cJ1_charAt_3b067 8 = .ok (.baload, 1) := by decide +kernel
theorem dJ1_charAt_3b067_9 : decode cJ1_charAt_3b067 9 = .ok (.sipush 255, 3) := by decide +kernel
theorem dJ1_charAt_3b067_12 : decode cJ1_charAt_3b067 12 = .ok (.iand, 1) := by decide +kernel
theorem dJ1_charAt_3b067_13 : decode cJ1_charAt_3b067 13 = .ok (.i2c, 1) := by decide +kernel
theorem dJ1_charAt_3b067_14 : decode cJ1_charAt_3b067 14 = .ok (.ireturn, 1) := by decide +kernel
theorem dJ2_getChar_3b067_0 : decode cJ2_getChar_3b067 0 = .ok (.getstatic 44, 3) := by decide +kernel
theorem dJ2_getChar_3b067_3 : decode cJ2_getChar_3b067 3 = .ok (.ifCond .ne 25, 3) := by decide +kernel
theorem dJ2_getChar_3b067_6 : decode cJ2_getChar_3b067 6 = .ok (.iload_n 1, 1) := by decide +kernel
theorem dJ2_getChar_3b067_7 : decode cJ2_getChar_3b067 7 = .ok (.ifCond .lt 11, 3) := by decide +kernel
theorem dJ2_getChar_3b067_10 : decode cJ2_getChar_3b067 10 = .ok (.iload_n 1, 1) := by decide +kernel
theorem dJ2_getChar_3b067_11 : decode cJ2_getChar_3b067 11 = .ok (.aload_n 0, 1) := by decide +kernel
theorem dJ2_getChar_3b067_12 : decode cJ2_getChar_3b067 12 = .ok (.invokestatic 48, 3) := by decide +kernel
theorem dJ2_getChar_3b067_15 : decode cJ2_getChar_3b067 15 = .ok (.if_icmp .lt 13, 3) := by decide +kernel
theorem dJ2_getChar_3b067_18 : decode cJ2_getChar_3b067 18 = .ok (.new 52, 3) := by decide +kernel
theorem dJ2_getChar_3b067_21 : decode cJ2_getChar_3b067 21 = .ok (.dup, 1) := by decide +kernel
theorem dJ2_getChar_3b067_22 : decode cJ2_getChar_3b067 22 = .ok (.ldc 54, 2) := by decide +kernel
theorem dJ2_getChar_3b067_24 : decode cJ2_getChar_3b067 24 = .ok (.invokespecial 56, 3) := by decide +kernel
theorem dJ2_getChar_3b067_27 : decode cJ2_getChar_3b067 27 = .ok (.athrow, 1) := by decide +kernel
theorem dJ2_getChar_3b067_28 : decode cJ2_getChar_3b067 28 = .ok (.iload_n 1, 1) := by decide +kernel
theorem dJ2_getChar_3b067_29 : decode cJ2_getChar_3b067 29 = .ok (.iconst 1, 1) := by decide +kernel
theorem dJ2_getChar_3b067_30 : decode cJ2_getChar_3b067 30 = .ok (.ishl, 1) := by decide +kernel
theorem dJ2_getChar_3b067_31 : decode cJ2_getChar_3b067 31 = .ok (.istore_n 1, 1) := by decide +kernel
theorem dJ2_getChar_3b067_32 : decode cJ2_getChar_3b067 32 = .ok (.aload_n 0, 1) := by decide +kernel
theorem dJ2_getChar_3b067_33 : decode cJ2_getChar_3b067 33 = .ok (.iload_n 1, 1) := by decide +kernel
theorem dJ2_getChar_3b067_34 : decode cJ2_getChar_3b067 34 = .ok (.iinc 1 1, 3) := by decide +kernel
theorem dJ2_getChar_3b067_37 : decode cJ2_getChar_3b067 37 = .ok (.baload, 1) := by decide +kernel
theorem dJ2_getChar_3b067_38 : decode cJ2_getChar_3b067 38 = .ok (.sipush 255, 3) := by decide +kernel
theorem dJ2_getChar_3b067_41 : decode cJ2_getChar_3b067 41 = .ok (.iand, 1) := by decide +kernel
theorem dJ2_getChar_3b067_42 : decode cJ2_getChar_3b067 42 = .ok (.getstatic 59, 3) := by decide +kernel
theorem dJ2_getChar_3b067_45 : decode cJ2_getChar_3b067 45 = .ok (.ishl, 1) := by decide +kernel
theorem dJ2_getChar_3b067_46 : decode cJ2_getChar_3b067 46 = .ok (.aload_n 0, 1) := by decide +kernel
theorem dJ2_getChar_3b067_47 : decode cJ2_getChar_3b067 47 = .ok (.iload_n 1, 1) := by decide +kernel
theorem dJ2_getChar_3b067_48 : decode cJ2_getChar_3b067 48 = .ok (.baload, 1) := by decide +kernel
theorem dJ2_getChar_3b067_49 : decode cJ2_getChar_3b067 49 = .ok (.sipush 255, 3) := by decide +kernel
theorem dJ2_getChar_3b067_52 : decode cJ2_getChar_3b067 52 = .ok (.iand, 1) := by decide +kernel
theorem dJ2_getChar_3b067_53 : decode cJ2_getChar_3b067 53 = .ok (.getstatic 63, 3) := by decide +kernel
theorem dJ2_getChar_3b067_56 : decode cJ2_getChar_3b067 56 = .ok (.ishl, 1) := by decide +kernel
theorem dJ2_getChar_3b067_57 : decode cJ2_getChar_3b067 57 = .ok (.ior, 1) := by decide +kernel
theorem dJ2_getChar_3b067_58 : decode cJ2_getChar_3b067 58 = .ok (.i2c, 1) := by decide +kernel
theorem dJ2_getChar_3b067_59 : decode cJ2_getChar_3b067 59 = .ok (.ireturn, 1) := by decide +kernel
theorem dJ2_length_9d52b_0 : decode cJ2_length_9d52b 0 = .ok (.aload_n 0, 1) := by decide +kernel
theorem dJ2_length_9d52b_1 : decode cJ2_length_9d52b 1 = .ok (.arraylength, 1) := by decide +kernel
theorem dJ2_length_9d52b_2 : decode cJ2_length_9d52b 2 = .ok (.iconst 1, 1) := by decide +kernel
theorem dJ2_length_9d52b_3 : decode cJ2_length_9d52b 3 = .ok (.ishr, 1) := by decide +kernel
theorem dJ2_length_9d52b_4 : decode cJ2_length_9d52b 4 = .ok (.ireturn, 1) := by decide +kernel
theorem dJ2_charAt_3b067_0 : decode cJ2_charAt_3b067 0 = .ok (.iload_n 1, 1) := by decide +kernel
theorem dJ2_charAt_3b067_1 : decode cJ2_charAt_3b067 1 = .ok (.aload_n 0, 1) := by decide +kernel
theorem dJ2_charAt_3b067_2 : decode cJ2_charAt_3b067 2 = .ok (.invokestatic 67, 3) := by decide +kernel
theorem dJ2_charAt_3b067_5 : decode cJ2_charAt_3b067 5 = .ok (.aload_n 0, 1) := by decide +kernel
theorem dJ2_charAt_3b067_6 : decode cJ2_charAt_3b067 6 = .ok (.iload_n 1, 1) := by decide +kernel
theorem dJ2_charAt_3b067_7 : decode cJ2_charAt_3b067 7 = .ok (.invokestatic 71, 3) := by decide +kernel
theorem dJ2_charAt_3b067_10 : decode cJ2_charAt_3b067 10 = .ok (.ireturn, 1) := by decide +kernel
theorem dJ2_checkIndex_2214a_0 : decode cJ2_checkIndex_2214a 0 = .ok (.iload_n 0, 1) := by decide +kernel
theorem dJ2_checkIndex_2214a_1 : decode cJ2_checkIndex_2214a 1 = .ok (.aload_n 1, 1) := by decide +kernel
theorem dJ2_checkIndex_2214a_2 : decode cJ2_checkIndex_2214a 2 = .ok (.invokestatic 48, 3) := by decide +kernel
theorem dJ2_checkIndex_2214a_5 : decode cJ2_checkIndex_2214a 5 = .ok (.invokestatic 414, 3) := by decide +kernel
theorem dJ2_checkIndex_2214a_8 : decode cJ2_checkIndex_2214a 8 = .ok (.return_, 1) := by decide +kernel
theorem dJ3_checkIndex_8e157_0 : decode cJ3_checkIndex_8e157 0 = .ok (.iload_n 0, 1) := by decide +kernel
theorem dJ3_checkIndex_8e157_1 : decode cJ3_checkIndex_8e157 1 = .ok (.ifCond .lt 8, 3) := by decide +kernel
theorem dJ3_checkIndex_8e157_4 : decode cJ3_checkIndex_8e157 4 = .ok (.iload_n 0, 1) := by decide +kernel
theorem dJ3_checkIndex_8e157_5 : decode cJ3_checkIndex_8e157 5 = .ok (.iload_n 1, 1) := by decide +kernel
theorem dJ3_checkIndex_8e157_6 : decode cJ3_checkIndex_8e157 6 = .ok (.if_icmp .lt 10, 3) := by decide +kernel
theorem dJ3_checkIndex_8e157_9 : decode cJ3_checkIndex_8e157 9 = .ok (.aload_n 2, 1) := by decide +kernel
theorem dJ3_checkIndex_8e157_10 : decode cJ3_checkIndex_8e157 10 = .ok (.iload_n 0, 1) := by decide +kernel
theorem dJ3_checkIndex_8e157_11 : decode cJ3_checkIndex_8e157 11 = .ok (.iload_n 1, 1) := by decide +kernel
theorem dJ3_checkIndex_8e157_12 : decode cJ3_checkIndex_8e157 12 = .ok (.invokestatic 95, 3) := by decide +kernel
theorem dJ3_checkIndex_8e157_15 : decode cJ3_checkIndex_8e157 15 = .ok (.athrow, 1) := by decide +kernel
theorem dJ3_checkIndex_8e157_16 : decode cJ3_checkIndex_8e157 16 = .ok (.iload_n 0, 1) := by decide +kernel
theorem dJ3_checkIndex_8e157_17 : decode cJ3_checkIndex_8e157 17 = .ok (.ireturn, 1) := by decide +kernel
