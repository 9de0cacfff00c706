theorem dX5_init_0 : decode cX5_init 0 = .ok (.aload_n 0, 1) := by decide +kernel
theorem dX5_init_1 : decode cX5_init 1 = .ok (.invokespecial 3, 3) := by decide +kernel
theorem dX5_init_4 : decode cX5_init 4 = .ok (.aload_n 0, 1) := by decide +kernel
theorem dX5_init_5 : decode cX5_init 5 = .ok (.new 9, 3) := by decide +kernel
theorem dX5_init_8 : decode cX5_init 8 = .ok (.dup, 1) := by decide +kernel
theorem dX5_init_9 : decode cX5_init 9 = .ok (.invokespecial 11, 3) := by decide +kernel
theorem dX5_init_12 : decode cX5_init 12 = .ok (.putfield 12, 3) := by decide +kernel
theorem dX5_init_15 : decode cX5_init 15 = .ok (.aload_n 0, 1) := by decide +kernel
theorem dX5_init_16 : decode cX5_init 16 = .ok (.new 9, 3) := by decide +kernel
theorem dX5_init_19 : decode cX5_init 19 = .ok (.dup, 1) := by decide +kernel
theorem dX5_init_20 : decode cX5_init 20 = .ok (.invokespecial 11, 3) := by decide +kernel
theorem dX5_init_23 : decode cX5_init 23 = .ok (.putfield 16, 3) := by decide +kernel
theorem dX5_init_26 : decode cX5_init 26 = .ok (.aload_n 0, 1) := by decide +kernel
theorem dX5_init_27 : decode cX5_init 27 = .ok (.new 9, 3) := by decide +kernel
theorem dX5_init_30 : decode cX5_init 30 = .ok (.dup, 1) := by decide +kernel
theorem dX5_init_31 : decode cX5_init 31 = .ok (.invokespecial 11, 3) := by decide +kernel
theorem dX5_init_34 : decode cX5_init 34 = .ok (.putfield 19, 3) := by decide +kernel
theorem dX5_init_37 : decode cX5_init 37 = .ok (.aload_n 0, 1) := by decide +kernel
theorem dX5_init_38 : decode cX5_init 38 = .ok (.new 9, 3) := by decide +kernel
theorem dX5_init_41 : decode cX5_init 41 = .ok (.dup, 1) := by decide +kernel
theorem dX5_init_42 : decode cX5_init 42 = .ok (.invokespecial 11, 3) := by decide +kernel
theorem dX5_init_45 : decode cX5_init 45 = .ok (.putfield 22, 3) := by decide +kernel
theorem dX5_init_48 : decode cX5_init 48 = .ok (.aload_n 0, 1) := by decide +kernel
theorem dX5_init_49 : decode cX5_init 49 = .ok (.new 25, 3) := by decide +kernel
theorem dX5_init_52 : decode cX5_init 52 = .ok (.dup, 1) := by decide +kernel
theorem dX5_init_53 : decode cX5_init 53 = .ok (.invokespecial 27, 3) := by decide +kernel
theorem dX5_init_56 : decode cX5_init 56 = .ok (.putfield 28, 3) := by decide +kernel
theorem dX5_init_59 : decode cX5_init 59 = .ok (.aload_n 0, 1) := by decide +kernel
theorem dX5_init_60 : decode cX5_init 60 = .ok (.new 32, 3) := by decide +kernel
theorem dX5_init_63 : decode cX5_init 63 = .ok (.dup, 1) := by decide +kernel
theorem dX5_init_64 : decode cX5_init 64 = .ok (.invokespecial 34, 3) := by decide +kernel
theorem dX5_init_67 : decode cX5_init 67 = .ok (.putfield 35, 3) := by decide +kernel
theorem dX5_init_70 : decode cX5_init 70 = .ok (.aload_n 0, 1) := by decide +kernel
theorem dX5_init_71 : decode cX5_init 71 = .ok (.new 32, 3) := by decide +kernel
theorem dX5_init_74 : decode cX5_init 74 = .ok (.dup, 1) := by decide +kernel
theorem dX5_init_75 : decode cX5_init 75 = .ok (.invokespecial 34, 3) := by decide +kernel
theorem dX5_init_78 : decode cX5_init 78 = .ok (.putfield 39, 3) := by decide +kernel
theorem dX5_init_81 : decode cX5_init 81 = .ok (.aload_n 0, 1) := by decide +kernel
theorem dX5_init_82 : decode cX5_init 82 = .ok (.iconst 4, 1) := by decide +kernel
theorem dX5_init_83 : decode cX5_init 83 = .ok (.newarray .int, 2) := by decide +kernel
theorem dX5_init_85 : decode cX5_init 85 = .ok (.putfield 42, 3) := by decide +kernel
theorem dX5_init_88 : decode cX5_init 88 = .ok (.aload_n 0, 1) := by decide +kernel
theorem dX5_init_89 : decode cX5_init 89 = .ok (.bipush 25, 2) := by decide +kernel
theorem dX5_init_91 : decode cX5_init 91 = .ok (.newarray .int, 2) := by decide +kernel
theorem dX5_init_93 : decode cX5_init 93 = .ok (.putfield 46, 3) := by decide +kernel
theorem dX5_init_96 : decode cX5_init 96 = .ok (.aload_n 0, 1) := by decide +kernel
theorem dX5_init_97 : decode cX5_init 97 = .ok (.new 49, 3) := by decide +kernel
theorem dX5_init_100 : decode cX5_init 100 = .ok (.dup, 1) := by decide +kernel
theorem dX5_init_101 : decode cX5_init 101 = .ok (.invokespecial 51, 3) := by decide +kernel
theorem dX5_init_104 : decode cX5_init 104 = .ok (.putfield 52, 3) := by decide +kernel
theorem dX5_init_107 : decode cX5_init 107 = .ok (.aload_n 0, 1) := by decide +kernel
theorem dX5_init_108 : decode cX5_init 108 = .ok (.new 56, 3) := by decide +kernel
theorem dX5_init_111 : decode cX5_init 111 = .ok (.dup, 1) := by decide +kernel
theorem dX5_init_112 : decode cX5_init 112 = .ok (.invokespecial 58, 3) := by decide +kernel
theorem dX5_init_115 : decode cX5_init 115 = .ok (.putfield 59, 3) := by decide +kernel
theorem dX5_init_118 : decode cX5_init 118 = .ok (.aload_n 0, 1) := by decide +kernel
theorem dX5_init_119 : decode cX5_init 119 = .ok (.bipush (-4), 2) := by decide +kernel
theorem dX5_init_121 : decode cX5_init 121 = .ok (.putfield 63, 3) := by decide +kernel
theorem dX5_init_124 : decode cX5_init 124 = .ok (.return_, 1) := by decide +kernel
theorem dX5_put_0 : decode cX5_put 0 = .ok (.aload_n 0, 1) := by decide +kernel
theorem dX5_put_1 : decode cX5_put 1 = .ok (.getfield 16, 3) := by decide +kernel
theorem dX5_put_4 : decode cX5_put 4 = .ok (.aload_n 0, 1) := by decide +kernel
theorem dX5_put_5 : decode cX5_put 5 = .ok (.getfield 12, 3) := by decide +kernel
theorem dX5_put_8 : decode cX5_put 8 = .ok (.invokevirtual 67, 3) := by decide +kernel
theorem dX5_put_11 : decode cX5_put 11 = .ok (.aload_n 0, 1) := by decide +kernel
theorem dX5_put_12 : decode cX5_put 12 = .ok (.aload_n 0, 1) := by decide +kernel
theorem dX5_put_13 : decode cX5_put 13 = .ok (.iload_n 1, 1) := by decide +kernel
theorem dX5_put_14 : decode cX5_put 14 = .ok (.iload_n 2, 1) := by decide +kernel
theorem dX5_put_15 : decode cX5_put 15 = .ok (.invokevirtual 71, 3) := by decide +kernel
theorem dX5_put_18 : decode cX5_put 18 = .ok (.invokevirtual 75, 3) := by decide +kernel
theorem dX5_put_21 : decode cX5_put 21 = .ok (.ireturn, 1) := by decide +kernel
theorem dX5_lift_0 : decode cX5_lift 0 = .ok (.aload_n 0, 1) := by decide +kernel
theorem dX5_lift_1 : decode cX5_lift 1 = .ok (.getfield 16, 3) := by decide +kernel
theorem dX5_lift_4 : decode cX5_lift 4 = .ok (.aload_n 0, 1) := by decide +kernel
theorem dX5_lift_5 : decode cX5_lift 5 = .ok (.getfield 12, 3) := by decide +kernel
theorem dX5_lift_8 : decode cX5_lift 8 = .ok (.invokevirtual 67, 3) := by decide +kernel
theorem dX5_lift_11 : decode cX5_lift 11 = .ok (.aload_n 0, 1) := by decide +kernel
theorem dX5_lift_12 : decode cX5_lift 12 = .ok (.aload_n 0, 1) := by decide +kernel
theorem dX5_lift_13 : decode cX5_lift 13 = .ok (.iload_n 1, 1) := by decide +kernel
theorem dX5_lift_14 : decode cX5_lift 14 = .ok (.invokevirtual 79, 3) := by decide +kernel
theorem dX5_lift_17 : decode cX5_lift 17 = .ok (.invokevirtual 75, 3) := by decide +kernel
theorem dX5_lift_20 : decode cX5_lift 20 = .ok (.ireturn, 1) := by decide +kernel
theorem dX5_play_0 : decode cX5_play 0 = .ok (.aload_n 0, 1) := by decide +kernel
theorem dX5_play_1 : decode cX5_play 1 = .ok (.getfield 16, 3) := by decide +kernel
theorem dX5_play_4 : decode cX5_play 4 = .ok (.aload_n 0, 1) := by decide +kernel
theorem dX5_play_5 : decode cX5_play 5 = .ok (.getfield 12, 3) := by decide +kernel
theorem dX5_play_8 : decode cX5_play 8 = .ok (.invokevirtual 67, 3) := by decide +kernel
theorem dX5_play_11 : decode cX5_play 11 = .ok (.aload_n 0, 1) := by decide +kernel
theorem dX5_play_12 : decode cX5_play 12 = .ok (.aload_n 0, 1) := by decide +kernel
theorem dX5_play_13 : decode cX5_play 13 = .ok (.iload_n 1, 1) := by decide +kernel
theorem dX5_play_14 : decode cX5_play 14 = .ok (.iload_n 2, 1) := by decide +kernel
theorem dX5_play_15 : decode cX5_play 15 = .ok (.invokevirtual 82, 3) := by decide +kernel
theorem dX5_play_18 : decode cX5_play 18 = .ok (.invokevirtual 75, 3) := by decide +kernel
theorem dX5_play_21 : decode cX5_play 21 = .ok (.ireturn, 1) := by decide +kernel
theorem dX5_turn_0 : decode cX5_turn 0 = .ok (.aload_n 0, 1) := by decide +kernel
theorem dX5_turn_1 : decode cX5_turn 1 = .ok (.getfield 16, 3) := by decide +kernel
theorem dX5_turn_4 : decode cX5_turn 4 = .ok (.aload_n 0, 1) := by decide +kernel
theorem dX5_turn_5 : decode cX5_turn 5 = .ok (.getfield 12, 3) := by decide +kernel
theorem dX5_turn_8 : decode cX5_turn 8 = .ok (.invokevirtual 67, 3) := by decide +kernel
theorem dX5_turn_11 : decode cX5_turn 11 = .ok (.aload_n 0, 1) := by decide +kernel
theorem dX5_turn_12 : decode cX5_turn 12 = .ok (.aload_n 0, 1) := by decide +kernel
theorem dX5_turn_13 : decode cX5_turn 13 = .ok (.invokevirtual 85, 3) := by decide +kernel
theorem dX5_turn_16 : decode cX5_turn 16 = .ok (.invokevirtual 75, 3) := by decide +kernel
theorem dX5_turn_19 : decode cX5_turn 19 = .ok (.ireturn, 1) := by decide +kernel
theorem dX5_mirror_0 : decode cX5_mirror 0 = .ok (.aload_n 0, 1) := by decide +kernel
theorem dX5_mirror_1 : decode cX5_mirror 1 = .ok (.getfield 16, 3) := by decide +kernel
theorem dX5_mirror_4 : decode cX5_mirror 4 = .ok (.aload_n 0, 1) := by decide +kernel
theorem dX5_mirror_5 : decode cX5_mirror 5 = .ok (.getfield 12, 3) := by decide +kernel
theorem dX5_mirror_8 : decode cX5_mirror 8 = .ok (.invokevirtual 67, 3) := by decide +kernel
theorem dX5_mirror_11 : decode cX5_mirror 11 = .ok (.aload_n 0, 1) := by decide +kernel
theorem dX5_mirror_12 : decode cX5_mirror 12 = .ok (.aload_n 0, 1) := by decide +kernel
theorem dX5_mirror_13 : decode cX5_mirror 13 = .ok (.invokevirtual 89, 3) := by decide +kernel
theorem dX5_mirror_16 : decode cX5_mirror 16 = .ok (.invokevirtual 75, 3) := by decide +kernel
theorem dX5_mirror_19 : decode cX5_mirror 19 = .ok (.ireturn, 1) := by decide +kernel
theorem dX5_thrift_0 : decode cX5_thrift 0 = .ok (.aload_n 0, 1) := by decide +kernel
theorem dX5_thrift_1 : decode cX5_thrift 1 = .ok (.getfield 16, 3) := by decide +kernel
theorem dX5_thrift_4 : decode cX5_thrift 4 = .ok (.aload_n 0, 1) := by decide +kernel
theorem dX5_thrift_5 : decode cX5_thrift 5 = .ok (.getfield 12, 3) := by decide +kernel
theorem dX5_thrift_8 : decode cX5_thrift 8 = .ok (.invokevirtual 67, 3) := by decide +kernel
theorem dX5_thrift_11 : decode cX5_thrift 11 = .ok (.aload_n 0, 1) := by decide +kernel
theorem dX5_thrift_12 : decode cX5_thrift 12 = .ok (.aload_n 0, 1) := by decide +kernel
theorem dX5_thrift_13 : decode cX5_thrift 13 = .ok (.invokevirtual 92, 3) := by decide +kernel
theorem dX5_thrift_16 : decode cX5_thrift 16 = .ok (.invokevirtual 75, 3) := by decide +kernel
theorem dX5_thrift_19 : decode cX5_thrift 19 = .ok (.ireturn, 1) := by decide +kernel
theorem dX5_at_0 : decode cX5_at 0 = .ok (.iload_n 1, 1) := by decide +kernel
theorem dX5_at_1 : decode cX5_at 1 = .ok (.invokestatic 95, 3) := by decide +kernel
theorem dX5_at_4 : decode cX5_at 4 = .ok (.ifCond .eq 14, 3) := by decide +kernel
theorem dX5_at_7 : decode cX5_at 7 = .ok (.aload_n 0, 1) := by decide +kernel
theorem dX5_at_8 : decode cX5_at 8 = .ok (.getfield 12, 3) := by decide +kernel
theorem dX5_at_11 : decode cX5_at 11 = .ok (.iload_n 1, 1) := by decide +kernel
theorem dX5_at_12 : decode cX5_at 12 = .ok (.invokevirtual 99, 3) := by decide +kernel
theorem dX5_at_15 : decode cX5_at 15 = .ok (.goto 4, 3) := by decide +kernel
theorem dX5_at_18 : decode cX5_at 18 = .ok (.iconst (-1), 1) := by decide +kernel
theorem dX5_at_19 : decode cX5_at 19 = .ok (.ireturn, 1) := by decide +kernel
theorem dX5_attackers_0 : decode cX5_attackers 0 = .ok (.iload_n 1, 1) := by decide +kernel
theorem dX5_attackers_1 : decode cX5_attackers 1 = .ok (.invokestatic 95, 3) := by decide +kernel
theorem dX5_attackers_4 : decode cX5_attackers 4 = .ok (.ifCond .eq 14, 3) := by decide +kernel
theorem dX5_attackers_7 : decode cX5_attackers 7 = .ok (.aload_n 0, 1) := by decide +kernel
theorem dX5_attackers_8 : decode cX5_attackers 8 = .ok (.getfield 12, 3) := by decide +kernel
theorem dX5_attackers_11 : decode cX5_attackers 11 = .ok (.iload_n 1, 1) := by decide +kernel
theorem dX5_attackers_12 : decode cX5_attackers 12 = .ok (.invokevirtual 102, 3) := by decide +kernel
theorem dX5_attackers_15 : decode cX5_attackers 15 = .ok (.goto 4, 3) := by decide +kernel
theorem dX5_attackers_18 : decode cX5_attackers 18 = .ok (.iconst (-1), 1) := by decide +kernel
theorem dX5_attackers_19 : decode cX5_attackers 19 = .ok (.ireturn, 1) := by decide +kernel
theorem dX5_attackersAgain_0 : decode cX5_attackersAgain 0 = .ok (.iload_n 1, 1) := by decide +kernel
theorem dX5_attackersAgain_1 : decode cX5_attackersAgain 1 = .ok (.invokestatic 95, 3) := by decide +kernel
theorem dX5_attackersAgain_4 : decode cX5_attackersAgain 4 = .ok (.ifCond .eq 14, 3) := by decide +kernel
theorem dX5_attackersAgain_7 : decode cX5_attackersAgain 7 = .ok (.aload_n 0, 1) := by decide +kernel
theorem dX5_attackersAgain_8 : decode cX5_attackersAgain 8 = .ok (.getfield 12, 3) := by decide +kernel
theorem dX5_attackersAgain_11 : decode cX5_attackersAgain 11 = .ok (.iload_n 1, 1) := by decide +kernel
theorem dX5_attackersAgain_12 : decode cX5_attackersAgain 12 = .ok (.invokevirtual 105, 3) := by decide +kernel
theorem dX5_attackersAgain_15 : decode cX5_attackersAgain 15 = .ok (.goto 4, 3) := by decide +kernel
theorem dX5_attackersAgain_18 : decode cX5_attackersAgain 18 = .ok (.iconst (-1), 1) := by decide +kernel
theorem dX5_attackersAgain_19 : decode cX5_attackersAgain 19 = .ok (.ireturn, 1) := by decide +kernel
theorem dX5_manOf_0 : decode cX5_manOf 0 = .ok (.iload_n 1, 1) := by decide +kernel
theorem dX5_manOf_1 : decode cX5_manOf 1 = .ok (.invokestatic 95, 3) := by decide +kernel
theorem dX5_manOf_4 : decode cX5_manOf 4 = .ok (.ifCond .ne 5, 3) := by decide +kernel
theorem dX5_manOf_7 : decode cX5_manOf 7 = .ok (.iconst (-1), 1) := by decide +kernel
theorem dX5_manOf_8 : decode cX5_manOf 8 = .ok (.ireturn, 1) := by decide +kernel
theorem dX5_manOf_9 : decode cX5_manOf 9 = .ok (.iload_n 2, 1) := by decide +kernel
theorem dX5_manOf_10 : decode cX5_manOf 10 = .ok (.ifCond .lt 8, 3) := by decide +kernel
theorem dX5_manOf_13 : decode cX5_manOf 13 = .ok (.iload_n 2, 1) := by decide +kernel
theorem dX5_manOf_14 : decode cX5_manOf 14 = .ok (.iconst 3, 1) := by decide +kernel
theorem dX5_manOf_15 : decode cX5_manOf 15 = .ok (.if_icmp .le 6, 3) := by decide +kernel
theorem dX5_manOf_18 : decode cX5_manOf 18 = .ok (.bipush (-2), 2) := by decide +kernel
theorem dX5_manOf_20 : decode cX5_manOf 20 = .ok (.ireturn, 1) := by decide +kernel
theorem dX5_manOf_21 : decode cX5_manOf 21 = .ok (.aload_n 0, 1) := by decide +kernel
theorem dX5_manOf_22 : decode cX5_manOf 22 = .ok (.getfield 12, 3) := by decide +kernel
theorem dX5_manOf_25 : decode cX5_manOf 25 = .ok (.iload_n 1, 1) := by decide +kernel
theorem dX5_manOf_26 : decode cX5_manOf 26 = .ok (.invokevirtual 99, 3) := by decide +kernel
theorem dX5_manOf_29 : decode cX5_manOf 29 = .ok (.ifCond .ne 6, 3) := by decide +kernel
theorem dX5_manOf_32 : decode cX5_manOf 32 = .ok (.bipush (-4), 2) := by decide +kernel
theorem dX5_manOf_34 : decode cX5_manOf 34 = .ok (.ireturn, 1) := by decide +kernel
theorem dX5_manOf_35 : decode cX5_manOf 35 = .ok (.iload_n 2, 1) := by decide +kernel
theorem dX5_manOf_36 : decode cX5_manOf 36 = .ok (.ifCond .ne 15, 3) := by decide +kernel
theorem dX5_manOf_39 : decode cX5_manOf 39 = .ok (.aload_n 0, 1) := by decide +kernel
theorem dX5_manOf_40 : decode cX5_manOf 40 = .ok (.getfield 12, 3) := by decide +kernel
theorem dX5_manOf_43 : decode cX5_manOf 43 = .ok (.iload_n 1, 1) := by decide +kernel
theorem dX5_manOf_44 : decode cX5_manOf 44 = .ok (.invokevirtual 108, 3) := by decide +kernel
theorem dX5_manOf_47 : decode cX5_manOf 47 = .ok (.invokestatic 111, 3) := by decide +kernel
theorem dX5_manOf_50 : decode cX5_manOf 50 = .ok (.ireturn, 1) := by decide +kernel
theorem dX5_manOf_51 : decode cX5_manOf 51 = .ok (.iload_n 2, 1) := by decide +kernel
theorem dX5_manOf_52 : decode cX5_manOf 52 = .ok (.iconst 1, 1) := by decide +kernel
theorem dX5_manOf_53 : decode cX5_manOf 53 = .ok (.if_icmp .ne 15, 3) := by decide +kernel
theorem dX5_manOf_56 : decode cX5_manOf 56 = .ok (.aload_n 0, 1) := by decide +kernel
theorem dX5_manOf_57 : decode cX5_manOf 57 = .ok (.getfield 12, 3) := by decide +kernel
theorem dX5_manOf_60 : decode cX5_manOf 60 = .ok (.iload_n 1, 1) := by decide +kernel
theorem dX5_manOf_61 : decode cX5_manOf 61 = .ok (.invokevirtual 114, 3) := by decide +kernel
theorem dX5_manOf_64 : decode cX5_manOf 64 = .ok (.invokestatic 111, 3) := by decide +kernel
theorem dX5_manOf_67 : decode cX5_manOf 67 = .ok (.ireturn, 1) := by decide +kernel
theorem dX5_manOf_68 : decode cX5_manOf 68 = .ok (.aload_n 0, 1) := by decide +kernel
theorem dX5_manOf_69 : decode cX5_manOf 69 = .ok (.getfield 12, 3) := by decide +kernel
theorem dX5_manOf_72 : decode cX5_manOf 72 = .ok (.invokevirtual 117, 3) := by decide +kernel
theorem dX5_manOf_75 : decode cX5_manOf 75 = .ok (.ifCond .ne 6, 3) := by decide +kernel
theorem dX5_manOf_78 : decode cX5_manOf 78 = .ok (.bipush (-4), 2) := by decide +kernel
theorem dX5_manOf_80 : decode cX5_manOf 80 = .ok (.ireturn, 1) := by decide +kernel
theorem dX5_manOf_81 : decode cX5_manOf 81 = .ok (.iload_n 2, 1) := by decide +kernel
theorem dX5_manOf_82 : decode cX5_manOf 82 = .ok (.iconst 2, 1) := by decide +kernel
theorem dX5_manOf_83 : decode cX5_manOf 83 = .ok (.if_icmp .ne 15, 3) := by decide +kernel
theorem dX5_manOf_86 : decode cX5_manOf 86 = .ok (.aload_n 0, 1) := by decide +kernel
theorem dX5_manOf_87 : decode cX5_manOf 87 = .ok (.getfield 12, 3) := by decide +kernel
theorem dX5_manOf_90 : decode cX5_manOf 90 = .ok (.iload_n 1, 1) := by decide +kernel
theorem dX5_manOf_91 : decode cX5_manOf 91 = .ok (.invokevirtual 121, 3) := by decide +kernel
theorem dX5_manOf_94 : decode cX5_manOf 94 = .ok (.invokestatic 111, 3) := by decide +kernel
theorem dX5_manOf_97 : decode cX5_manOf 97 = .ok (.ireturn, 1) := by decide +kernel
theorem dX5_manOf_98 : decode cX5_manOf 98 = .ok (.aload_n 0, 1) := by decide +kernel
theorem dX5_manOf_99 : decode cX5_manOf 99 = .ok (.getfield 39, 3) := by decide +kernel
theorem dX5_manOf_102 : decode cX5_manOf 102 = .ok (.aload_n 0, 1) := by decide +kernel
theorem dX5_manOf_103 : decode cX5_manOf 103 = .ok (.getfield 12, 3) := by decide +kernel
theorem dX5_manOf_106 : decode cX5_manOf 106 = .ok (.invokevirtual 124, 3) := by decide +kernel
theorem dX5_manOf_109 : decode cX5_manOf 109 = .ok (.aload_n 0, 1) := by decide +kernel
theorem dX5_manOf_110 : decode cX5_manOf 110 = .ok (.iload_n 1, 1) := by decide +kernel
theorem dX5_manOf_111 : decode cX5_manOf 111 = .ok (.invokevirtual 127, 3) := by decide +kernel
theorem dX5_manOf_114 : decode cX5_manOf 114 = .ok (.ifCond .eq 7, 3) := by decide +kernel
theorem dX5_manOf_117 : decode cX5_manOf 117 = .ok (.iconst 1, 1) := by decide +kernel
theorem dX5_manOf_118 : decode cX5_manOf 118 = .ok (.goto 4, 3) := by decide +kernel
theorem dX5_manOf_121 : decode cX5_manOf 121 = .ok (.iconst 0, 1) := by decide +kernel
theorem dX5_manOf_122 : decode cX5_manOf 122 = .ok (.ireturn, 1) := by decide +kernel
theorem dX5_move_0 : decode cX5_move 0 = .ok (.aload_n 0, 1) := by decide +kernel
theorem dX5_move_1 : decode cX5_move 1 = .ok (.getfield 35, 3) := by decide +kernel
theorem dX5_move_4 : decode cX5_move 4 = .ok (.aload_n 0, 1) := by decide +kernel
theorem dX5_move_5 : decode cX5_move 5 = .ok (.getfield 12, 3) := by decide +kernel
theorem dX5_move_8 : decode cX5_move 8 = .ok (.invokevirtual 130, 3) := by decide +kernel
theorem dX5_move_11 : decode cX5_move 11 = .ok (.aload_n 0, 1) := by decide +kernel
theorem dX5_move_12 : decode cX5_move 12 = .ok (.getfield 35, 3) := by decide +kernel
theorem dX5_move_15 : decode cX5_move 15 = .ok (.iload_n 1, 1) := by decide +kernel
theorem dX5_move_16 : decode cX5_move 16 = .ok (.invokevirtual 133, 3) := by decide +kernel
theorem dX5_move_19 : decode cX5_move 19 = .ok (.ireturn, 1) := by decide +kernel
theorem dX5_escapes_0 : decode cX5_escapes 0 = .ok (.aload_n 0, 1) := by decide +kernel
theorem dX5_escapes_1 : decode cX5_escapes 1 = .ok (.getfield 12, 3) := by decide +kernel
theorem dX5_escapes_4 : decode cX5_escapes 4 = .ok (.bipush 7, 2) := by decide +kernel
theorem dX5_escapes_6 : decode cX5_escapes 6 = .ok (.invokevirtual 136, 3) := by decide +kernel
theorem dX5_escapes_9 : decode cX5_escapes 9 = .ok (.ifCond .ge 6, 3) := by decide +kernel
theorem dX5_escapes_12 : decode cX5_escapes 12 = .ok (.bipush (-4), 2) := by decide +kernel
theorem dX5_escapes_14 : decode cX5_escapes 14 = .ok (.ireturn, 1) := by decide +kernel
theorem dX5_escapes_15 : decode cX5_escapes 15 = .ok (.aload_n 0, 1) := by decide +kernel
theorem dX5_escapes_16 : decode cX5_escapes 16 = .ok (.getfield 12, 3) := by decide +kernel
theorem dX5_escapes_19 : decode cX5_escapes 19 = .ok (.invokevirtual 139, 3) := by decide +kernel
theorem dX5_escapes_22 : decode cX5_escapes 22 = .ok (.invokestatic 142, 3) := by decide +kernel
theorem dX5_escapes_25 : decode cX5_escapes 25 = .ok (.ireturn, 1) := by decide +kernel
theorem dX5_isFit_0 : decode cX5_isFit 0 = .ok (.aload_n 0, 1) := by decide +kernel
theorem dX5_isFit_1 : decode cX5_isFit 1 = .ok (.getfield 12, 3) := by decide +kernel
theorem dX5_isFit_4 : decode cX5_isFit 4 = .ok (.invokevirtual 117, 3) := by decide +kernel
theorem dX5_isFit_7 : decode cX5_isFit 7 = .ok (.ifCond .eq 7, 3) := by decide +kernel
theorem dX5_isFit_10 : decode cX5_isFit 10 = .ok (.iconst 1, 1) := by decide +kernel
theorem dX5_isFit_11 : decode cX5_isFit 11 = .ok (.goto 4, 3) := by decide +kernel
theorem dX5_isFit_14 : decode cX5_isFit 14 = .ok (.iconst 0, 1) := by decide +kernel
theorem dX5_isFit_15 : decode cX5_isFit 15 = .ok (.ireturn, 1) := by decide +kernel
theorem dX5_key_0 : decode cX5_key 0 = .ok (.aload_n 0, 1) := by decide +kernel
theorem dX5_key_1 : decode cX5_key 1 = .ok (.getfield 12, 3) := by decide +kernel
theorem dX5_key_4 : decode cX5_key 4 = .ok (.invokevirtual 117, 3) := by decide +kernel
theorem dX5_key_7 : decode cX5_key 7 = .ok (.ifCond .ne 6, 3) := by decide +kernel
theorem dX5_key_10 : decode cX5_key 10 = .ok (.bipush (-4), 2) := by decide +kernel
theorem dX5_key_12 : decode cX5_key 12 = .ok (.ireturn, 1) := by decide +kernel
theorem dX5_key_13 : decode cX5_key 13 = .ok (.aload_n 0, 1) := by decide +kernel
theorem dX5_key_14 : decode cX5_key 14 = .ok (.getfield 39, 3) := by decide +kernel
theorem dX5_key_17 : decode cX5_key 17 = .ok (.aload_n 0, 1) := by decide +kernel
theorem dX5_key_18 : decode cX5_key 18 = .ok (.getfield 12, 3) := by decide +kernel
theorem dX5_key_21 : decode cX5_key 21 = .ok (.invokevirtual 124, 3) := by decide +kernel
theorem dX5_key_24 : decode cX5_key 24 = .ok (.aload_n 0, 1) := by decide +kernel
theorem dX5_key_25 : decode cX5_key 25 = .ok (.getfield 39, 3) := by decide +kernel
theorem dX5_key_28 : decode cX5_key 28 = .ok (.iload_n 1, 1) := by decide +kernel
theorem dX5_key_29 : decode cX5_key 29 = .ok (.invokevirtual 133, 3) := by decide +kernel
theorem dX5_key_32 : decode cX5_key 32 = .ok (.ireturn, 1) := by decide +kernel
theorem dX5_kind_0 : decode cX5_kind 0 = .ok (.aload_n 0, 1) := by decide +kernel
theorem dX5_kind_1 : decode cX5_kind 1 = .ok (.getfield 12, 3) := by decide +kernel
theorem dX5_kind_4 : decode cX5_kind 4 = .ok (.iload_n 1, 1) := by decide +kernel
theorem dX5_kind_5 : decode cX5_kind 5 = .ok (.iload_n 2, 1) := by decide +kernel
theorem dX5_kind_6 : decode cX5_kind 6 = .ok (.invokevirtual 145, 3) := by decide +kernel
theorem dX5_kind_9 : decode cX5_kind 9 = .ok (.ifCond .ne 5, 3) := by decide +kernel
theorem dX5_kind_12 : decode cX5_kind 12 = .ok (.iconst (-1), 1) := by decide +kernel
theorem dX5_kind_13 : decode cX5_kind 13 = .ok (.ireturn, 1) := by decide +kernel
theorem dX5_kind_14 : decode cX5_kind 14 = .ok (.aload_n 0, 1) := by decide +kernel
theorem dX5_kind_15 : decode cX5_kind 15 = .ok (.getfield 12, 3) := by decide +kernel
theorem dX5_kind_18 : decode cX5_kind 18 = .ok (.invokevirtual 117, 3) := by decide +kernel
theorem dX5_kind_21 : decode cX5_kind 21 = .ok (.ifCond .ne 6, 3) := by decide +kernel
theorem dX5_kind_24 : decode cX5_kind 24 = .ok (.bipush (-4), 2) := by decide +kernel
theorem dX5_kind_26 : decode cX5_kind 26 = .ok (.ireturn, 1) := by decide +kernel
theorem dX5_kind_27 : decode cX5_kind 27 = .ok (.aload_n 0, 1) := by decide +kernel
theorem dX5_kind_28 : decode cX5_kind 28 = .ok (.getfield 12, 3) := by decide +kernel
theorem dX5_kind_31 : decode cX5_kind 31 = .ok (.iload_n 1, 1) := by decide +kernel
theorem dX5_kind_32 : decode cX5_kind 32 = .ok (.iload_n 2, 1) := by decide +kernel
theorem dX5_kind_33 : decode cX5_kind 33 = .ok (.invokevirtual 149, 3) := by decide +kernel
theorem dX5_kind_36 : decode cX5_kind 36 = .ok (.ireturn, 1) := by decide +kernel
theorem dX5_refutation_0 : decode cX5_refutation 0 = .ok (.iload_n 1, 1) := by decide +kernel
theorem dX5_refutation_1 : decode cX5_refutation 1 = .ok (.invokestatic 95, 3) := by decide +kernel
theorem dX5_refutation_4 : decode cX5_refutation 4 = .ok (.ifCond .eq 10, 3) := by decide +kernel
theorem dX5_refutation_7 : decode cX5_refutation 7 = .ok (.iload_n 2, 1) := by decide +kernel
theorem dX5_refutation_8 : decode cX5_refutation 8 = .ok (.invokestatic 95, 3) := by decide +kernel
theorem dX5_refutation_11 : decode cX5_refutation 11 = .ok (.ifCond .ne 5, 3) := by decide +kernel
theorem dX5_refutation_14 : decode cX5_refutation 14 = .ok (.iconst (-1), 1) := by decide +kernel
theorem dX5_refutation_15 : decode cX5_refutation 15 = .ok (.ireturn, 1) := by decide +kernel
theorem dX5_refutation_16 : decode cX5_refutation 16 = .ok (.aload_n 0, 1) := by decide +kernel
theorem dX5_refutation_17 : decode cX5_refutation 17 = .ok (.getfield 12, 3) := by decide +kernel
theorem dX5_refutation_20 : decode cX5_refutation 20 = .ok (.invokevirtual 117, 3) := by decide +kernel
theorem dX5_refutation_23 : decode cX5_refutation 23 = .ok (.ifCond .ne 6, 3) := by decide +kernel
theorem dX5_refutation_26 : decode cX5_refutation 26 = .ok (.bipush (-4), 2) := by decide +kernel
theorem dX5_refutation_28 : decode cX5_refutation 28 = .ok (.ireturn, 1) := by decide +kernel
theorem dX5_refutation_29 : decode cX5_refutation 29 = .ok (.aload_n 0, 1) := by decide +kernel
theorem dX5_refutation_30 : decode cX5_refutation 30 = .ok (.getfield 12, 3) := by decide +kernel
theorem dX5_refutation_33 : decode cX5_refutation 33 = .ok (.iload_n 1, 1) := by decide +kernel
theorem dX5_refutation_34 : decode cX5_refutation 34 = .ok (.iload_n 2, 1) := by decide +kernel
theorem dX5_refutation_35 : decode cX5_refutation 35 = .ok (.invokevirtual 145, 3) := by decide +kernel
theorem dX5_refutation_38 : decode cX5_refutation 38 = .ok (.ifCond .eq 16, 3) := by decide +kernel
theorem dX5_refutation_41 : decode cX5_refutation 41 = .ok (.aload_n 0, 1) := by decide +kernel
theorem dX5_refutation_42 : decode cX5_refutation 42 = .ok (.getfield 12, 3) := by decide +kernel
theorem dX5_refutation_45 : decode cX5_refutation 45 = .ok (.iload_n 1, 1) := by decide +kernel
theorem dX5_refutation_46 : decode cX5_refutation 46 = .ok (.iload_n 2, 1) := by decide +kernel
theorem dX5_refutation_47 : decode cX5_refutation 47 = .ok (.invokevirtual 149, 3) := by decide +kernel
theorem dX5_refutation_50 : decode cX5_refutation 50 = .ok (.iconst 2, 1) := by decide +kernel
theorem dX5_refutation_51 : decode cX5_refutation 51 = .ok (.if_icmp .eq 5, 3) := by decide +kernel
theorem dX5_refutation_54 : decode cX5_refutation 54 = .ok (.iconst (-1), 1) := by decide +kernel
theorem dX5_refutation_55 : decode cX5_refutation 55 = .ok (.ireturn, 1) := by decide +kernel
theorem dX5_refutation_56 : decode cX5_refutation 56 = .ok (.aload_n 0, 1) := by decide +kernel
theorem dX5_refutation_57 : decode cX5_refutation 57 = .ok (.getfield 12, 3) := by decide +kernel
theorem dX5_refutation_60 : decode cX5_refutation 60 = .ok (.iload_n 1, 1) := by decide +kernel
theorem dX5_refutation_61 : decode cX5_refutation 61 = .ok (.iload_n 2, 1) := by decide +kernel
theorem dX5_refutation_62 : decode cX5_refutation 62 = .ok (.invokevirtual 152, 3) := by decide +kernel
theorem dX5_refutation_65 : decode cX5_refutation 65 = .ok (.invokestatic 142, 3) := by decide +kernel
theorem dX5_refutation_68 : decode cX5_refutation 68 = .ok (.invokestatic 155, 3) := by decide +kernel
theorem dX5_refutation_71 : decode cX5_refutation 71 = .ok (.ireturn, 1) := by decide +kernel
theorem dX5_many_0 : decode cX5_many 0 = .ok (.iload_n 1, 1) := by decide +kernel
theorem dX5_many_1 : decode cX5_many 1 = .ok (.ifCond .lt 8, 3) := by decide +kernel
theorem dX5_many_4 : decode cX5_many 4 = .ok (.iload_n 1, 1) := by decide +kernel
theorem dX5_many_5 : decode cX5_many 5 = .ok (.iconst 4, 1) := by decide +kernel
theorem dX5_many_6 : decode cX5_many 6 = .ok (.if_icmp .lt 6, 3) := by decide +kernel
theorem dX5_many_9 : decode cX5_many 9 = .ok (.bipush (-2), 2) := by decide +kernel
theorem dX5_many_11 : decode cX5_many 11 = .ok (.ireturn, 1) := by decide +kernel
theorem dX5_many_12 : decode cX5_many 12 = .ok (.aload_n 0, 1) := by decide +kernel
theorem dX5_many_13 : decode cX5_many 13 = .ok (.getfield 12, 3) := by decide +kernel
theorem dX5_many_16 : decode cX5_many 16 = .ok (.invokevirtual 117, 3) := by decide +kernel
theorem dX5_many_19 : decode cX5_many 19 = .ok (.ifCond .ne 6, 3) := by decide +kernel
theorem dX5_many_22 : decode cX5_many 22 = .ok (.bipush (-4), 2) := by decide +kernel
theorem dX5_many_24 : decode cX5_many 24 = .ok (.ireturn, 1) := by decide +kernel
theorem dX5_many_25 : decode cX5_many 25 = .ok (.aload_n 0, 1) := by decide +kernel
theorem dX5_many_26 : decode cX5_many 26 = .ok (.invokevirtual 158, 3) := by decide +kernel
theorem dX5_many_29 : decode cX5_many 29 = .ok (.aload_n 0, 1) := by decide +kernel
theorem dX5_many_30 : decode cX5_many 30 = .ok (.getfield 42, 3) := by decide +kernel
theorem dX5_many_33 : decode cX5_many 33 = .ok (.iload_n 1, 1) := by decide +kernel
theorem dX5_many_34 : decode cX5_many 34 = .ok (.iaload, 1) := by decide +kernel
theorem dX5_many_35 : decode cX5_many 35 = .ok (.ireturn, 1) := by decide +kernel
theorem dX5_duals_0 : decode cX5_duals 0 = .ok (.aload_n 0, 1) := by decide +kernel
theorem dX5_duals_1 : decode cX5_duals 1 = .ok (.getfield 12, 3) := by decide +kernel
theorem dX5_duals_4 : decode cX5_duals 4 = .ok (.invokevirtual 117, 3) := by decide +kernel
theorem dX5_duals_7 : decode cX5_duals 7 = .ok (.ifCond .ne 6, 3) := by decide +kernel
theorem dX5_duals_10 : decode cX5_duals 10 = .ok (.bipush (-4), 2) := by decide +kernel
theorem dX5_duals_12 : decode cX5_duals 12 = .ok (.ireturn, 1) := by decide +kernel
theorem dX5_duals_13 : decode cX5_duals 13 = .ok (.aload_n 0, 1) := by decide +kernel
theorem dX5_duals_14 : decode cX5_duals 14 = .ok (.getfield 39, 3) := by decide +kernel
theorem dX5_duals_17 : decode cX5_duals 17 = .ok (.aload_n 0, 1) := by decide +kernel
theorem dX5_duals_18 : decode cX5_duals 18 = .ok (.getfield 12, 3) := by decide +kernel
theorem dX5_duals_21 : decode cX5_duals 21 = .ok (.invokevirtual 124, 3) := by decide +kernel
theorem dX5_duals_24 : decode cX5_duals 24 = .ok (.aload_n 0, 1) := by decide +kernel
theorem dX5_duals_25 : decode cX5_duals 25 = .ok (.getfield 39, 3) := by decide +kernel
theorem dX5_duals_28 : decode cX5_duals 28 = .ok (.invokevirtual 161, 3) := by decide +kernel
theorem dX5_duals_31 : decode cX5_duals 31 = .ok (.istore_n 1, 1) := by decide +kernel
theorem dX5_duals_32 : decode cX5_duals 32 = .ok (.iload_n 1, 1) := by decide +kernel
theorem dX5_duals_33 : decode cX5_duals 33 = .ok (.ifCond .le 9, 3) := by decide +kernel
theorem dX5_duals_36 : decode cX5_duals 36 = .ok (.iload_n 1, 1) := by decide +kernel
theorem dX5_duals_37 : decode cX5_duals 37 = .ok (.iconst 1, 1) := by decide +kernel
theorem dX5_duals_38 : decode cX5_duals 38 = .ok (.isub, 1) := by decide +kernel
theorem dX5_duals_39 : decode cX5_duals 39 = .ok (.goto 4, 3) := by decide +kernel
theorem dX5_duals_42 : decode cX5_duals 42 = .ok (.iconst 0, 1) := by decide +kernel
theorem dX5_duals_43 : decode cX5_duals 43 = .ok (.ireturn, 1) := by decide +kernel
theorem dX5_would_0 : decode cX5_would 0 = .ok (.iload_n 2, 1) := by decide +kernel
theorem dX5_would_1 : decode cX5_would 1 = .ok (.invokestatic 95, 3) := by decide +kernel
theorem dX5_would_4 : decode cX5_would 4 = .ok (.ifCond .eq 17, 3) := by decide +kernel
theorem dX5_would_7 : decode cX5_would 7 = .ok (.aload_n 0, 1) := by decide +kernel
theorem dX5_would_8 : decode cX5_would 8 = .ok (.getfield 12, 3) := by decide +kernel
theorem dX5_would_11 : decode cX5_would 11 = .ok (.iload_n 2, 1) := by decide +kernel
theorem dX5_would_12 : decode cX5_would 12 = .ok (.invokevirtual 99, 3) := by decide +kernel
theorem dX5_would_15 : decode cX5_would 15 = .ok (.invokestatic 164, 3) := by decide +kernel
theorem dX5_would_18 : decode cX5_would 18 = .ok (.ifCond .eq 5, 3) := by decide +kernel
theorem dX5_would_21 : decode cX5_would 21 = .ok (.iconst (-1), 1) := by decide +kernel
theorem dX5_would_22 : decode cX5_would 22 = .ok (.ireturn, 1) := by decide +kernel
theorem dX5_would_23 : decode cX5_would 23 = .ok (.iload_n 1, 1) := by decide +kernel
theorem dX5_would_24 : decode cX5_would 24 = .ok (.ifCond .lt 9, 3) := by decide +kernel
theorem dX5_would_27 : decode cX5_would 27 = .ok (.iload_n 1, 1) := by decide +kernel
theorem dX5_would_28 : decode cX5_would 28 = .ok (.bipush 6, 2) := by decide +kernel
theorem dX5_would_30 : decode cX5_would 30 = .ok (.if_icmp .le 6, 3) := by decide +kernel
theorem dX5_would_33 : decode cX5_would 33 = .ok (.bipush (-2), 2) := by decide +kernel
theorem dX5_would_35 : decode cX5_would 35 = .ok (.ireturn, 1) := by decide +kernel
theorem dX5_would_36 : decode cX5_would 36 = .ok (.iload_n 1, 1) := by decide +kernel
theorem dX5_would_37 : decode cX5_would 37 = .ok (.iconst 1, 1) := by decide +kernel
theorem dX5_would_38 : decode cX5_would 38 = .ok (.if_icmp .ne 17, 3) := by decide +kernel
theorem dX5_would_41 : decode cX5_would 41 = .ok (.aload_n 0, 1) := by decide +kernel
theorem dX5_would_42 : decode cX5_would 42 = .ok (.getfield 12, 3) := by decide +kernel
theorem dX5_would_45 : decode cX5_would 45 = .ok (.iconst 1, 1) := by decide +kernel
theorem dX5_would_46 : decode cX5_would 46 = .ok (.invokevirtual 136, 3) := by decide +kernel
theorem dX5_would_49 : decode cX5_would 49 = .ok (.ifCond .lt 6, 3) := by decide +kernel
theorem dX5_would_52 : decode cX5_would 52 = .ok (.bipush (-2), 2) := by decide +kernel
theorem dX5_would_54 : decode cX5_would 54 = .ok (.ireturn, 1) := by decide +kernel
theorem dX5_would_55 : decode cX5_would 55 = .ok (.aload_n 0, 1) := by decide +kernel
theorem dX5_would_56 : decode cX5_would 56 = .ok (.getfield 19, 3) := by decide +kernel
theorem dX5_would_59 : decode cX5_would 59 = .ok (.aload_n 0, 1) := by decide +kernel
theorem dX5_would_60 : decode cX5_would 60 = .ok (.getfield 12, 3) := by decide +kernel
theorem dX5_would_63 : decode cX5_would 63 = .ok (.invokevirtual 67, 3) := by decide +kernel
theorem dX5_would_66 : decode cX5_would 66 = .ok (.aload_n 0, 1) := by decide +kernel
theorem dX5_would_67 : decode cX5_would 67 = .ok (.getfield 19, 3) := by decide +kernel
theorem dX5_would_70 : decode cX5_would 70 = .ok (.iload_n 2, 1) := by decide +kernel
theorem dX5_would_71 : decode cX5_would 71 = .ok (.iload_n 1, 1) := by decide +kernel
theorem dX5_would_72 : decode cX5_would 72 = .ok (.invokevirtual 167, 3) := by decide +kernel
theorem dX5_would_75 : decode cX5_would 75 = .ok (.aload_n 0, 1) := by decide +kernel
theorem dX5_would_76 : decode cX5_would 76 = .ok (.getfield 19, 3) := by decide +kernel
theorem dX5_would_79 : decode cX5_would 79 = .ok (.invokevirtual 117, 3) := by decide +kernel
theorem dX5_would_82 : decode cX5_would 82 = .ok (.ifCond .ne 6, 3) := by decide +kernel
theorem dX5_would_85 : decode cX5_would 85 = .ok (.bipush (-4), 2) := by decide +kernel
theorem dX5_would_87 : decode cX5_would 87 = .ok (.ireturn, 1) := by decide +kernel
theorem dX5_would_88 : decode cX5_would 88 = .ok (.aload_n 0, 1) := by decide +kernel
theorem dX5_would_89 : decode cX5_would 89 = .ok (.getfield 39, 3) := by decide +kernel
theorem dX5_would_92 : decode cX5_would 92 = .ok (.aload_n 0, 1) := by decide +kernel
theorem dX5_would_93 : decode cX5_would 93 = .ok (.getfield 19, 3) := by decide +kernel
theorem dX5_would_96 : decode cX5_would 96 = .ok (.invokevirtual 124, 3) := by decide +kernel
theorem dX5_would_99 : decode cX5_would 99 = .ok (.aload_n 0, 1) := by decide +kernel
theorem dX5_would_100 : decode cX5_would 100 = .ok (.getfield 39, 3) := by decide +kernel
theorem dX5_would_103 : decode cX5_would 103 = .ok (.invokevirtual 161, 3) := by decide +kernel
theorem dX5_would_106 : decode cX5_would 106 = .ok (.ireturn, 1) := by decide +kernel
theorem dX5_ranked_0 : decode cX5_ranked 0 = .ok (.iconst 0, 1) := by decide +kernel
theorem dX5_ranked_1 : decode cX5_ranked 1 = .ok (.istore_n 2, 1) := by decide +kernel
theorem dX5_ranked_2 : decode cX5_ranked 2 = .ok (.iload_n 2, 1) := by decide +kernel
theorem dX5_ranked_3 : decode cX5_ranked 3 = .ok (.bipush 25, 2) := by decide +kernel
theorem dX5_ranked_5 : decode cX5_ranked 5 = .ok (.if_icmp .ge 26, 3) := by decide +kernel
theorem dX5_ranked_8 : decode cX5_ranked 8 = .ok (.aload_n 0, 1) := by decide +kernel
theorem dX5_ranked_9 : decode cX5_ranked 9 = .ok (.getfield 46, 3) := by decide +kernel
theorem dX5_ranked_12 : decode cX5_ranked 12 = .ok (.iload_n 2, 1) := by decide +kernel
theorem dX5_ranked_13 : decode cX5_ranked 13 = .ok (.aload_n 0, 1) := by decide +kernel
theorem dX5_ranked_14 : decode cX5_ranked 14 = .ok (.getfield 12, 3) := by decide +kernel
theorem dX5_ranked_17 : decode cX5_ranked 17 = .ok (.iload_n 2, 1) := by decide +kernel
theorem dX5_ranked_18 : decode cX5_ranked 18 = .ok (.invokevirtual 114, 3) := by decide +kernel
theorem dX5_ranked_21 : decode cX5_ranked 21 = .ok (.invokestatic 111, 3) := by decide +kernel
theorem dX5_ranked_24 : decode cX5_ranked 24 = .ok (.iastore, 1) := by decide +kernel
theorem dX5_ranked_25 : decode cX5_ranked 25 = .ok (.iinc 2 1, 3) := by decide +kernel
theorem dX5_ranked_28 : decode cX5_ranked 28 = .ok (.goto (-26), 3) := by decide +kernel
theorem dX5_ranked_31 : decode cX5_ranked 31 = .ok (.iconst 0, 1) := by decide +kernel
theorem dX5_ranked_32 : decode cX5_ranked 32 = .ok (.istore_n 2, 1) := by decide +kernel
theorem dX5_ranked_33 : decode cX5_ranked 33 = .ok (.iload_n 2, 1) := by decide +kernel
theorem dX5_ranked_34 : decode cX5_ranked 34 = .ok (.bipush 25, 2) := by decide +kernel
theorem dX5_ranked_36 : decode cX5_ranked 36 = .ok (.if_icmp .ge 34, 3) := by decide +kernel
theorem dX5_ranked_39 : decode cX5_ranked 39 = .ok (.aload_n 0, 1) := by decide +kernel
theorem dX5_ranked_40 : decode cX5_ranked 40 = .ok (.getfield 12, 3) := by decide +kernel
theorem dX5_ranked_43 : decode cX5_ranked 43 = .ok (.iload_n 2, 1) := by decide +kernel
theorem dX5_ranked_44 : decode cX5_ranked 44 = .ok (.invokevirtual 99, 3) := by decide +kernel
theorem dX5_ranked_47 : decode cX5_ranked 47 = .ok (.invokestatic 171, 3) := by decide +kernel
theorem dX5_ranked_50 : decode cX5_ranked 50 = .ok (.ifCond .eq 14, 3) := by decide +kernel
theorem dX5_ranked_53 : decode cX5_ranked 53 = .ok (.aload_n 0, 1) := by decide +kernel
theorem dX5_ranked_54 : decode cX5_ranked 54 = .ok (.iload_n 2, 1) := by decide +kernel
theorem dX5_ranked_55 : decode cX5_ranked 55 = .ok (.invokevirtual 174, 3) := by decide +kernel
theorem dX5_ranked_58 : decode cX5_ranked 58 = .ok (.iload_n 1, 1) := by decide +kernel
theorem dX5_ranked_59 : decode cX5_ranked 59 = .ok (.if_icmp .ne 5, 3) := by decide +kernel
theorem dX5_ranked_62 : decode cX5_ranked 62 = .ok (.iload_n 2, 1) := by decide +kernel
theorem dX5_ranked_63 : decode cX5_ranked 63 = .ok (.ireturn, 1) := by decide +kernel
theorem dX5_ranked_64 : decode cX5_ranked 64 = .ok (.iinc 2 1, 3) := by decide +kernel
theorem dX5_ranked_67 : decode cX5_ranked 67 = .ok (.goto (-34), 3) := by decide +kernel
theorem dX5_ranked_70 : decode cX5_ranked 70 = .ok (.iconst (-1), 1) := by decide +kernel
theorem dX5_ranked_71 : decode cX5_ranked 71 = .ok (.ireturn, 1) := by decide +kernel
theorem dX5_show_0 : decode cX5_show 0 = .ok (.aload_n 0, 1) := by decide +kernel
theorem dX5_show_1 : decode cX5_show 1 = .ok (.getfield 52, 3) := by decide +kernel
theorem dX5_show_4 : decode cX5_show 4 = .ok (.invokevirtual 177, 3) := by decide +kernel
theorem dX5_show_7 : decode cX5_show 7 = .ok (.iconst 4, 1) := by decide +kernel
theorem dX5_show_8 : decode cX5_show 8 = .ok (.istore_n 1, 1) := by decide +kernel
theorem dX5_show_9 : decode cX5_show 9 = .ok (.iload_n 1, 1) := by decide +kernel
theorem dX5_show_10 : decode cX5_show 10 = .ok (.ifCond .lt 54, 3) := by decide +kernel
theorem dX5_show_13 : decode cX5_show 13 = .ok (.iconst 0, 1) := by decide +kernel
theorem dX5_show_14 : decode cX5_show 14 = .ok (.istore_n 2, 1) := by decide +kernel
theorem dX5_show_15 : decode cX5_show 15 = .ok (.iload_n 2, 1) := by decide +kernel
theorem dX5_show_16 : decode cX5_show 16 = .ok (.iconst 5, 1) := by decide +kernel
theorem dX5_show_17 : decode cX5_show 17 = .ok (.if_icmp .ge 28, 3) := by decide +kernel
theorem dX5_show_20 : decode cX5_show 20 = .ok (.aload_n 0, 1) := by decide +kernel
theorem dX5_show_21 : decode cX5_show 21 = .ok (.getfield 52, 3) := by decide +kernel
theorem dX5_show_24 : decode cX5_show 24 = .ok (.aload_n 0, 1) := by decide +kernel
theorem dX5_show_25 : decode cX5_show 25 = .ok (.getfield 12, 3) := by decide +kernel
theorem dX5_show_28 : decode cX5_show 28 = .ok (.iload_n 1, 1) := by decide +kernel
theorem dX5_show_29 : decode cX5_show 29 = .ok (.iconst 5, 1) := by decide +kernel
theorem dX5_show_30 : decode cX5_show 30 = .ok (.imul, 1) := by decide +kernel
theorem dX5_show_31 : decode cX5_show 31 = .ok (.iload_n 2, 1) := by decide +kernel
theorem dX5_show_32 : decode cX5_show 32 = .ok (.iadd, 1) := by decide +kernel
theorem dX5_show_33 : decode cX5_show 33 = .ok (.invokevirtual 99, 3) := by decide +kernel
theorem dX5_show_36 : decode cX5_show 36 = .ok (.invokevirtual 180, 3) := by decide +kernel
theorem dX5_show_39 : decode cX5_show 39 = .ok (.iinc 2 1, 3) := by decide +kernel
theorem dX5_show_42 : decode cX5_show 42 = .ok (.goto (-27), 3) := by decide +kernel
theorem dX5_show_45 : decode cX5_show 45 = .ok (.iload_n 1, 1) := by decide +kernel
theorem dX5_show_46 : decode cX5_show 46 = .ok (.ifCond .le 12, 3) := by decide +kernel
theorem dX5_show_49 : decode cX5_show 49 = .ok (.aload_n 0, 1) := by decide +kernel
theorem dX5_show_50 : decode cX5_show 50 = .ok (.getfield 52, 3) := by decide +kernel
theorem dX5_show_53 : decode cX5_show 53 = .ok (.bipush 47, 2) := by decide +kernel
theorem dX5_show_55 : decode cX5_show 55 = .ok (.invokevirtual 184, 3) := by decide +kernel
theorem dX5_show_58 : decode cX5_show 58 = .ok (.iinc 1 (-1), 3) := by decide +kernel
theorem dX5_show_61 : decode cX5_show 61 = .ok (.goto (-52), 3) := by decide +kernel
theorem dX5_show_64 : decode cX5_show 64 = .ok (.aload_n 0, 1) := by decide +kernel
theorem dX5_show_65 : decode cX5_show 65 = .ok (.getfield 52, 3) := by decide +kernel
theorem dX5_show_68 : decode cX5_show 68 = .ok (.getfield 187, 3) := by decide +kernel
theorem dX5_show_71 : decode cX5_show 71 = .ok (.ireturn, 1) := by decide +kernel
theorem dX5_tell_0 : decode cX5_tell 0 = .ok (.aload_n 0, 1) := by decide +kernel
theorem dX5_tell_1 : decode cX5_tell 1 = .ok (.getfield 12, 3) := by decide +kernel
theorem dX5_tell_4 : decode cX5_tell 4 = .ok (.iload_n 1, 1) := by decide +kernel
theorem dX5_tell_5 : decode cX5_tell 5 = .ok (.iload_n 2, 1) := by decide +kernel
theorem dX5_tell_6 : decode cX5_tell 6 = .ok (.invokevirtual 145, 3) := by decide +kernel
theorem dX5_tell_9 : decode cX5_tell 9 = .ok (.ifCond .ne 5, 3) := by decide +kernel
theorem dX5_tell_12 : decode cX5_tell 12 = .ok (.iconst (-1), 1) := by decide +kernel
theorem dX5_tell_13 : decode cX5_tell 13 = .ok (.ireturn, 1) := by decide +kernel
theorem dX5_tell_14 : decode cX5_tell 14 = .ok (.aload_n 0, 1) := by decide +kernel
theorem dX5_tell_15 : decode cX5_tell 15 = .ok (.getfield 12, 3) := by decide +kernel
theorem dX5_tell_18 : decode cX5_tell 18 = .ok (.invokevirtual 117, 3) := by decide +kernel
theorem dX5_tell_21 : decode cX5_tell 21 = .ok (.ifCond .ne 6, 3) := by decide +kernel
theorem dX5_tell_24 : decode cX5_tell 24 = .ok (.bipush (-4), 2) := by decide +kernel
theorem dX5_tell_26 : decode cX5_tell 26 = .ok (.ireturn, 1) := by decide +kernel
theorem dX5_tell_27 : decode cX5_tell 27 = .ok (.aload_n 0, 1) := by decide +kernel
theorem dX5_tell_28 : decode cX5_tell 28 = .ok (.getfield 52, 3) := by decide +kernel
theorem dX5_tell_31 : decode cX5_tell 31 = .ok (.invokevirtual 177, 3) := by decide +kernel
theorem dX5_tell_34 : decode cX5_tell 34 = .ok (.aload_n 0, 1) := by decide +kernel
theorem dX5_tell_35 : decode cX5_tell 35 = .ok (.getfield 52, 3) := by decide +kernel
theorem dX5_tell_38 : decode cX5_tell 38 = .ok (.aload_n 0, 1) := by decide +kernel
theorem dX5_tell_39 : decode cX5_tell 39 = .ok (.getfield 12, 3) := by decide +kernel
theorem dX5_tell_42 : decode cX5_tell 42 = .ok (.iload_n 1, 1) := by decide +kernel
theorem dX5_tell_43 : decode cX5_tell 43 = .ok (.invokevirtual 99, 3) := by decide +kernel
theorem dX5_tell_46 : decode cX5_tell 46 = .ok (.invokevirtual 180, 3) := by decide +kernel
theorem dX5_tell_49 : decode cX5_tell 49 = .ok (.aload_n 0, 1) := by decide +kernel
theorem dX5_tell_50 : decode cX5_tell 50 = .ok (.getfield 52, 3) := by decide +kernel
theorem dX5_tell_53 : decode cX5_tell 53 = .ok (.iload_n 1, 1) := by decide +kernel
theorem dX5_tell_54 : decode cX5_tell 54 = .ok (.invokevirtual 190, 3) := by decide +kernel
theorem dX5_tell_57 : decode cX5_tell 57 = .ok (.aload_n 0, 1) := by decide +kernel
theorem dX5_tell_58 : decode cX5_tell 58 = .ok (.getfield 52, 3) := by decide +kernel
theorem dX5_tell_61 : decode cX5_tell 61 = .ok (.aload_n 0, 1) := by decide +kernel
theorem dX5_tell_62 : decode cX5_tell 62 = .ok (.getfield 12, 3) := by decide +kernel
theorem dX5_tell_65 : decode cX5_tell 65 = .ok (.iload_n 2, 1) := by decide +kernel
theorem dX5_tell_66 : decode cX5_tell 66 = .ok (.invokevirtual 99, 3) := by decide +kernel
theorem dX5_tell_69 : decode cX5_tell 69 = .ok (.bipush 6, 2) := by decide +kernel
theorem dX5_tell_71 : decode cX5_tell 71 = .ok (.if_icmp .ne 8, 3) := by decide +kernel
theorem dX5_tell_74 : decode cX5_tell 74 = .ok (.bipush 120, 2) := by decide +kernel
theorem dX5_tell_76 : decode cX5_tell 76 = .ok (.goto 5, 3) := by decide +kernel
theorem dX5_tell_79 : decode cX5_tell 79 = .ok (.bipush 45, 2) := by decide +kernel
theorem dX5_tell_81 : decode cX5_tell 81 = .ok (.invokevirtual 184, 3) := by decide +kernel
theorem dX5_tell_84 : decode cX5_tell 84 = .ok (.aload_n 0, 1) := by decide +kernel
theorem dX5_tell_85 : decode cX5_tell 85 = .ok (.getfield 52, 3) := by decide +kernel
theorem dX5_tell_88 : decode cX5_tell 88 = .ok (.iload_n 2, 1) := by decide +kernel
theorem dX5_tell_89 : decode cX5_tell 89 = .ok (.invokevirtual 190, 3) := by decide +kernel
theorem dX5_tell_92 : decode cX5_tell 92 = .ok (.aload_n 0, 1) := by decide +kernel
theorem dX5_tell_93 : decode cX5_tell 93 = .ok (.getfield 52, 3) := by decide +kernel
theorem dX5_tell_96 : decode cX5_tell 96 = .ok (.aload_n 0, 1) := by decide +kernel
theorem dX5_tell_97 : decode cX5_tell 97 = .ok (.getfield 12, 3) := by decide +kernel
theorem dX5_tell_100 : decode cX5_tell 100 = .ok (.iload_n 1, 1) := by decide +kernel
theorem dX5_tell_101 : decode cX5_tell 101 = .ok (.iload_n 2, 1) := by decide +kernel
theorem dX5_tell_102 : decode cX5_tell 102 = .ok (.invokevirtual 149, 3) := by decide +kernel
theorem dX5_tell_105 : decode cX5_tell 105 = .ok (.invokevirtual 193, 3) := by decide +kernel
theorem dX5_tell_108 : decode cX5_tell 108 = .ok (.aload_n 0, 1) := by decide +kernel
theorem dX5_tell_109 : decode cX5_tell 109 = .ok (.getfield 52, 3) := by decide +kernel
theorem dX5_tell_112 : decode cX5_tell 112 = .ok (.getfield 187, 3) := by decide +kernel
theorem dX5_tell_115 : decode cX5_tell 115 = .ok (.ireturn, 1) := by decide +kernel
theorem dX5_sign_0 : decode cX5_sign 0 = .ok (.aload_n 0, 1) := by decide +kernel
theorem dX5_sign_1 : decode cX5_sign 1 = .ok (.getfield 52, 3) := by decide +kernel
theorem dX5_sign_4 : decode cX5_sign 4 = .ok (.iload_n 1, 1) := by decide +kernel
theorem dX5_sign_5 : decode cX5_sign 5 = .ok (.invokevirtual 196, 3) := by decide +kernel
theorem dX5_sign_8 : decode cX5_sign 8 = .ok (.ireturn, 1) := by decide +kernel
theorem dX5_append_0 : decode cX5_append 0 = .ok (.aload_n 0, 1) := by decide +kernel
theorem dX5_append_1 : decode cX5_append 1 = .ok (.getfield 59, 3) := by decide +kernel
theorem dX5_append_4 : decode cX5_append 4 = .ok (.iload_n 1, 1) := by decide +kernel
theorem dX5_append_5 : decode cX5_append 5 = .ok (.invokevirtual 199, 3) := by decide +kernel
theorem dX5_append_8 : decode cX5_append 8 = .ok (.ireturn, 1) := by decide +kernel
theorem dX5_read_0 : decode cX5_read 0 = .ok (.aload_n 0, 1) := by decide +kernel
theorem dX5_read_1 : decode cX5_read 1 = .ok (.getfield 59, 3) := by decide +kernel
theorem dX5_read_4 : decode cX5_read 4 = .ok (.invokevirtual 202, 3) := by decide +kernel
theorem dX5_read_7 : decode cX5_read 7 = .ok (.istore_n 1, 1) := by decide +kernel
theorem dX5_read_8 : decode cX5_read 8 = .ok (.aload_n 0, 1) := by decide +kernel
theorem dX5_read_9 : decode cX5_read 9 = .ok (.getfield 59, 3) := by decide +kernel
theorem dX5_read_12 : decode cX5_read 12 = .ok (.invokevirtual 205, 3) := by decide +kernel
theorem dX5_read_15 : decode cX5_read 15 = .ok (.iload_n 1, 1) := by decide +kernel
theorem dX5_read_16 : decode cX5_read 16 = .ok (.ifCond .lt 8, 3) := by decide +kernel
theorem dX5_read_19 : decode cX5_read 19 = .ok (.bipush (-100), 2) := by decide +kernel
theorem dX5_read_21 : decode cX5_read 21 = .ok (.iload_n 1, 1) := by decide +kernel
theorem dX5_read_22 : decode cX5_read 22 = .ok (.isub, 1) := by decide +kernel
theorem dX5_read_23 : decode cX5_read 23 = .ok (.ireturn, 1) := by decide +kernel
theorem dX5_read_24 : decode cX5_read 24 = .ok (.aload_n 0, 1) := by decide +kernel
theorem dX5_read_25 : decode cX5_read 25 = .ok (.getfield 16, 3) := by decide +kernel
theorem dX5_read_28 : decode cX5_read 28 = .ok (.aload_n 0, 1) := by decide +kernel
theorem dX5_read_29 : decode cX5_read 29 = .ok (.getfield 12, 3) := by decide +kernel
theorem dX5_read_32 : decode cX5_read 32 = .ok (.invokevirtual 67, 3) := by decide +kernel
theorem dX5_read_35 : decode cX5_read 35 = .ok (.iconst 0, 1) := by decide +kernel
theorem dX5_read_36 : decode cX5_read 36 = .ok (.istore_n 2, 1) := by decide +kernel
theorem dX5_read_37 : decode cX5_read 37 = .ok (.aload_n 0, 1) := by decide +kernel
theorem dX5_read_38 : decode cX5_read 38 = .ok (.getfield 59, 3) := by decide +kernel
theorem dX5_read_41 : decode cX5_read 41 = .ok (.getfield 206, 3) := by decide +kernel
theorem dX5_read_44 : decode cX5_read 44 = .ok (.istore_n 3, 1) := by decide +kernel
theorem dX5_read_45 : decode cX5_read 45 = .ok (.iconst 0, 1) := by decide +kernel
theorem dX5_read_46 : decode cX5_read 46 = .ok (.istore 4, 2) := by decide +kernel
theorem dX5_read_48 : decode cX5_read 48 = .ok (.iload 4, 2) := by decide +kernel
theorem dX5_read_50 : decode cX5_read 50 = .ok (.iload_n 3, 1) := by decide +kernel
theorem dX5_read_51 : decode cX5_read 51 = .ok (.if_icmp .ge 138, 3) := by decide +kernel
theorem dX5_read_54 : decode cX5_read 54 = .ok (.iload_n 2, 1) := by decide +kernel
theorem dX5_read_55 : decode cX5_read 55 = .ok (.ifCond .lt 134, 3) := by decide +kernel
theorem dX5_read_58 : decode cX5_read 58 = .ok (.aload_n 0, 1) := by decide +kernel
theorem dX5_read_59 : decode cX5_read 59 = .ok (.iload 4, 2) := by decide +kernel
theorem dX5_read_61 : decode cX5_read 61 = .ok (.putfield 63, 3) := by decide +kernel
theorem dX5_read_64 : decode cX5_read 64 = .ok (.aload_n 0, 1) := by decide +kernel
theorem dX5_read_65 : decode cX5_read 65 = .ok (.getfield 59, 3) := by decide +kernel
theorem dX5_read_68 : decode cX5_read 68 = .ok (.iload 4, 2) := by decide +kernel
theorem dX5_read_70 : decode cX5_read 70 = .ok (.invokevirtual 209, 3) := by decide +kernel
theorem dX5_read_73 : decode cX5_read 73 = .ok (.istore 5, 2) := by decide +kernel
theorem dX5_read_75 : decode cX5_read 75 = .ok (.aload_n 0, 1) := by decide +kernel
theorem dX5_read_76 : decode cX5_read 76 = .ok (.getfield 59, 3) := by decide +kernel
theorem dX5_read_79 : decode cX5_read 79 = .ok (.iload 4, 2) := by decide +kernel
theorem dX5_read_81 : decode cX5_read 81 = .ok (.invokevirtual 212, 3) := by decide +kernel
theorem dX5_read_84 : decode cX5_read 84 = .ok (.istore 6, 2) := by decide +kernel
theorem dX5_read_86 : decode cX5_read 86 = .ok (.iload 5, 2) := by decide +kernel
theorem dX5_read_88 : decode cX5_read 88 = .ok (.bipush 8, 2) := by decide +kernel
theorem dX5_read_90 : decode cX5_read 90 = .ok (.if_icmp .ne 13, 3) := by decide +kernel
theorem dX5_read_93 : decode cX5_read 93 = .ok (.aload_n 0, 1) := by decide +kernel
theorem dX5_read_94 : decode cX5_read 94 = .ok (.iload 6, 2) := by decide +kernel
theorem dX5_read_96 : decode cX5_read 96 = .ok (.invokevirtual 79, 3) := by decide +kernel
theorem dX5_read_99 : decode cX5_read 99 = .ok (.istore_n 2, 1) := by decide +kernel
theorem dX5_read_100 : decode cX5_read 100 = .ok (.goto 83, 3) := by decide +kernel
theorem dX5_read_103 : decode cX5_read 103 = .ok (.iload 5, 2) := by decide +kernel
theorem dX5_read_105 : decode cX5_read 105 = .ok (.bipush 9, 2) := by decide +kernel
theorem dX5_read_107 : decode cX5_read 107 = .ok (.if_icmp .ne 22, 3) := by decide +kernel
theorem dX5_read_110 : decode cX5_read 110 = .ok (.aload_n 0, 1) := by decide +kernel
theorem dX5_read_111 : decode cX5_read 111 = .ok (.aload_n 0, 1) := by decide +kernel
theorem dX5_read_112 : decode cX5_read 112 = .ok (.getfield 59, 3) := by decide +kernel
theorem dX5_read_115 : decode cX5_read 115 = .ok (.iload 4, 2) := by decide +kernel
theorem dX5_read_117 : decode cX5_read 117 = .ok (.invokevirtual 213, 3) := by decide +kernel
theorem dX5_read_120 : decode cX5_read 120 = .ok (.iload 6, 2) := by decide +kernel
theorem dX5_read_122 : decode cX5_read 122 = .ok (.invokevirtual 82, 3) := by decide +kernel
theorem dX5_read_125 : decode cX5_read 125 = .ok (.istore_n 2, 1) := by decide +kernel
theorem dX5_read_126 : decode cX5_read 126 = .ok (.goto 57, 3) := by decide +kernel
theorem dX5_read_129 : decode cX5_read 129 = .ok (.iload 5, 2) := by decide +kernel
theorem dX5_read_131 : decode cX5_read 131 = .ok (.bipush 10, 2) := by decide +kernel
theorem dX5_read_133 : decode cX5_read 133 = .ok (.if_icmp .ne 11, 3) := by decide +kernel
theorem dX5_read_136 : decode cX5_read 136 = .ok (.aload_n 0, 1) := by decide +kernel
theorem dX5_read_137 : decode cX5_read 137 = .ok (.invokevirtual 85, 3) := by decide +kernel
theorem dX5_read_140 : decode cX5_read 140 = .ok (.istore_n 2, 1) := by decide +kernel
theorem dX5_read_141 : decode cX5_read 141 = .ok (.goto 42, 3) := by decide +kernel
theorem dX5_read_144 : decode cX5_read 144 = .ok (.iload 5, 2) := by decide +kernel
theorem dX5_read_146 : decode cX5_read 146 = .ok (.bipush 11, 2) := by decide +kernel
theorem dX5_read_148 : decode cX5_read 148 = .ok (.if_icmp .ne 11, 3) := by decide +kernel
theorem dX5_read_151 : decode cX5_read 151 = .ok (.aload_n 0, 1) := by decide +kernel
theorem dX5_read_152 : decode cX5_read 152 = .ok (.invokevirtual 89, 3) := by decide +kernel
theorem dX5_read_155 : decode cX5_read 155 = .ok (.istore_n 2, 1) := by decide +kernel
theorem dX5_read_156 : decode cX5_read 156 = .ok (.goto 27, 3) := by decide +kernel
theorem dX5_read_159 : decode cX5_read 159 = .ok (.iload 5, 2) := by decide +kernel
theorem dX5_read_161 : decode cX5_read 161 = .ok (.bipush 12, 2) := by decide +kernel
theorem dX5_read_163 : decode cX5_read 163 = .ok (.if_icmp .ne 11, 3) := by decide +kernel
theorem dX5_read_166 : decode cX5_read 166 = .ok (.aload_n 0, 1) := by decide +kernel
theorem dX5_read_167 : decode cX5_read 167 = .ok (.invokevirtual 92, 3) := by decide +kernel
theorem dX5_read_170 : decode cX5_read 170 = .ok (.istore_n 2, 1) := by decide +kernel
theorem dX5_read_171 : decode cX5_read 171 = .ok (.goto 12, 3) := by decide +kernel
theorem dX5_read_174 : decode cX5_read 174 = .ok (.aload_n 0, 1) := by decide +kernel
theorem dX5_read_175 : decode cX5_read 175 = .ok (.iload 5, 2) := by decide +kernel
theorem dX5_read_177 : decode cX5_read 177 = .ok (.iload 6, 2) := by decide +kernel
theorem dX5_read_179 : decode cX5_read 179 = .ok (.invokevirtual 71, 3) := by decide +kernel
theorem dX5_read_182 : decode cX5_read 182 = .ok (.istore_n 2, 1) := by decide +kernel
theorem dX5_read_183 : decode cX5_read 183 = .ok (.iinc 4 1, 3) := by decide +kernel
theorem dX5_read_186 : decode cX5_read 186 = .ok (.goto (-138), 3) := by decide +kernel
theorem dX5_read_189 : decode cX5_read 189 = .ok (.aload_n 0, 1) := by decide +kernel
theorem dX5_read_190 : decode cX5_read 190 = .ok (.bipush (-4), 2) := by decide +kernel
theorem dX5_read_192 : decode cX5_read 192 = .ok (.putfield 63, 3) := by decide +kernel
theorem dX5_read_195 : decode cX5_read 195 = .ok (.iload_n 2, 1) := by decide +kernel
theorem dX5_read_196 : decode cX5_read 196 = .ok (.ifCond .ge 17, 3) := by decide +kernel
theorem dX5_read_199 : decode cX5_read 199 = .ok (.aload_n 0, 1) := by decide +kernel
theorem dX5_read_200 : decode cX5_read 200 = .ok (.getfield 12, 3) := by decide +kernel
theorem dX5_read_203 : decode cX5_read 203 = .ok (.aload_n 0, 1) := by decide +kernel
theorem dX5_read_204 : decode cX5_read 204 = .ok (.getfield 16, 3) := by decide +kernel
theorem dX5_read_207 : decode cX5_read 207 = .ok (.invokevirtual 67, 3) := by decide +kernel
theorem dX5_read_210 : decode cX5_read 210 = .ok (.bipush (-3), 2) := by decide +kernel
theorem dX5_read_212 : decode cX5_read 212 = .ok (.ireturn, 1) := by decide +kernel
theorem dX5_read_213 : decode cX5_read 213 = .ok (.aload_n 0, 1) := by decide +kernel
theorem dX5_read_214 : decode cX5_read 214 = .ok (.getfield 28, 3) := by decide +kernel
theorem dX5_read_217 : decode cX5_read 217 = .ok (.aload_n 0, 1) := by decide +kernel
theorem dX5_read_218 : decode cX5_read 218 = .ok (.getfield 16, 3) := by decide +kernel
theorem dX5_read_221 : decode cX5_read 221 = .ok (.invokevirtual 216, 3) := by decide +kernel
theorem dX5_read_224 : decode cX5_read 224 = .ok (.iload_n 3, 1) := by decide +kernel
theorem dX5_read_225 : decode cX5_read 225 = .ok (.ireturn, 1) := by decide +kernel
theorem dX5_refusal_0 : decode cX5_refusal 0 = .ok (.iload_n 1, 1) := by decide +kernel
theorem dX5_refusal_1 : decode cX5_refusal 1 = .ok (.ifCond .lt 8, 3) := by decide +kernel
theorem dX5_refusal_4 : decode cX5_refusal 4 = .ok (.iload_n 1, 1) := by decide +kernel
theorem dX5_refusal_5 : decode cX5_refusal 5 = .ok (.iconst 2, 1) := by decide +kernel
theorem dX5_refusal_6 : decode cX5_refusal 6 = .ok (.if_icmp .le 6, 3) := by decide +kernel
theorem dX5_refusal_9 : decode cX5_refusal 9 = .ok (.bipush (-2), 2) := by decide +kernel
theorem dX5_refusal_11 : decode cX5_refusal 11 = .ok (.ireturn, 1) := by decide +kernel
theorem dX5_refusal_12 : decode cX5_refusal 12 = .ok (.aload_n 0, 1) := by decide +kernel
theorem dX5_refusal_13 : decode cX5_refusal 13 = .ok (.getfield 219, 3) := by decide +kernel
theorem dX5_refusal_16 : decode cX5_refusal 16 = .ok (.ifCond .ne 6, 3) := by decide +kernel
theorem dX5_refusal_19 : decode cX5_refusal 19 = .ok (.bipush (-4), 2) := by decide +kernel
theorem dX5_refusal_21 : decode cX5_refusal 21 = .ok (.ireturn, 1) := by decide +kernel
theorem dX5_refusal_22 : decode cX5_refusal 22 = .ok (.iload_n 1, 1) := by decide +kernel
theorem dX5_refusal_23 : decode cX5_refusal 23 = .ok (.ifCond .ne 8, 3) := by decide +kernel
theorem dX5_refusal_26 : decode cX5_refusal 26 = .ok (.aload_n 0, 1) := by decide +kernel
theorem dX5_refusal_27 : decode cX5_refusal 27 = .ok (.getfield 219, 3) := by decide +kernel
theorem dX5_refusal_30 : decode cX5_refusal 30 = .ok (.ireturn, 1) := by decide +kernel
theorem dX5_refusal_31 : decode cX5_refusal 31 = .ok (.iload_n 1, 1) := by decide +kernel
theorem dX5_refusal_32 : decode cX5_refusal 32 = .ok (.iconst 1, 1) := by decide +kernel
theorem dX5_refusal_33 : decode cX5_refusal 33 = .ok (.if_icmp .ne 10, 3) := by decide +kernel
theorem dX5_refusal_36 : decode cX5_refusal 36 = .ok (.aload_n 0, 1) := by decide +kernel
theorem dX5_refusal_37 : decode cX5_refusal 37 = .ok (.getfield 222, 3) := by decide +kernel
theorem dX5_refusal_40 : decode cX5_refusal 40 = .ok (.goto 7, 3) := by decide +kernel
theorem dX5_refusal_43 : decode cX5_refusal 43 = .ok (.aload_n 0, 1) := by decide +kernel
theorem dX5_refusal_44 : decode cX5_refusal 44 = .ok (.getfield 225, 3) := by decide +kernel
theorem dX5_refusal_47 : decode cX5_refusal 47 = .ok (.ireturn, 1) := by decide +kernel
theorem dX5_account_0 : decode cX5_account 0 = .ok (.iload_n 1, 1) := by decide +kernel
theorem dX5_account_1 : decode cX5_account 1 = .ok (.tableswitch 198 0 11 #[63, 71, 81, 93, 120, 139, 150, 158, 166, 174, 182, 190], 63) := by decide +kernel
theorem dX5_account_64 : decode cX5_account 64 = .ok (.aload_n 0, 1) := by decide +kernel
theorem dX5_account_65 : decode cX5_account 65 = .ok (.getfield 12, 3) := by decide +kernel
theorem dX5_account_68 : decode cX5_account 68 = .ok (.invokevirtual 228, 3) := by decide +kernel
theorem dX5_account_71 : decode cX5_account 71 = .ok (.ireturn, 1) := by decide +kernel
theorem dX5_account_72 : decode cX5_account 72 = .ok (.aload_n 0, 1) := by decide +kernel
theorem dX5_account_73 : decode cX5_account 73 = .ok (.getfield 12, 3) := by decide +kernel
theorem dX5_account_76 : decode cX5_account 76 = .ok (.iconst 1, 1) := by decide +kernel
theorem dX5_account_77 : decode cX5_account 77 = .ok (.iconst 5, 1) := by decide +kernel
theorem dX5_account_78 : decode cX5_account 78 = .ok (.invokevirtual 231, 3) := by decide +kernel
theorem dX5_account_81 : decode cX5_account 81 = .ok (.ireturn, 1) := by decide +kernel
theorem dX5_account_82 : decode cX5_account 82 = .ok (.aload_n 0, 1) := by decide +kernel
theorem dX5_account_83 : decode cX5_account 83 = .ok (.getfield 12, 3) := by decide +kernel
theorem dX5_account_86 : decode cX5_account 86 = .ok (.bipush 6, 2) := by decide +kernel
theorem dX5_account_88 : decode cX5_account 88 = .ok (.bipush 6, 2) := by decide +kernel
theorem dX5_account_90 : decode cX5_account 90 = .ok (.invokevirtual 231, 3) := by decide +kernel
theorem dX5_account_93 : decode cX5_account 93 = .ok (.ireturn, 1) := by decide +kernel
theorem dX5_account_94 : decode cX5_account 94 = .ok (.aload_n 0, 1) := by decide +kernel
theorem dX5_account_95 : decode cX5_account 95 = .ok (.getfield 12, 3) := by decide +kernel
theorem dX5_account_98 : decode cX5_account 98 = .ok (.bipush 7, 2) := by decide +kernel
theorem dX5_account_100 : decode cX5_account 100 = .ok (.invokevirtual 136, 3) := by decide +kernel
theorem dX5_account_103 : decode cX5_account 103 = .ok (.ifCond .ge 8, 3) := by decide +kernel
theorem dX5_account_106 : decode cX5_account 106 = .ok (.bipush (-4), 2) := by decide +kernel
theorem dX5_account_108 : decode cX5_account 108 = .ok (.goto 12, 3) := by decide +kernel
theorem dX5_account_111 : decode cX5_account 111 = .ok (.aload_n 0, 1) := by decide +kernel
theorem dX5_account_112 : decode cX5_account 112 = .ok (.getfield 12, 3) := by decide +kernel
theorem dX5_account_115 : decode cX5_account 115 = .ok (.bipush 7, 2) := by decide +kernel
theorem dX5_account_117 : decode cX5_account 117 = .ok (.invokevirtual 136, 3) := by decide +kernel
theorem dX5_account_120 : decode cX5_account 120 = .ok (.ireturn, 1) := by decide +kernel
theorem dX5_account_121 : decode cX5_account 121 = .ok (.aload_n 0, 1) := by decide +kernel
theorem dX5_account_122 : decode cX5_account 122 = .ok (.getfield 35, 3) := by decide +kernel
theorem dX5_account_125 : decode cX5_account 125 = .ok (.aload_n 0, 1) := by decide +kernel
theorem dX5_account_126 : decode cX5_account 126 = .ok (.getfield 12, 3) := by decide +kernel
theorem dX5_account_129 : decode cX5_account 129 = .ok (.invokevirtual 130, 3) := by decide +kernel
theorem dX5_account_132 : decode cX5_account 132 = .ok (.aload_n 0, 1) := by decide +kernel
theorem dX5_account_133 : decode cX5_account 133 = .ok (.getfield 35, 3) := by decide +kernel
theorem dX5_account_136 : decode cX5_account 136 = .ok (.invokevirtual 161, 3) := by decide +kernel
theorem dX5_account_139 : decode cX5_account 139 = .ok (.ireturn, 1) := by decide +kernel
theorem dX5_account_140 : decode cX5_account 140 = .ok (.aload_n 0, 1) := by decide +kernel
theorem dX5_account_141 : decode cX5_account 141 = .ok (.getfield 12, 3) := by decide +kernel
theorem dX5_account_144 : decode cX5_account 144 = .ok (.invokevirtual 234, 3) := by decide +kernel
theorem dX5_account_147 : decode cX5_account 147 = .ok (.invokestatic 111, 3) := by decide +kernel
theorem dX5_account_150 : decode cX5_account 150 = .ok (.ireturn, 1) := by decide +kernel
theorem dX5_account_151 : decode cX5_account 151 = .ok (.aload_n 0, 1) := by decide +kernel
theorem dX5_account_152 : decode cX5_account 152 = .ok (.getfield 12, 3) := by decide +kernel
theorem dX5_account_155 : decode cX5_account 155 = .ok (.getfield 237, 3) := by decide +kernel
theorem dX5_account_158 : decode cX5_account 158 = .ok (.ireturn, 1) := by decide +kernel
theorem dX5_account_159 : decode cX5_account 159 = .ok (.aload_n 0, 1) := by decide +kernel
theorem dX5_account_160 : decode cX5_account 160 = .ok (.getfield 12, 3) := by decide +kernel
theorem dX5_account_163 : decode cX5_account 163 = .ok (.getfield 240, 3) := by decide +kernel
theorem dX5_account_166 : decode cX5_account 166 = .ok (.ireturn, 1) := by decide +kernel
theorem dX5_account_167 : decode cX5_account 167 = .ok (.aload_n 0, 1) := by decide +kernel
theorem dX5_account_168 : decode cX5_account 168 = .ok (.getfield 12, 3) := by decide +kernel
theorem dX5_account_171 : decode cX5_account 171 = .ok (.getfield 243, 3) := by decide +kernel
theorem dX5_account_174 : decode cX5_account 174 = .ok (.ireturn, 1) := by decide +kernel
theorem dX5_account_175 : decode cX5_account 175 = .ok (.aload_n 0, 1) := by decide +kernel
theorem dX5_account_176 : decode cX5_account 176 = .ok (.getfield 12, 3) := by decide +kernel
theorem dX5_account_179 : decode cX5_account 179 = .ok (.getfield 246, 3) := by decide +kernel
theorem dX5_account_182 : decode cX5_account 182 = .ok (.ireturn, 1) := by decide +kernel
theorem dX5_account_183 : decode cX5_account 183 = .ok (.aload_n 0, 1) := by decide +kernel
theorem dX5_account_184 : decode cX5_account 184 = .ok (.getfield 59, 3) := by decide +kernel
theorem dX5_account_187 : decode cX5_account 187 = .ok (.getfield 249, 3) := by decide +kernel
theorem dX5_account_190 : decode cX5_account 190 = .ok (.ireturn, 1) := by decide +kernel
theorem dX5_account_191 : decode cX5_account 191 = .ok (.aload_n 0, 1) := by decide +kernel
theorem dX5_account_192 : decode cX5_account 192 = .ok (.getfield 28, 3) := by decide +kernel
theorem dX5_account_195 : decode cX5_account 195 = .ok (.getfield 250, 3) := by decide +kernel
theorem dX5_account_198 : decode cX5_account 198 = .ok (.ireturn, 1) := by decide +kernel
theorem dX5_account_199 : decode cX5_account 199 = .ok (.bipush (-2), 2) := by decide +kernel
theorem dX5_account_201 : decode cX5_account 201 = .ok (.ireturn, 1) := by decide +kernel
theorem dX5_isWell_0 : decode cX5_isWell 0 = .ok (.iconst 0, 1) := by decide +kernel
theorem dX5_isWell_1 : decode cX5_isWell 1 = .ok (.istore_n 1, 1) := by decide +kernel
theorem dX5_isWell_2 : decode cX5_isWell 2 = .ok (.iload_n 1, 1) := by decide +kernel
theorem dX5_isWell_3 : decode cX5_isWell 3 = .ok (.bipush 25, 2) := by decide +kernel
theorem dX5_isWell_5 : decode cX5_isWell 5 = .ok (.if_icmp .ge 30, 3) := by decide +kernel
theorem dX5_isWell_8 : decode cX5_isWell 8 = .ok (.aload_n 0, 1) := by decide +kernel
theorem dX5_isWell_9 : decode cX5_isWell 9 = .ok (.getfield 12, 3) := by decide +kernel
theorem dX5_isWell_12 : decode cX5_isWell 12 = .ok (.iload_n 1, 1) := by decide +kernel
theorem dX5_isWell_13 : decode cX5_isWell 13 = .ok (.invokevirtual 102, 3) := by decide +kernel
theorem dX5_isWell_16 : decode cX5_isWell 16 = .ok (.aload_n 0, 1) := by decide +kernel
theorem dX5_isWell_17 : decode cX5_isWell 17 = .ok (.getfield 12, 3) := by decide +kernel
theorem dX5_isWell_20 : decode cX5_isWell 20 = .ok (.iload_n 1, 1) := by decide +kernel
theorem dX5_isWell_21 : decode cX5_isWell 21 = .ok (.invokevirtual 105, 3) := by decide +kernel
theorem dX5_isWell_24 : decode cX5_isWell 24 = .ok (.if_icmp .eq 5, 3) := by decide +kernel
theorem dX5_isWell_27 : decode cX5_isWell 27 = .ok (.iconst 0, 1) := by decide +kernel
theorem dX5_isWell_28 : decode cX5_isWell 28 = .ok (.ireturn, 1) := by decide +kernel
theorem dX5_isWell_29 : decode cX5_isWell 29 = .ok (.iinc 1 1, 3) := by decide +kernel
theorem dX5_isWell_32 : decode cX5_isWell 32 = .ok (.goto (-30), 3) := by decide +kernel
theorem dX5_isWell_35 : decode cX5_isWell 35 = .ok (.aload_n 0, 1) := by decide +kernel
theorem dX5_isWell_36 : decode cX5_isWell 36 = .ok (.getfield 12, 3) := by decide +kernel
theorem dX5_isWell_39 : decode cX5_isWell 39 = .ok (.invokevirtual 117, 3) := by decide +kernel
theorem dX5_isWell_42 : decode cX5_isWell 42 = .ok (.ifCond .ne 5, 3) := by decide +kernel
theorem dX5_isWell_45 : decode cX5_isWell 45 = .ok (.iconst 1, 1) := by decide +kernel
theorem dX5_isWell_46 : decode cX5_isWell 46 = .ok (.ireturn, 1) := by decide +kernel
theorem dX5_isWell_47 : decode cX5_isWell 47 = .ok (.aload_n 0, 1) := by decide +kernel
theorem dX5_isWell_48 : decode cX5_isWell 48 = .ok (.invokevirtual 253, 3) := by decide +kernel
theorem dX5_isWell_51 : decode cX5_isWell 51 = .ok (.ifCond .eq 14, 3) := by decide +kernel
theorem dX5_isWell_54 : decode cX5_isWell 54 = .ok (.aload_n 0, 1) := by decide +kernel
theorem dX5_isWell_55 : decode cX5_isWell 55 = .ok (.invokevirtual 256, 3) := by decide +kernel
theorem dX5_isWell_58 : decode cX5_isWell 58 = .ok (.ifCond .eq 7, 3) := by decide +kernel
theorem dX5_isWell_61 : decode cX5_isWell 61 = .ok (.iconst 1, 1) := by decide +kernel
theorem dX5_isWell_62 : decode cX5_isWell 62 = .ok (.goto 4, 3) := by decide +kernel
theorem dX5_isWell_65 : decode cX5_isWell 65 = .ok (.iconst 0, 1) := by decide +kernel
theorem dX5_isWell_66 : decode cX5_isWell 66 = .ok (.ireturn, 1) := by decide +kernel
theorem dX5_share_0 : decode cX5_share 0 = .ok (.aload_n 0, 1) := by decide +kernel
theorem dX5_share_1 : decode cX5_share 1 = .ok (.getfield 12, 3) := by decide +kernel
theorem dX5_share_4 : decode cX5_share 4 = .ok (.invokevirtual 234, 3) := by decide +kernel
theorem dX5_share_7 : decode cX5_share 7 = .ok (.invokestatic 111, 3) := by decide +kernel
theorem dX5_share_10 : decode cX5_share 10 = .ok (.i2f, 1) := by decide +kernel
theorem dX5_share_11 : decode cX5_share 11 = .ok (.fstore_n 1, 1) := by decide +kernel
theorem dX5_share_12 : decode cX5_share 12 = .ok (.fload_n 1, 1) := by decide +kernel
theorem dX5_share_13 : decode cX5_share 13 = .ok (.ldc_w 259, 3) := by decide +kernel
theorem dX5_share_16 : decode cX5_share 16 = .ok (.fdiv, 1) := by decide +kernel
theorem dX5_share_17 : decode cX5_share 17 = .ok (.invokestatic 260, 3) := by decide +kernel
theorem dX5_share_20 : decode cX5_share 20 = .ok (.ireturn, 1) := by decide +kernel
theorem dX5_undo_0 : decode cX5_undo 0 = .ok (.aload_n 0, 1) := by decide +kernel
theorem dX5_undo_1 : decode cX5_undo 1 = .ok (.getfield 28, 3) := by decide +kernel
theorem dX5_undo_4 : decode cX5_undo 4 = .ok (.getfield 250, 3) := by decide +kernel
theorem dX5_undo_7 : decode cX5_undo 7 = .ok (.ifCond .ne 6, 3) := by decide +kernel
theorem dX5_undo_10 : decode cX5_undo 10 = .ok (.bipush (-4), 2) := by decide +kernel
theorem dX5_undo_12 : decode cX5_undo 12 = .ok (.ireturn, 1) := by decide +kernel
theorem dX5_undo_13 : decode cX5_undo 13 = .ok (.aload_n 0, 1) := by decide +kernel
theorem dX5_undo_14 : decode cX5_undo 14 = .ok (.getfield 28, 3) := by decide +kernel
theorem dX5_undo_17 : decode cX5_undo 17 = .ok (.aload_n 0, 1) := by decide +kernel
theorem dX5_undo_18 : decode cX5_undo 18 = .ok (.getfield 12, 3) := by decide +kernel
theorem dX5_undo_21 : decode cX5_undo 21 = .ok (.invokevirtual 264, 3) := by decide +kernel
theorem dX5_undo_24 : decode cX5_undo 24 = .ok (.aload_n 0, 1) := by decide +kernel
theorem dX5_undo_25 : decode cX5_undo 25 = .ok (.getfield 28, 3) := by decide +kernel
theorem dX5_undo_28 : decode cX5_undo 28 = .ok (.getfield 250, 3) := by decide +kernel
theorem dX5_undo_31 : decode cX5_undo 31 = .ok (.ireturn, 1) := by decide +kernel
theorem dX5_save_0 : decode cX5_save 0 = .ok (.aload_n 0, 1) := by decide +kernel
theorem dX5_save_1 : decode cX5_save 1 = .ok (.getfield 22, 3) := by decide +kernel
theorem dX5_save_4 : decode cX5_save 4 = .ok (.aload_n 0, 1) := by decide +kernel
theorem dX5_save_5 : decode cX5_save 5 = .ok (.getfield 12, 3) := by decide +kernel
theorem dX5_save_8 : decode cX5_save 8 = .ok (.invokevirtual 67, 3) := by decide +kernel
theorem dX5_save_11 : decode cX5_save 11 = .ok (.aload_n 0, 1) := by decide +kernel
theorem dX5_save_12 : decode cX5_save 12 = .ok (.iconst 1, 1) := by decide +kernel
theorem dX5_save_13 : decode cX5_save 13 = .ok (.putfield 267, 3) := by decide +kernel
theorem dX5_save_16 : decode cX5_save 16 = .ok (.aload_n 0, 1) := by decide +kernel
theorem dX5_save_17 : decode cX5_save 17 = .ok (.getfield 12, 3) := by decide +kernel
theorem dX5_save_20 : decode cX5_save 20 = .ok (.invokevirtual 228, 3) := by decide +kernel
theorem dX5_save_23 : decode cX5_save 23 = .ok (.ireturn, 1) := by decide +kernel
theorem dX5_restore_0 : decode cX5_restore 0 = .ok (.aload_n 0, 1) := by decide +kernel
theorem dX5_restore_1 : decode cX5_restore 1 = .ok (.getfield 267, 3) := by decide +kernel
theorem dX5_restore_4 : decode cX5_restore 4 = .ok (.ifCond .ne 6, 3) := by decide +kernel
theorem dX5_restore_7 : decode cX5_restore 7 = .ok (.bipush (-4), 2) := by decide +kernel
theorem dX5_restore_9 : decode cX5_restore 9 = .ok (.ireturn, 1) := by decide +kernel
theorem dX5_restore_10 : decode cX5_restore 10 = .ok (.aload_n 0, 1) := by decide +kernel
theorem dX5_restore_11 : decode cX5_restore 11 = .ok (.getfield 12, 3) := by decide +kernel
theorem dX5_restore_14 : decode cX5_restore 14 = .ok (.aload_n 0, 1) := by decide +kernel
theorem dX5_restore_15 : decode cX5_restore 15 = .ok (.getfield 22, 3) := by decide +kernel
theorem dX5_restore_18 : decode cX5_restore 18 = .ok (.invokevirtual 67, 3) := by decide +kernel
theorem dX5_restore_21 : decode cX5_restore 21 = .ok (.aload_n 0, 1) := by decide +kernel
theorem dX5_restore_22 : decode cX5_restore 22 = .ok (.getfield 28, 3) := by decide +kernel
theorem dX5_restore_25 : decode cX5_restore 25 = .ok (.invokevirtual 271, 3) := by decide +kernel
theorem dX5_restore_28 : decode cX5_restore 28 = .ok (.aload_n 0, 1) := by decide +kernel
theorem dX5_restore_29 : decode cX5_restore 29 = .ok (.getfield 12, 3) := by decide +kernel
theorem dX5_restore_32 : decode cX5_restore 32 = .ok (.invokevirtual 228, 3) := by decide +kernel
theorem dX5_restore_35 : decode cX5_restore 35 = .ok (.ireturn, 1) := by decide +kernel
theorem dX5_putNow_0 : decode cX5_putNow 0 = .ok (.iload_n 2, 1) := by decide +kernel
theorem dX5_putNow_1 : decode cX5_putNow 1 = .ok (.invokestatic 95, 3) := by decide +kernel
theorem dX5_putNow_4 : decode cX5_putNow 4 = .ok (.ifCond .ne 5, 3) := by decide +kernel
theorem dX5_putNow_7 : decode cX5_putNow 7 = .ok (.iconst (-1), 1) := by decide +kernel
theorem dX5_putNow_8 : decode cX5_putNow 8 = .ok (.ireturn, 1) := by decide +kernel
theorem dX5_putNow_9 : decode cX5_putNow 9 = .ok (.iload_n 1, 1) := by decide +kernel
theorem dX5_putNow_10 : decode cX5_putNow 10 = .ok (.iconst 1, 1) := by decide +kernel
theorem dX5_putNow_11 : decode cX5_putNow 11 = .ok (.if_icmp .lt 9, 3) := by decide +kernel
theorem dX5_putNow_14 : decode cX5_putNow 14 = .ok (.iload_n 1, 1) := by decide +kernel
theorem dX5_putNow_15 : decode cX5_putNow 15 = .ok (.bipush 7, 2) := by decide +kernel
theorem dX5_putNow_17 : decode cX5_putNow 17 = .ok (.if_icmp .le 6, 3) := by decide +kernel
theorem dX5_putNow_20 : decode cX5_putNow 20 = .ok (.bipush (-2), 2) := by decide +kernel
theorem dX5_putNow_22 : decode cX5_putNow 22 = .ok (.ireturn, 1) := by decide +kernel
theorem dX5_putNow_23 : decode cX5_putNow 23 = .ok (.aload_n 0, 1) := by decide +kernel
theorem dX5_putNow_24 : decode cX5_putNow 24 = .ok (.getfield 12, 3) := by decide +kernel
theorem dX5_putNow_27 : decode cX5_putNow 27 = .ok (.iload_n 2, 1) := by decide +kernel
theorem dX5_putNow_28 : decode cX5_putNow 28 = .ok (.invokevirtual 99, 3) := by decide +kernel
theorem dX5_putNow_31 : decode cX5_putNow 31 = .ok (.ifCond .eq 17, 3) := by decide +kernel
theorem dX5_putNow_34 : decode cX5_putNow 34 = .ok (.aload_n 0, 1) := by decide +kernel
theorem dX5_putNow_35 : decode cX5_putNow 35 = .ok (.iconst 1, 1) := by decide +kernel
theorem dX5_putNow_36 : decode cX5_putNow 36 = .ok (.aload_n 0, 1) := by decide +kernel
theorem dX5_putNow_37 : decode cX5_putNow 37 = .ok (.getfield 12, 3) := by decide +kernel
theorem dX5_putNow_40 : decode cX5_putNow 40 = .ok (.iload_n 2, 1) := by decide +kernel
theorem dX5_putNow_41 : decode cX5_putNow 41 = .ok (.invokevirtual 99, 3) := by decide +kernel
theorem dX5_putNow_44 : decode cX5_putNow 44 = .ok (.invokevirtual 272, 3) := by decide +kernel
theorem dX5_putNow_47 : decode cX5_putNow 47 = .ok (.ireturn, 1) := by decide +kernel
theorem dX5_putNow_48 : decode cX5_putNow 48 = .ok (.iload_n 1, 1) := by decide +kernel
theorem dX5_putNow_49 : decode cX5_putNow 49 = .ok (.invokestatic 164, 3) := by decide +kernel
theorem dX5_putNow_52 : decode cX5_putNow 52 = .ok (.ifCond .eq 28, 3) := by decide +kernel
theorem dX5_putNow_55 : decode cX5_putNow 55 = .ok (.aload_n 0, 1) := by decide +kernel
theorem dX5_putNow_56 : decode cX5_putNow 56 = .ok (.getfield 12, 3) := by decide +kernel
theorem dX5_putNow_59 : decode cX5_putNow 59 = .ok (.iload_n 1, 1) := by decide +kernel
theorem dX5_putNow_60 : decode cX5_putNow 60 = .ok (.invokevirtual 136, 3) := by decide +kernel
theorem dX5_putNow_63 : decode cX5_putNow 63 = .ok (.ifCond .lt 17, 3) := by decide +kernel
theorem dX5_putNow_66 : decode cX5_putNow 66 = .ok (.aload_n 0, 1) := by decide +kernel
theorem dX5_putNow_67 : decode cX5_putNow 67 = .ok (.iconst 2, 1) := by decide +kernel
theorem dX5_putNow_68 : decode cX5_putNow 68 = .ok (.aload_n 0, 1) := by decide +kernel
theorem dX5_putNow_69 : decode cX5_putNow 69 = .ok (.getfield 12, 3) := by decide +kernel
theorem dX5_putNow_72 : decode cX5_putNow 72 = .ok (.iload_n 1, 1) := by decide +kernel
theorem dX5_putNow_73 : decode cX5_putNow 73 = .ok (.invokevirtual 136, 3) := by decide +kernel
theorem dX5_putNow_76 : decode cX5_putNow 76 = .ok (.invokevirtual 272, 3) := by decide +kernel
theorem dX5_putNow_79 : decode cX5_putNow 79 = .ok (.ireturn, 1) := by decide +kernel
theorem dX5_putNow_80 : decode cX5_putNow 80 = .ok (.aload_n 0, 1) := by decide +kernel
theorem dX5_putNow_81 : decode cX5_putNow 81 = .ok (.getfield 12, 3) := by decide +kernel
theorem dX5_putNow_84 : decode cX5_putNow 84 = .ok (.invokevirtual 228, 3) := by decide +kernel
theorem dX5_putNow_87 : decode cX5_putNow 87 = .ok (.bipush 12, 2) := by decide +kernel
theorem dX5_putNow_89 : decode cX5_putNow 89 = .ok (.if_icmp .lt 11, 3) := by decide +kernel
theorem dX5_putNow_92 : decode cX5_putNow 92 = .ok (.aload_n 0, 1) := by decide +kernel
theorem dX5_putNow_93 : decode cX5_putNow 93 = .ok (.iconst 3, 1) := by decide +kernel
theorem dX5_putNow_94 : decode cX5_putNow 94 = .ok (.bipush 12, 2) := by decide +kernel
theorem dX5_putNow_96 : decode cX5_putNow 96 = .ok (.invokevirtual 272, 3) := by decide +kernel
theorem dX5_putNow_99 : decode cX5_putNow 99 = .ok (.ireturn, 1) := by decide +kernel
theorem dX5_putNow_100 : decode cX5_putNow 100 = .ok (.aload_n 0, 1) := by decide +kernel
theorem dX5_putNow_101 : decode cX5_putNow 101 = .ok (.getfield 12, 3) := by decide +kernel
theorem dX5_putNow_104 : decode cX5_putNow 104 = .ok (.iload_n 2, 1) := by decide +kernel
theorem dX5_putNow_105 : decode cX5_putNow 105 = .ok (.iload_n 1, 1) := by decide +kernel
theorem dX5_putNow_106 : decode cX5_putNow 106 = .ok (.invokevirtual 167, 3) := by decide +kernel
theorem dX5_putNow_109 : decode cX5_putNow 109 = .ok (.aload_n 0, 1) := by decide +kernel
theorem dX5_putNow_110 : decode cX5_putNow 110 = .ok (.getfield 12, 3) := by decide +kernel
theorem dX5_putNow_113 : decode cX5_putNow 113 = .ok (.invokevirtual 228, 3) := by decide +kernel
theorem dX5_putNow_116 : decode cX5_putNow 116 = .ok (.ireturn, 1) := by decide +kernel
theorem dX5_liftNow_0 : decode cX5_liftNow 0 = .ok (.iload_n 1, 1) := by decide +kernel
theorem dX5_liftNow_1 : decode cX5_liftNow 1 = .ok (.invokestatic 95, 3) := by decide +kernel
theorem dX5_liftNow_4 : decode cX5_liftNow 4 = .ok (.ifCond .ne 5, 3) := by decide +kernel
theorem dX5_liftNow_7 : decode cX5_liftNow 7 = .ok (.iconst (-1), 1) := by decide +kernel
theorem dX5_liftNow_8 : decode cX5_liftNow 8 = .ok (.ireturn, 1) := by decide +kernel
theorem dX5_liftNow_9 : decode cX5_liftNow 9 = .ok (.aload_n 0, 1) := by decide +kernel
theorem dX5_liftNow_10 : decode cX5_liftNow 10 = .ok (.getfield 12, 3) := by decide +kernel
theorem dX5_liftNow_13 : decode cX5_liftNow 13 = .ok (.iload_n 1, 1) := by decide +kernel
theorem dX5_liftNow_14 : decode cX5_liftNow 14 = .ok (.invokevirtual 99, 3) := by decide +kernel
theorem dX5_liftNow_17 : decode cX5_liftNow 17 = .ok (.istore_n 2, 1) := by decide +kernel
theorem dX5_liftNow_18 : decode cX5_liftNow 18 = .ok (.iload_n 2, 1) := by decide +kernel
theorem dX5_liftNow_19 : decode cX5_liftNow 19 = .ok (.ifCond .ne 10, 3) := by decide +kernel
theorem dX5_liftNow_22 : decode cX5_liftNow 22 = .ok (.aload_n 0, 1) := by decide +kernel
theorem dX5_liftNow_23 : decode cX5_liftNow 23 = .ok (.iconst 4, 1) := by decide +kernel
theorem dX5_liftNow_24 : decode cX5_liftNow 24 = .ok (.iload_n 1, 1) := by decide +kernel
theorem dX5_liftNow_25 : decode cX5_liftNow 25 = .ok (.invokevirtual 272, 3) := by decide +kernel
theorem dX5_liftNow_28 : decode cX5_liftNow 28 = .ok (.ireturn, 1) := by decide +kernel
theorem dX5_liftNow_29 : decode cX5_liftNow 29 = .ok (.aload_n 0, 1) := by decide +kernel
theorem dX5_liftNow_30 : decode cX5_liftNow 30 = .ok (.getfield 12, 3) := by decide +kernel
theorem dX5_liftNow_33 : decode cX5_liftNow 33 = .ok (.iload_n 1, 1) := by decide +kernel
theorem dX5_liftNow_34 : decode cX5_liftNow 34 = .ok (.iconst 0, 1) := by decide +kernel
theorem dX5_liftNow_35 : decode cX5_liftNow 35 = .ok (.invokevirtual 167, 3) := by decide +kernel
theorem dX5_liftNow_38 : decode cX5_liftNow 38 = .ok (.iload_n 2, 1) := by decide +kernel
theorem dX5_liftNow_39 : decode cX5_liftNow 39 = .ok (.ireturn, 1) := by decide +kernel
theorem dX5_playNow_0 : decode cX5_playNow 0 = .ok (.iload_n 1, 1) := by decide +kernel
theorem dX5_playNow_1 : decode cX5_playNow 1 = .ok (.invokestatic 95, 3) := by decide +kernel
theorem dX5_playNow_4 : decode cX5_playNow 4 = .ok (.ifCond .eq 10, 3) := by decide +kernel
theorem dX5_playNow_7 : decode cX5_playNow 7 = .ok (.iload_n 2, 1) := by decide +kernel
theorem dX5_playNow_8 : decode cX5_playNow 8 = .ok (.invokestatic 95, 3) := by decide +kernel
theorem dX5_playNow_11 : decode cX5_playNow 11 = .ok (.ifCond .ne 5, 3) := by decide +kernel
theorem dX5_playNow_14 : decode cX5_playNow 14 = .ok (.iconst (-1), 1) := by decide +kernel
theorem dX5_playNow_15 : decode cX5_playNow 15 = .ok (.ireturn, 1) := by decide +kernel
theorem dX5_playNow_16 : decode cX5_playNow 16 = .ok (.aload_n 0, 1) := by decide +kernel
theorem dX5_playNow_17 : decode cX5_playNow 17 = .ok (.getfield 12, 3) := by decide +kernel
theorem dX5_playNow_20 : decode cX5_playNow 20 = .ok (.iload_n 1, 1) := by decide +kernel
theorem dX5_playNow_21 : decode cX5_playNow 21 = .ok (.invokevirtual 99, 3) := by decide +kernel
theorem dX5_playNow_24 : decode cX5_playNow 24 = .ok (.istore_n 3, 1) := by decide +kernel
theorem dX5_playNow_25 : decode cX5_playNow 25 = .ok (.iload_n 3, 1) := by decide +kernel
theorem dX5_playNow_26 : decode cX5_playNow 26 = .ok (.ifCond .ne 10, 3) := by decide +kernel
theorem dX5_playNow_29 : decode cX5_playNow 29 = .ok (.aload_n 0, 1) := by decide +kernel
theorem dX5_playNow_30 : decode cX5_playNow 30 = .ok (.iconst 4, 1) := by decide +kernel
theorem dX5_playNow_31 : decode cX5_playNow 31 = .ok (.iload_n 1, 1) := by decide +kernel
theorem dX5_playNow_32 : decode cX5_playNow 32 = .ok (.invokevirtual 272, 3) := by decide +kernel
theorem dX5_playNow_35 : decode cX5_playNow 35 = .ok (.ireturn, 1) := by decide +kernel
theorem dX5_playNow_36 : decode cX5_playNow 36 = .ok (.aload_n 0, 1) := by decide +kernel
theorem dX5_playNow_37 : decode cX5_playNow 37 = .ok (.getfield 12, 3) := by decide +kernel
theorem dX5_playNow_40 : decode cX5_playNow 40 = .ok (.iload_n 1, 1) := by decide +kernel
theorem dX5_playNow_41 : decode cX5_playNow 41 = .ok (.iload_n 2, 1) := by decide +kernel
theorem dX5_playNow_42 : decode cX5_playNow 42 = .ok (.invokevirtual 145, 3) := by decide +kernel
theorem dX5_playNow_45 : decode cX5_playNow 45 = .ok (.ifCond .ne 10, 3) := by decide +kernel
theorem dX5_playNow_48 : decode cX5_playNow 48 = .ok (.aload_n 0, 1) := by decide +kernel
theorem dX5_playNow_49 : decode cX5_playNow 49 = .ok (.iconst 5, 1) := by decide +kernel
theorem dX5_playNow_50 : decode cX5_playNow 50 = .ok (.iload_n 3, 1) := by decide +kernel
theorem dX5_playNow_51 : decode cX5_playNow 51 = .ok (.invokevirtual 272, 3) := by decide +kernel
theorem dX5_playNow_54 : decode cX5_playNow 54 = .ok (.ireturn, 1) := by decide +kernel
theorem dX5_playNow_55 : decode cX5_playNow 55 = .ok (.aload_n 0, 1) := by decide +kernel
theorem dX5_playNow_56 : decode cX5_playNow 56 = .ok (.getfield 12, 3) := by decide +kernel
theorem dX5_playNow_59 : decode cX5_playNow 59 = .ok (.iload_n 2, 1) := by decide +kernel
theorem dX5_playNow_60 : decode cX5_playNow 60 = .ok (.invokevirtual 99, 3) := by decide +kernel
theorem dX5_playNow_63 : decode cX5_playNow 63 = .ok (.istore 4, 2) := by decide +kernel
theorem dX5_playNow_65 : decode cX5_playNow 65 = .ok (.aload_n 0, 1) := by decide +kernel
theorem dX5_playNow_66 : decode cX5_playNow 66 = .ok (.getfield 12, 3) := by decide +kernel
theorem dX5_playNow_69 : decode cX5_playNow 69 = .ok (.iload_n 1, 1) := by decide +kernel
theorem dX5_playNow_70 : decode cX5_playNow 70 = .ok (.iconst 0, 1) := by decide +kernel
theorem dX5_playNow_71 : decode cX5_playNow 71 = .ok (.invokevirtual 167, 3) := by decide +kernel
theorem dX5_playNow_74 : decode cX5_playNow 74 = .ok (.aload_n 0, 1) := by decide +kernel
theorem dX5_playNow_75 : decode cX5_playNow 75 = .ok (.getfield 12, 3) := by decide +kernel
theorem dX5_playNow_78 : decode cX5_playNow 78 = .ok (.iload_n 2, 1) := by decide +kernel
theorem dX5_playNow_79 : decode cX5_playNow 79 = .ok (.iload_n 3, 1) := by decide +kernel
theorem dX5_playNow_80 : decode cX5_playNow 80 = .ok (.invokevirtual 167, 3) := by decide +kernel
theorem dX5_playNow_83 : decode cX5_playNow 83 = .ok (.aload_n 0, 1) := by decide +kernel
theorem dX5_playNow_84 : decode cX5_playNow 84 = .ok (.getfield 12, 3) := by decide +kernel
theorem dX5_playNow_87 : decode cX5_playNow 87 = .ok (.dup, 1) := by decide +kernel
theorem dX5_playNow_88 : decode cX5_playNow 88 = .ok (.getfield 237, 3) := by decide +kernel
theorem dX5_playNow_91 : decode cX5_playNow 91 = .ok (.iconst 1, 1) := by decide +kernel
theorem dX5_playNow_92 : decode cX5_playNow 92 = .ok (.iadd, 1) := by decide +kernel
theorem dX5_playNow_93 : decode cX5_playNow 93 = .ok (.putfield 237, 3) := by decide +kernel
theorem dX5_playNow_96 : decode cX5_playNow 96 = .ok (.iload 4, 2) := by decide +kernel
theorem dX5_playNow_98 : decode cX5_playNow 98 = .ok (.bipush 6, 2) := by decide +kernel
theorem dX5_playNow_100 : decode cX5_playNow 100 = .ok (.if_icmp .ne 16, 3) := by decide +kernel
theorem dX5_playNow_103 : decode cX5_playNow 103 = .ok (.aload_n 0, 1) := by decide +kernel
theorem dX5_playNow_104 : decode cX5_playNow 104 = .ok (.getfield 12, 3) := by decide +kernel
theorem dX5_playNow_107 : decode cX5_playNow 107 = .ok (.dup, 1) := by decide +kernel
theorem dX5_playNow_108 : decode cX5_playNow 108 = .ok (.getfield 240, 3) := by decide +kernel
theorem dX5_playNow_111 : decode cX5_playNow 111 = .ok (.iconst 1, 1) := by decide +kernel
theorem dX5_playNow_112 : decode cX5_playNow 112 = .ok (.iadd, 1) := by decide +kernel
theorem dX5_playNow_113 : decode cX5_playNow 113 = .ok (.putfield 240, 3) := by decide +kernel
theorem dX5_playNow_116 : decode cX5_playNow 116 = .ok (.iload 4, 2) := by decide +kernel
theorem dX5_playNow_118 : decode cX5_playNow 118 = .ok (.ireturn, 1) := by decide +kernel
theorem dX5_turnNow_0 : decode cX5_turnNow 0 = .ok (.aload_n 0, 1) := by decide +kernel
theorem dX5_turnNow_1 : decode cX5_turnNow 1 = .ok (.getfield 19, 3) := by decide +kernel
theorem dX5_turnNow_4 : decode cX5_turnNow 4 = .ok (.aload_n 0, 1) := by decide +kernel
theorem dX5_turnNow_5 : decode cX5_turnNow 5 = .ok (.getfield 12, 3) := by decide +kernel
theorem dX5_turnNow_8 : decode cX5_turnNow 8 = .ok (.invokevirtual 67, 3) := by decide +kernel
theorem dX5_turnNow_11 : decode cX5_turnNow 11 = .ok (.iconst 0, 1) := by decide +kernel
theorem dX5_turnNow_12 : decode cX5_turnNow 12 = .ok (.istore_n 1, 1) := by decide +kernel
theorem dX5_turnNow_13 : decode cX5_turnNow 13 = .ok (.iload_n 1, 1) := by decide +kernel
theorem dX5_turnNow_14 : decode cX5_turnNow 14 = .ok (.bipush 25, 2) := by decide +kernel
theorem dX5_turnNow_16 : decode cX5_turnNow 16 = .ok (.if_icmp .ge 39, 3) := by decide +kernel
theorem dX5_turnNow_19 : decode cX5_turnNow 19 = .ok (.iload_n 1, 1) := by decide +kernel
theorem dX5_turnNow_20 : decode cX5_turnNow 20 = .ok (.iconst 5, 1) := by decide +kernel
theorem dX5_turnNow_21 : decode cX5_turnNow 21 = .ok (.irem, 1) := by decide +kernel
theorem dX5_turnNow_22 : decode cX5_turnNow 22 = .ok (.istore_n 2, 1) := by decide +kernel
theorem dX5_turnNow_23 : decode cX5_turnNow 23 = .ok (.iload_n 1, 1) := by decide +kernel
theorem dX5_turnNow_24 : decode cX5_turnNow 24 = .ok (.iconst 5, 1) := by decide +kernel
theorem dX5_turnNow_25 : decode cX5_turnNow 25 = .ok (.idiv, 1) := by decide +kernel
theorem dX5_turnNow_26 : decode cX5_turnNow 26 = .ok (.istore_n 3, 1) := by decide +kernel
theorem dX5_turnNow_27 : decode cX5_turnNow 27 = .ok (.aload_n 0, 1) := by decide +kernel
theorem dX5_turnNow_28 : decode cX5_turnNow 28 = .ok (.getfield 12, 3) := by decide +kernel
theorem dX5_turnNow_31 : decode cX5_turnNow 31 = .ok (.iconst 4, 1) := by decide +kernel
theorem dX5_turnNow_32 : decode cX5_turnNow 32 = .ok (.iload_n 2, 1) := by decide +kernel
theorem dX5_turnNow_33 : decode cX5_turnNow 33 = .ok (.isub, 1) := by decide +kernel
theorem dX5_turnNow_34 : decode cX5_turnNow 34 = .ok (.iconst 5, 1) := by decide +kernel
theorem dX5_turnNow_35 : decode cX5_turnNow 35 = .ok (.imul, 1) := by decide +kernel
theorem dX5_turnNow_36 : decode cX5_turnNow 36 = .ok (.iload_n 3, 1) := by decide +kernel
theorem dX5_turnNow_37 : decode cX5_turnNow 37 = .ok (.iadd, 1) := by decide +kernel
theorem dX5_turnNow_38 : decode cX5_turnNow 38 = .ok (.aload_n 0, 1) := by decide +kernel
theorem dX5_turnNow_39 : decode cX5_turnNow 39 = .ok (.getfield 19, 3) := by decide +kernel
theorem dX5_turnNow_42 : decode cX5_turnNow 42 = .ok (.iload_n 1, 1) := by decide +kernel
theorem dX5_turnNow_43 : decode cX5_turnNow 43 = .ok (.invokevirtual 99, 3) := by decide +kernel
theorem dX5_turnNow_46 : decode cX5_turnNow 46 = .ok (.invokevirtual 167, 3) := by decide +kernel
theorem dX5_turnNow_49 : decode cX5_turnNow 49 = .ok (.iinc 1 1, 3) := by decide +kernel
theorem dX5_turnNow_52 : decode cX5_turnNow 52 = .ok (.goto (-39), 3) := by decide +kernel
theorem dX5_turnNow_55 : decode cX5_turnNow 55 = .ok (.aload_n 0, 1) := by decide +kernel
theorem dX5_turnNow_56 : decode cX5_turnNow 56 = .ok (.getfield 12, 3) := by decide +kernel
theorem dX5_turnNow_59 : decode cX5_turnNow 59 = .ok (.dup, 1) := by decide +kernel
theorem dX5_turnNow_60 : decode cX5_turnNow 60 = .ok (.getfield 246, 3) := by decide +kernel
theorem dX5_turnNow_63 : decode cX5_turnNow 63 = .ok (.iconst 1, 1) := by decide +kernel
theorem dX5_turnNow_64 : decode cX5_turnNow 64 = .ok (.iadd, 1) := by decide +kernel
theorem dX5_turnNow_65 : decode cX5_turnNow 65 = .ok (.putfield 246, 3) := by decide +kernel
theorem dX5_turnNow_68 : decode cX5_turnNow 68 = .ok (.aload_n 0, 1) := by decide +kernel
theorem dX5_turnNow_69 : decode cX5_turnNow 69 = .ok (.getfield 12, 3) := by decide +kernel
theorem dX5_turnNow_72 : decode cX5_turnNow 72 = .ok (.invokevirtual 228, 3) := by decide +kernel
theorem dX5_turnNow_75 : decode cX5_turnNow 75 = .ok (.ireturn, 1) := by decide +kernel
theorem dX5_mirrorNow_0 : decode cX5_mirrorNow 0 = .ok (.aload_n 0, 1) := by decide +kernel
theorem dX5_mirrorNow_1 : decode cX5_mirrorNow 1 = .ok (.getfield 19, 3) := by decide +kernel
theorem dX5_mirrorNow_4 : decode cX5_mirrorNow 4 = .ok (.aload_n 0, 1) := by decide +kernel
theorem dX5_mirrorNow_5 : decode cX5_mirrorNow 5 = .ok (.getfield 12, 3) := by decide +kernel
theorem dX5_mirrorNow_8 : decode cX5_mirrorNow 8 = .ok (.invokevirtual 67, 3) := by decide +kernel
theorem dX5_mirrorNow_11 : decode cX5_mirrorNow 11 = .ok (.iconst 0, 1) := by decide +kernel
theorem dX5_mirrorNow_12 : decode cX5_mirrorNow 12 = .ok (.istore_n 1, 1) := by decide +kernel
theorem dX5_mirrorNow_13 : decode cX5_mirrorNow 13 = .ok (.iload_n 1, 1) := by decide +kernel
theorem dX5_mirrorNow_14 : decode cX5_mirrorNow 14 = .ok (.bipush 25, 2) := by decide +kernel
theorem dX5_mirrorNow_16 : decode cX5_mirrorNow 16 = .ok (.if_icmp .ge 41, 3) := by decide +kernel
theorem dX5_mirrorNow_19 : decode cX5_mirrorNow 19 = .ok (.iload_n 1, 1) := by decide +kernel
theorem dX5_mirrorNow_20 : decode cX5_mirrorNow 20 = .ok (.iconst 5, 1) := by decide +kernel
theorem dX5_mirrorNow_21 : decode cX5_mirrorNow 21 = .ok (.irem, 1) := by decide +kernel
theorem dX5_mirrorNow_22 : decode cX5_mirrorNow 22 = .ok (.istore_n 2, 1) := by decide +kernel
theorem dX5_mirrorNow_23 : decode cX5_mirrorNow 23 = .ok (.iload_n 1, 1) := by decide +kernel
theorem dX5_mirrorNow_24 : decode cX5_mirrorNow 24 = .ok (.iconst 5, 1) := by decide +kernel
theorem dX5_mirrorNow_25 : decode cX5_mirrorNow 25 = .ok (.idiv, 1) := by decide +kernel
theorem dX5_mirrorNow_26 : decode cX5_mirrorNow 26 = .ok (.istore_n 3, 1) := by decide +kernel
theorem dX5_mirrorNow_27 : decode cX5_mirrorNow 27 = .ok (.aload_n 0, 1) := by decide +kernel
theorem dX5_mirrorNow_28 : decode cX5_mirrorNow 28 = .ok (.getfield 12, 3) := by decide +kernel
theorem dX5_mirrorNow_31 : decode cX5_mirrorNow 31 = .ok (.iload_n 3, 1) := by decide +kernel
theorem dX5_mirrorNow_32 : decode cX5_mirrorNow 32 = .ok (.iconst 5, 1) := by decide +kernel
theorem dX5_mirrorNow_33 : decode cX5_mirrorNow 33 = .ok (.imul, 1) := by decide +kernel
theorem dX5_mirrorNow_34 : decode cX5_mirrorNow 34 = .ok (.iconst 5, 1) := by decide +kernel
theorem dX5_mirrorNow_35 : decode cX5_mirrorNow 35 = .ok (.iadd, 1) := by decide +kernel
theorem dX5_mirrorNow_36 : decode cX5_mirrorNow 36 = .ok (.iconst 1, 1) := by decide +kernel
theorem dX5_mirrorNow_37 : decode cX5_mirrorNow 37 = .ok (.isub, 1) := by decide +kernel
theorem dX5_mirrorNow_38 : decode cX5_mirrorNow 38 = .ok (.iload_n 2, 1) := by decide +kernel
theorem dX5_mirrorNow_39 : decode cX5_mirrorNow 39 = .ok (.isub, 1) := by decide +kernel
theorem dX5_mirrorNow_40 : decode cX5_mirrorNow 40 = .ok (.aload_n 0, 1) := by decide +kernel
theorem dX5_mirrorNow_41 : decode cX5_mirrorNow 41 = .ok (.getfield 19, 3) := by decide +kernel
theorem dX5_mirrorNow_44 : decode cX5_mirrorNow 44 = .ok (.iload_n 1, 1) := by decide +kernel
theorem dX5_mirrorNow_45 : decode cX5_mirrorNow 45 = .ok (.invokevirtual 99, 3) := by decide +kernel
theorem dX5_mirrorNow_48 : decode cX5_mirrorNow 48 = .ok (.invokevirtual 167, 3) := by decide +kernel
theorem dX5_mirrorNow_51 : decode cX5_mirrorNow 51 = .ok (.iinc 1 1, 3) := by decide +kernel
theorem dX5_mirrorNow_54 : decode cX5_mirrorNow 54 = .ok (.goto (-41), 3) := by decide +kernel
theorem dX5_mirrorNow_57 : decode cX5_mirrorNow 57 = .ok (.aload_n 0, 1) := by decide +kernel
theorem dX5_mirrorNow_58 : decode cX5_mirrorNow 58 = .ok (.getfield 12, 3) := by decide +kernel
theorem dX5_mirrorNow_61 : decode cX5_mirrorNow 61 = .ok (.dup, 1) := by decide +kernel
theorem dX5_mirrorNow_62 : decode cX5_mirrorNow 62 = .ok (.getfield 246, 3) := by decide +kernel
theorem dX5_mirrorNow_65 : decode cX5_mirrorNow 65 = .ok (.iconst 1, 1) := by decide +kernel
theorem dX5_mirrorNow_66 : decode cX5_mirrorNow 66 = .ok (.iadd, 1) := by decide +kernel
theorem dX5_mirrorNow_67 : decode cX5_mirrorNow 67 = .ok (.putfield 246, 3) := by decide +kernel
theorem dX5_mirrorNow_70 : decode cX5_mirrorNow 70 = .ok (.aload_n 0, 1) := by decide +kernel
theorem dX5_mirrorNow_71 : decode cX5_mirrorNow 71 = .ok (.getfield 12, 3) := by decide +kernel
theorem dX5_mirrorNow_74 : decode cX5_mirrorNow 74 = .ok (.invokevirtual 228, 3) := by decide +kernel
theorem dX5_mirrorNow_77 : decode cX5_mirrorNow 77 = .ok (.ireturn, 1) := by decide +kernel
theorem dX5_thriftNow_0 : decode cX5_thriftNow 0 = .ok (.aload_n 0, 1) := by decide +kernel
theorem dX5_thriftNow_1 : decode cX5_thriftNow 1 = .ok (.getfield 12, 3) := by decide +kernel
theorem dX5_thriftNow_4 : decode cX5_thriftNow 4 = .ok (.invokevirtual 117, 3) := by decide +kernel
theorem dX5_thriftNow_7 : decode cX5_thriftNow 7 = .ok (.ifCond .ne 36, 3) := by decide +kernel
theorem dX5_thriftNow_10 : decode cX5_thriftNow 10 = .ok (.aload_n 0, 1) := by decide +kernel
theorem dX5_thriftNow_11 : decode cX5_thriftNow 11 = .ok (.getfield 12, 3) := by decide +kernel
theorem dX5_thriftNow_14 : decode cX5_thriftNow 14 = .ok (.bipush 7, 2) := by decide +kernel
theorem dX5_thriftNow_16 : decode cX5_thriftNow 16 = .ok (.invokevirtual 136, 3) := by decide +kernel
theorem dX5_thriftNow_19 : decode cX5_thriftNow 19 = .ok (.istore_n 1, 1) := by decide +kernel
theorem dX5_thriftNow_20 : decode cX5_thriftNow 20 = .ok (.aload_n 0, 1) := by decide +kernel
theorem dX5_thriftNow_21 : decode cX5_thriftNow 21 = .ok (.bipush 7, 2) := by decide +kernel
theorem dX5_thriftNow_23 : decode cX5_thriftNow 23 = .ok (.iload_n 1, 1) := by decide +kernel
theorem dX5_thriftNow_24 : decode cX5_thriftNow 24 = .ok (.ifCond .ge 7, 3) := by decide +kernel
theorem dX5_thriftNow_27 : decode cX5_thriftNow 27 = .ok (.iconst 0, 1) := by decide +kernel
theorem dX5_thriftNow_28 : decode cX5_thriftNow 28 = .ok (.goto 11, 3) := by decide +kernel
theorem dX5_thriftNow_31 : decode cX5_thriftNow 31 = .ok (.aload_n 0, 1) := by decide +kernel
theorem dX5_thriftNow_32 : decode cX5_thriftNow 32 = .ok (.getfield 12, 3) := by decide +kernel
theorem dX5_thriftNow_35 : decode cX5_thriftNow 35 = .ok (.iload_n 1, 1) := by decide +kernel
theorem dX5_thriftNow_36 : decode cX5_thriftNow 36 = .ok (.invokevirtual 102, 3) := by decide +kernel
theorem dX5_thriftNow_39 : decode cX5_thriftNow 39 = .ok (.invokevirtual 272, 3) := by decide +kernel
theorem dX5_thriftNow_42 : decode cX5_thriftNow 42 = .ok (.ireturn, 1) := by decide +kernel
theorem dX5_thriftNow_43 : decode cX5_thriftNow 43 = .ok (.aload_n 0, 1) := by decide +kernel
theorem dX5_thriftNow_44 : decode cX5_thriftNow 44 = .ok (.getfield 39, 3) := by decide +kernel
theorem dX5_thriftNow_47 : decode cX5_thriftNow 47 = .ok (.aload_n 0, 1) := by decide +kernel
theorem dX5_thriftNow_48 : decode cX5_thriftNow 48 = .ok (.getfield 12, 3) := by decide +kernel
theorem dX5_thriftNow_51 : decode cX5_thriftNow 51 = .ok (.invokevirtual 124, 3) := by decide +kernel
theorem dX5_thriftNow_54 : decode cX5_thriftNow 54 = .ok (.iconst 0, 1) := by decide +kernel
theorem dX5_thriftNow_55 : decode cX5_thriftNow 55 = .ok (.istore_n 1, 1) := by decide +kernel
theorem dX5_thriftNow_56 : decode cX5_thriftNow 56 = .ok (.iconst 0, 1) := by decide +kernel
theorem dX5_thriftNow_57 : decode cX5_thriftNow 57 = .ok (.istore_n 2, 1) := by decide +kernel
theorem dX5_thriftNow_58 : decode cX5_thriftNow 58 = .ok (.iload_n 2, 1) := by decide +kernel
theorem dX5_thriftNow_59 : decode cX5_thriftNow 59 = .ok (.bipush 12, 2) := by decide +kernel
theorem dX5_thriftNow_61 : decode cX5_thriftNow 61 = .ok (.if_icmp .ge 49, 3) := by decide +kernel
theorem dX5_thriftNow_64 : decode cX5_thriftNow 64 = .ok (.bipush 24, 2) := by decide +kernel
theorem dX5_thriftNow_66 : decode cX5_thriftNow 66 = .ok (.istore_n 3, 1) := by decide +kernel
theorem dX5_thriftNow_67 : decode cX5_thriftNow 67 = .ok (.iload_n 3, 1) := by decide +kernel
theorem dX5_thriftNow_68 : decode cX5_thriftNow 68 = .ok (.ifCond .lt 17, 3) := by decide +kernel
theorem dX5_thriftNow_71 : decode cX5_thriftNow 71 = .ok (.aload_n 0, 1) := by decide +kernel
theorem dX5_thriftNow_72 : decode cX5_thriftNow 72 = .ok (.iload_n 3, 1) := by decide +kernel
theorem dX5_thriftNow_73 : decode cX5_thriftNow 73 = .ok (.invokevirtual 127, 3) := by decide +kernel
theorem dX5_thriftNow_76 : decode cX5_thriftNow 76 = .ok (.ifCond .ne 9, 3) := by decide +kernel
theorem dX5_thriftNow_79 : decode cX5_thriftNow 79 = .ok (.iinc 3 (-1), 3) := by decide +kernel
theorem dX5_thriftNow_82 : decode cX5_thriftNow 82 = .ok (.goto (-15), 3) := by decide +kernel
theorem dX5_thriftNow_85 : decode cX5_thriftNow 85 = .ok (.iload_n 3, 1) := by decide +kernel
theorem dX5_thriftNow_86 : decode cX5_thriftNow 86 = .ok (.ifCond .ge 6, 3) := by decide +kernel
theorem dX5_thriftNow_89 : decode cX5_thriftNow 89 = .ok (.goto 21, 3) := by decide +kernel
theorem dX5_thriftNow_92 : decode cX5_thriftNow 92 = .ok (.aload_n 0, 1) := by decide +kernel
theorem dX5_thriftNow_93 : decode cX5_thriftNow 93 = .ok (.getfield 12, 3) := by decide +kernel
theorem dX5_thriftNow_96 : decode cX5_thriftNow 96 = .ok (.iload_n 3, 1) := by decide +kernel
theorem dX5_thriftNow_97 : decode cX5_thriftNow 97 = .ok (.iconst 0, 1) := by decide +kernel
theorem dX5_thriftNow_98 : decode cX5_thriftNow 98 = .ok (.invokevirtual 167, 3) := by decide +kernel
theorem dX5_thriftNow_101 : decode cX5_thriftNow 101 = .ok (.iinc 1 1, 3) := by decide +kernel
theorem dX5_thriftNow_104 : decode cX5_thriftNow 104 = .ok (.iinc 2 1, 3) := by decide +kernel
theorem dX5_thriftNow_107 : decode cX5_thriftNow 107 = .ok (.goto (-49), 3) := by decide +kernel
theorem dX5_thriftNow_110 : decode cX5_thriftNow 110 = .ok (.iload_n 1, 1) := by decide +kernel
theorem dX5_thriftNow_111 : decode cX5_thriftNow 111 = .ok (.ifCond .ne 17, 3) := by decide +kernel
theorem dX5_thriftNow_114 : decode cX5_thriftNow 114 = .ok (.aload_n 0, 1) := by decide +kernel
theorem dX5_thriftNow_115 : decode cX5_thriftNow 115 = .ok (.bipush 6, 2) := by decide +kernel
theorem dX5_thriftNow_117 : decode cX5_thriftNow 117 = .ok (.aload_n 0, 1) := by decide +kernel
theorem dX5_thriftNow_118 : decode cX5_thriftNow 118 = .ok (.getfield 12, 3) := by decide +kernel
theorem dX5_thriftNow_121 : decode cX5_thriftNow 121 = .ok (.invokevirtual 228, 3) := by decide +kernel
theorem dX5_thriftNow_124 : decode cX5_thriftNow 124 = .ok (.invokevirtual 272, 3) := by decide +kernel
theorem dX5_thriftNow_127 : decode cX5_thriftNow 127 = .ok (.ireturn, 1) := by decide +kernel
theorem dX5_thriftNow_128 : decode cX5_thriftNow 128 = .ok (.aload_n 0, 1) := by decide +kernel
theorem dX5_thriftNow_129 : decode cX5_thriftNow 129 = .ok (.getfield 12, 3) := by decide +kernel
theorem dX5_thriftNow_132 : decode cX5_thriftNow 132 = .ok (.dup, 1) := by decide +kernel
theorem dX5_thriftNow_133 : decode cX5_thriftNow 133 = .ok (.getfield 243, 3) := by decide +kernel
theorem dX5_thriftNow_136 : decode cX5_thriftNow 136 = .ok (.iload_n 1, 1) := by decide +kernel
theorem dX5_thriftNow_137 : decode cX5_thriftNow 137 = .ok (.iadd, 1) := by decide +kernel
theorem dX5_thriftNow_138 : decode cX5_thriftNow 138 = .ok (.putfield 243, 3) := by decide +kernel
theorem dX5_thriftNow_141 : decode cX5_thriftNow 141 = .ok (.iload_n 1, 1) := by decide +kernel
theorem dX5_thriftNow_142 : decode cX5_thriftNow 142 = .ok (.ireturn, 1) := by decide +kernel
theorem dX5_keep_0 : decode cX5_keep 0 = .ok (.iload_n 1, 1) := by decide +kernel
theorem dX5_keep_1 : decode cX5_keep 1 = .ok (.ifCond .lt 14, 3) := by decide +kernel
theorem dX5_keep_4 : decode cX5_keep 4 = .ok (.aload_n 0, 1) := by decide +kernel
theorem dX5_keep_5 : decode cX5_keep 5 = .ok (.getfield 28, 3) := by decide +kernel
theorem dX5_keep_8 : decode cX5_keep 8 = .ok (.aload_n 0, 1) := by decide +kernel
theorem dX5_keep_9 : decode cX5_keep 9 = .ok (.getfield 16, 3) := by decide +kernel
theorem dX5_keep_12 : decode cX5_keep 12 = .ok (.invokevirtual 216, 3) := by decide +kernel
theorem dX5_keep_15 : decode cX5_keep 15 = .ok (.iload_n 1, 1) := by decide +kernel
theorem dX5_keep_16 : decode cX5_keep 16 = .ok (.ireturn, 1) := by decide +kernel
theorem dX5_refuse_0 : decode cX5_refuse 0 = .ok (.aload_n 0, 1) := by decide +kernel
theorem dX5_refuse_1 : decode cX5_refuse 1 = .ok (.iload_n 1, 1) := by decide +kernel
theorem dX5_refuse_2 : decode cX5_refuse 2 = .ok (.putfield 219, 3) := by decide +kernel
theorem dX5_refuse_5 : decode cX5_refuse 5 = .ok (.aload_n 0, 1) := by decide +kernel
theorem dX5_refuse_6 : decode cX5_refuse 6 = .ok (.iload_n 2, 1) := by decide +kernel
theorem dX5_refuse_7 : decode cX5_refuse 7 = .ok (.putfield 222, 3) := by decide +kernel
theorem dX5_refuse_10 : decode cX5_refuse 10 = .ok (.aload_n 0, 1) := by decide +kernel
theorem dX5_refuse_11 : decode cX5_refuse 11 = .ok (.aload_n 0, 1) := by decide +kernel
theorem dX5_refuse_12 : decode cX5_refuse 12 = .ok (.getfield 63, 3) := by decide +kernel
theorem dX5_refuse_15 : decode cX5_refuse 15 = .ok (.putfield 225, 3) := by decide +kernel
theorem dX5_refuse_18 : decode cX5_refuse 18 = .ok (.bipush (-3), 2) := by decide +kernel
theorem dX5_refuse_20 : decode cX5_refuse 20 = .ok (.ireturn, 1) := by decide +kernel
theorem dX5_canSpare_0 : decode cX5_canSpare 0 = .ok (.aload_n 0, 1) := by decide +kernel
theorem dX5_canSpare_1 : decode cX5_canSpare 1 = .ok (.getfield 12, 3) := by decide +kernel
theorem dX5_canSpare_4 : decode cX5_canSpare 4 = .ok (.iload_n 1, 1) := by decide +kernel
theorem dX5_canSpare_5 : decode cX5_canSpare 5 = .ok (.invokevirtual 99, 3) := by decide +kernel
theorem dX5_canSpare_8 : decode cX5_canSpare 8 = .ok (.istore_n 2, 1) := by decide +kernel
theorem dX5_canSpare_9 : decode cX5_canSpare 9 = .ok (.iload_n 2, 1) := by decide +kernel
theorem dX5_canSpare_10 : decode cX5_canSpare 10 = .ok (.ifCond .eq 20, 3) := by decide +kernel
theorem dX5_canSpare_13 : decode cX5_canSpare 13 = .ok (.iload_n 2, 1) := by decide +kernel
theorem dX5_canSpare_14 : decode cX5_canSpare 14 = .ok (.invokestatic 164, 3) := by decide +kernel
theorem dX5_canSpare_17 : decode cX5_canSpare 17 = .ok (.ifCond .ne 13, 3) := by decide +kernel
theorem dX5_canSpare_20 : decode cX5_canSpare 20 = .ok (.aload_n 0, 1) := by decide +kernel
theorem dX5_canSpare_21 : decode cX5_canSpare 21 = .ok (.getfield 39, 3) := by decide +kernel
theorem dX5_canSpare_24 : decode cX5_canSpare 24 = .ok (.invokevirtual 161, 3) := by decide +kernel
theorem dX5_canSpare_27 : decode cX5_canSpare 27 = .ok (.ifCond .ne 5, 3) := by decide +kernel
theorem dX5_canSpare_30 : decode cX5_canSpare 30 = .ok (.iconst 0, 1) := by decide +kernel
theorem dX5_canSpare_31 : decode cX5_canSpare 31 = .ok (.ireturn, 1) := by decide +kernel
theorem dX5_canSpare_32 : decode cX5_canSpare 32 = .ok (.aload_n 0, 1) := by decide +kernel
theorem dX5_canSpare_33 : decode cX5_canSpare 33 = .ok (.getfield 19, 3) := by decide +kernel
theorem dX5_canSpare_36 : decode cX5_canSpare 36 = .ok (.aload_n 0, 1) := by decide +kernel
theorem dX5_canSpare_37 : decode cX5_canSpare 37 = .ok (.getfield 12, 3) := by decide +kernel
theorem dX5_canSpare_40 : decode cX5_canSpare 40 = .ok (.invokevirtual 67, 3) := by decide +kernel
theorem dX5_canSpare_43 : decode cX5_canSpare 43 = .ok (.aload_n 0, 1) := by decide +kernel
theorem dX5_canSpare_44 : decode cX5_canSpare 44 = .ok (.getfield 19, 3) := by decide +kernel
theorem dX5_canSpare_47 : decode cX5_canSpare 47 = .ok (.iload_n 1, 1) := by decide +kernel
theorem dX5_canSpare_48 : decode cX5_canSpare 48 = .ok (.iconst 0, 1) := by decide +kernel
theorem dX5_canSpare_49 : decode cX5_canSpare 49 = .ok (.invokevirtual 167, 3) := by decide +kernel
theorem dX5_canSpare_52 : decode cX5_canSpare 52 = .ok (.aload_n 0, 1) := by decide +kernel
theorem dX5_canSpare_53 : decode cX5_canSpare 53 = .ok (.getfield 19, 3) := by decide +kernel
theorem dX5_canSpare_56 : decode cX5_canSpare 56 = .ok (.invokevirtual 117, 3) := by decide +kernel
theorem dX5_canSpare_59 : decode cX5_canSpare 59 = .ok (.ifCond .ne 5, 3) := by decide +kernel
theorem dX5_canSpare_62 : decode cX5_canSpare 62 = .ok (.iconst 0, 1) := by decide +kernel
theorem dX5_canSpare_63 : decode cX5_canSpare 63 = .ok (.ireturn, 1) := by decide +kernel
theorem dX5_canSpare_64 : decode cX5_canSpare 64 = .ok (.iconst 0, 1) := by decide +kernel
theorem dX5_canSpare_65 : decode cX5_canSpare 65 = .ok (.istore_n 3, 1) := by decide +kernel
theorem dX5_canSpare_66 : decode cX5_canSpare 66 = .ok (.iload_n 3, 1) := by decide +kernel
theorem dX5_canSpare_67 : decode cX5_canSpare 67 = .ok (.bipush 25, 2) := by decide +kernel
theorem dX5_canSpare_69 : decode cX5_canSpare 69 = .ok (.if_icmp .ge 31, 3) := by decide +kernel
theorem dX5_canSpare_72 : decode cX5_canSpare 72 = .ok (.aload_n 0, 1) := by decide +kernel
theorem dX5_canSpare_73 : decode cX5_canSpare 73 = .ok (.getfield 19, 3) := by decide +kernel
theorem dX5_canSpare_76 : decode cX5_canSpare 76 = .ok (.iload_n 3, 1) := by decide +kernel
theorem dX5_canSpare_77 : decode cX5_canSpare 77 = .ok (.invokevirtual 121, 3) := by decide +kernel
theorem dX5_canSpare_80 : decode cX5_canSpare 80 = .ok (.aload_n 0, 1) := by decide +kernel
theorem dX5_canSpare_81 : decode cX5_canSpare 81 = .ok (.getfield 39, 3) := by decide +kernel
theorem dX5_canSpare_84 : decode cX5_canSpare 84 = .ok (.getfield 275, 3) := by decide +kernel
theorem dX5_canSpare_87 : decode cX5_canSpare 87 = .ok (.iload_n 3, 1) := by decide +kernel
theorem dX5_canSpare_88 : decode cX5_canSpare 88 = .ok (.iaload, 1) := by decide +kernel
theorem dX5_canSpare_89 : decode cX5_canSpare 89 = .ok (.if_icmp .eq 5, 3) := by decide +kernel
theorem dX5_canSpare_92 : decode cX5_canSpare 92 = .ok (.iconst 0, 1) := by decide +kernel
theorem dX5_canSpare_93 : decode cX5_canSpare 93 = .ok (.ireturn, 1) := by decide +kernel
theorem dX5_canSpare_94 : decode cX5_canSpare 94 = .ok (.iinc 3 1, 3) := by decide +kernel
theorem dX5_canSpare_97 : decode cX5_canSpare 97 = .ok (.goto (-31), 3) := by decide +kernel
theorem dX5_canSpare_100 : decode cX5_canSpare 100 = .ok (.iconst 1, 1) := by decide +kernel
theorem dX5_canSpare_101 : decode cX5_canSpare 101 = .ok (.ireturn, 1) := by decide +kernel
theorem dX5_fillTally_0 : decode cX5_fillTally 0 = .ok (.iconst 0, 1) := by decide +kernel
theorem dX5_fillTally_1 : decode cX5_fillTally 1 = .ok (.istore_n 1, 1) := by decide +kernel
theorem dX5_fillTally_2 : decode cX5_fillTally 2 = .ok (.iload_n 1, 1) := by decide +kernel
theorem dX5_fillTally_3 : decode cX5_fillTally 3 = .ok (.iconst 4, 1) := by decide +kernel
theorem dX5_fillTally_4 : decode cX5_fillTally 4 = .ok (.if_icmp .ge 16, 3) := by decide +kernel
theorem dX5_fillTally_7 : decode cX5_fillTally 7 = .ok (.aload_n 0, 1) := by decide +kernel
theorem dX5_fillTally_8 : decode cX5_fillTally 8 = .ok (.getfield 42, 3) := by decide +kernel
theorem dX5_fillTally_11 : decode cX5_fillTally 11 = .ok (.iload_n 1, 1) := by decide +kernel
theorem dX5_fillTally_12 : decode cX5_fillTally 12 = .ok (.iconst 0, 1) := by decide +kernel
theorem dX5_fillTally_13 : decode cX5_fillTally 13 = .ok (.iastore, 1) := by decide +kernel
theorem dX5_fillTally_14 : decode cX5_fillTally 14 = .ok (.iinc 1 1, 3) := by decide +kernel
theorem dX5_fillTally_17 : decode cX5_fillTally 17 = .ok (.goto (-15), 3) := by decide +kernel
theorem dX5_fillTally_20 : decode cX5_fillTally 20 = .ok (.iconst 0, 1) := by decide +kernel
theorem dX5_fillTally_21 : decode cX5_fillTally 21 = .ok (.istore_n 1, 1) := by decide +kernel
theorem dX5_fillTally_22 : decode cX5_fillTally 22 = .ok (.iload_n 1, 1) := by decide +kernel
theorem dX5_fillTally_23 : decode cX5_fillTally 23 = .ok (.bipush 25, 2) := by decide +kernel
theorem dX5_fillTally_25 : decode cX5_fillTally 25 = .ok (.if_icmp .ge 53, 3) := by decide +kernel
theorem dX5_fillTally_28 : decode cX5_fillTally 28 = .ok (.aload_n 0, 1) := by decide +kernel
theorem dX5_fillTally_29 : decode cX5_fillTally 29 = .ok (.getfield 12, 3) := by decide +kernel
theorem dX5_fillTally_32 : decode cX5_fillTally 32 = .ok (.iload_n 1, 1) := by decide +kernel
theorem dX5_fillTally_33 : decode cX5_fillTally 33 = .ok (.invokevirtual 114, 3) := by decide +kernel
theorem dX5_fillTally_36 : decode cX5_fillTally 36 = .ok (.istore_n 2, 1) := by decide +kernel
theorem dX5_fillTally_37 : decode cX5_fillTally 37 = .ok (.iconst 0, 1) := by decide +kernel
theorem dX5_fillTally_38 : decode cX5_fillTally 38 = .ok (.istore_n 3, 1) := by decide +kernel
theorem dX5_fillTally_39 : decode cX5_fillTally 39 = .ok (.iload_n 3, 1) := by decide +kernel
theorem dX5_fillTally_40 : decode cX5_fillTally 40 = .ok (.bipush 25, 2) := by decide +kernel
theorem dX5_fillTally_42 : decode cX5_fillTally 42 = .ok (.if_icmp .ge 30, 3) := by decide +kernel
theorem dX5_fillTally_45 : decode cX5_fillTally 45 = .ok (.iload_n 2, 1) := by decide +kernel
theorem dX5_fillTally_46 : decode cX5_fillTally 46 = .ok (.iload_n 3, 1) := by decide +kernel
theorem dX5_fillTally_47 : decode cX5_fillTally 47 = .ok (.invokestatic 278, 3) := by decide +kernel
theorem dX5_fillTally_50 : decode cX5_fillTally 50 = .ok (.ifCond .eq 16, 3) := by decide +kernel
theorem dX5_fillTally_53 : decode cX5_fillTally 53 = .ok (.aload_n 0, 1) := by decide +kernel
theorem dX5_fillTally_54 : decode cX5_fillTally 54 = .ok (.aload_n 0, 1) := by decide +kernel
theorem dX5_fillTally_55 : decode cX5_fillTally 55 = .ok (.getfield 12, 3) := by decide +kernel
theorem dX5_fillTally_58 : decode cX5_fillTally 58 = .ok (.iload_n 1, 1) := by decide +kernel
theorem dX5_fillTally_59 : decode cX5_fillTally 59 = .ok (.iload_n 3, 1) := by decide +kernel
theorem dX5_fillTally_60 : decode cX5_fillTally 60 = .ok (.invokevirtual 149, 3) := by decide +kernel
theorem dX5_fillTally_63 : decode cX5_fillTally 63 = .ok (.invokevirtual 281, 3) := by decide +kernel
theorem dX5_fillTally_66 : decode cX5_fillTally 66 = .ok (.iinc 3 1, 3) := by decide +kernel
theorem dX5_fillTally_69 : decode cX5_fillTally 69 = .ok (.goto (-30), 3) := by decide +kernel
theorem dX5_fillTally_72 : decode cX5_fillTally 72 = .ok (.iinc 1 1, 3) := by decide +kernel
theorem dX5_fillTally_75 : decode cX5_fillTally 75 = .ok (.goto (-53), 3) := by decide +kernel
theorem dX5_fillTally_78 : decode cX5_fillTally 78 = .ok (.return_, 1) := by decide +kernel
theorem dX5_countKind_0 : decode cX5_countKind 0 = .ok (.iload_n 1, 1) := by decide +kernel
theorem dX5_countKind_1 : decode cX5_countKind 1 = .ok (.ifCond .lt 18, 3) := by decide +kernel
theorem dX5_countKind_4 : decode cX5_countKind 4 = .ok (.iload_n 1, 1) := by decide +kernel
theorem dX5_countKind_5 : decode cX5_countKind 5 = .ok (.iconst 4, 1) := by decide +kernel
theorem dX5_countKind_6 : decode cX5_countKind 6 = .ok (.if_icmp .ge 13, 3) := by decide +kernel
theorem dX5_countKind_9 : decode cX5_countKind 9 = .ok (.aload_n 0, 1) := by decide +kernel
theorem dX5_countKind_10 : decode cX5_countKind 10 = .ok (.getfield 42, 3) := by decide +kernel
theorem dX5_countKind_13 : decode cX5_countKind 13 = .ok (.iload_n 1, 1) := by decide +kernel
theorem dX5_countKind_14 : decode cX5_countKind 14 = .ok (.dup2, 1) := by decide +kernel
theorem dX5_countKind_15 : decode cX5_countKind 15 = .ok (.iaload, 1) := by decide +kernel
theorem dX5_countKind_16 : decode cX5_countKind 16 = .ok (.iconst 1, 1) := by decide +kernel
theorem dX5_countKind_17 : decode cX5_countKind 17 = .ok (.iadd, 1) := by decide +kernel
theorem dX5_countKind_18 : decode cX5_countKind 18 = .ok (.iastore, 1) := by decide +kernel
theorem dX5_countKind_19 : decode cX5_countKind 19 = .ok (.return_, 1) := by decide +kernel
theorem dX5_kindsAreAllMoves_0 : decode cX5_kindsAreAllMoves 0 = .ok (.aload_n 0, 1) := by decide +kernel
theorem dX5_kindsAreAllMoves_1 : decode cX5_kindsAreAllMoves 1 = .ok (.invokevirtual 158, 3) := by decide +kernel
theorem dX5_kindsAreAllMoves_4 : decode cX5_kindsAreAllMoves 4 = .ok (.aload_n 0, 1) := by decide +kernel
theorem dX5_kindsAreAllMoves_5 : decode cX5_kindsAreAllMoves 5 = .ok (.getfield 35, 3) := by decide +kernel
theorem dX5_kindsAreAllMoves_8 : decode cX5_kindsAreAllMoves 8 = .ok (.aload_n 0, 1) := by decide +kernel
theorem dX5_kindsAreAllMoves_9 : decode cX5_kindsAreAllMoves 9 = .ok (.getfield 12, 3) := by decide +kernel
theorem dX5_kindsAreAllMoves_12 : decode cX5_kindsAreAllMoves 12 = .ok (.invokevirtual 130, 3) := by decide +kernel
theorem dX5_kindsAreAllMoves_15 : decode cX5_kindsAreAllMoves 15 = .ok (.aload_n 0, 1) := by decide +kernel
theorem dX5_kindsAreAllMoves_16 : decode cX5_kindsAreAllMoves 16 = .ok (.getfield 42, 3) := by decide +kernel
theorem dX5_kindsAreAllMoves_19 : decode cX5_kindsAreAllMoves 19 = .ok (.iconst 3, 1) := by decide +kernel
theorem dX5_kindsAreAllMoves_20 : decode cX5_kindsAreAllMoves 20 = .ok (.iaload, 1) := by decide +kernel
theorem dX5_kindsAreAllMoves_21 : decode cX5_kindsAreAllMoves 21 = .ok (.aload_n 0, 1) := by decide +kernel
theorem dX5_kindsAreAllMoves_22 : decode cX5_kindsAreAllMoves 22 = .ok (.getfield 42, 3) := by decide +kernel
theorem dX5_kindsAreAllMoves_25 : decode cX5_kindsAreAllMoves 25 = .ok (.iconst 2, 1) := by decide +kernel
theorem dX5_kindsAreAllMoves_26 : decode cX5_kindsAreAllMoves 26 = .ok (.iaload, 1) := by decide +kernel
theorem dX5_kindsAreAllMoves_27 : decode cX5_kindsAreAllMoves 27 = .ok (.iadd, 1) := by decide +kernel
theorem dX5_kindsAreAllMoves_28 : decode cX5_kindsAreAllMoves 28 = .ok (.aload_n 0, 1) := by decide +kernel
theorem dX5_kindsAreAllMoves_29 : decode cX5_kindsAreAllMoves 29 = .ok (.getfield 42, 3) := by decide +kernel
theorem dX5_kindsAreAllMoves_32 : decode cX5_kindsAreAllMoves 32 = .ok (.iconst 1, 1) := by decide +kernel
theorem dX5_kindsAreAllMoves_33 : decode cX5_kindsAreAllMoves 33 = .ok (.iaload, 1) := by decide +kernel
theorem dX5_kindsAreAllMoves_34 : decode cX5_kindsAreAllMoves 34 = .ok (.iadd, 1) := by decide +kernel
theorem dX5_kindsAreAllMoves_35 : decode cX5_kindsAreAllMoves 35 = .ok (.aload_n 0, 1) := by decide +kernel
theorem dX5_kindsAreAllMoves_36 : decode cX5_kindsAreAllMoves 36 = .ok (.getfield 42, 3) := by decide +kernel
theorem dX5_kindsAreAllMoves_39 : decode cX5_kindsAreAllMoves 39 = .ok (.iconst 0, 1) := by decide +kernel
theorem dX5_kindsAreAllMoves_40 : decode cX5_kindsAreAllMoves 40 = .ok (.iaload, 1) := by decide +kernel
theorem dX5_kindsAreAllMoves_41 : decode cX5_kindsAreAllMoves 41 = .ok (.iadd, 1) := by decide +kernel
theorem dX5_kindsAreAllMoves_42 : decode cX5_kindsAreAllMoves 42 = .ok (.aload_n 0, 1) := by decide +kernel
theorem dX5_kindsAreAllMoves_43 : decode cX5_kindsAreAllMoves 43 = .ok (.getfield 35, 3) := by decide +kernel
theorem dX5_kindsAreAllMoves_46 : decode cX5_kindsAreAllMoves 46 = .ok (.invokevirtual 161, 3) := by decide +kernel
theorem dX5_kindsAreAllMoves_49 : decode cX5_kindsAreAllMoves 49 = .ok (.if_icmp .ne 7, 3) := by decide +kernel
theorem dX5_kindsAreAllMoves_52 : decode cX5_kindsAreAllMoves 52 = .ok (.iconst 1, 1) := by decide +kernel
theorem dX5_kindsAreAllMoves_53 : decode cX5_kindsAreAllMoves 53 = .ok (.goto 4, 3) := by decide +kernel
theorem dX5_kindsAreAllMoves_56 : decode cX5_kindsAreAllMoves 56 = .ok (.iconst 0, 1) := by decide +kernel
theorem dX5_kindsAreAllMoves_57 : decode cX5_kindsAreAllMoves 57 = .ok (.ireturn, 1) := by decide +kernel
theorem dX5_keysLeaveNoFlight_0 : decode cX5_keysLeaveNoFlight 0 = .ok (.aload_n 0, 1) := by decide +kernel
theorem dX5_keysLeaveNoFlight_1 : decode cX5_keysLeaveNoFlight 1 = .ok (.getfield 39, 3) := by decide +kernel
theorem dX5_keysLeaveNoFlight_4 : decode cX5_keysLeaveNoFlight 4 = .ok (.aload_n 0, 1) := by decide +kernel
theorem dX5_keysLeaveNoFlight_5 : decode cX5_keysLeaveNoFlight 5 = .ok (.getfield 12, 3) := by decide +kernel
theorem dX5_keysLeaveNoFlight_8 : decode cX5_keysLeaveNoFlight 8 = .ok (.invokevirtual 124, 3) := by decide +kernel
theorem dX5_keysLeaveNoFlight_11 : decode cX5_keysLeaveNoFlight 11 = .ok (.iconst 0, 1) := by decide +kernel
theorem dX5_keysLeaveNoFlight_12 : decode cX5_keysLeaveNoFlight 12 = .ok (.istore_n 1, 1) := by decide +kernel
theorem dX5_keysLeaveNoFlight_13 : decode cX5_keysLeaveNoFlight 13 = .ok (.iload_n 1, 1) := by decide +kernel
theorem dX5_keysLeaveNoFlight_14 : decode cX5_keysLeaveNoFlight 14 = .ok (.bipush 25, 2) := by decide +kernel
theorem dX5_keysLeaveNoFlight_16 : decode cX5_keysLeaveNoFlight 16 = .ok (.if_icmp .ge 56, 3) := by decide +kernel
theorem dX5_keysLeaveNoFlight_19 : decode cX5_keysLeaveNoFlight 19 = .ok (.iconst 0, 1) := by decide +kernel
theorem dX5_keysLeaveNoFlight_20 : decode cX5_keysLeaveNoFlight 20 = .ok (.istore_n 2, 1) := by decide +kernel
theorem dX5_keysLeaveNoFlight_21 : decode cX5_keysLeaveNoFlight 21 = .ok (.iload_n 2, 1) := by decide +kernel
theorem dX5_keysLeaveNoFlight_22 : decode cX5_keysLeaveNoFlight 22 = .ok (.bipush 25, 2) := by decide +kernel
theorem dX5_keysLeaveNoFlight_24 : decode cX5_keysLeaveNoFlight 24 = .ok (.if_icmp .ge 42, 3) := by decide +kernel
theorem dX5_keysLeaveNoFlight_27 : decode cX5_keysLeaveNoFlight 27 = .ok (.aload_n 0, 1) := by decide +kernel
theorem dX5_keysLeaveNoFlight_28 : decode cX5_keysLeaveNoFlight 28 = .ok (.getfield 39, 3) := by decide +kernel
theorem dX5_keysLeaveNoFlight_31 : decode cX5_keysLeaveNoFlight 31 = .ok (.getfield 275, 3) := by decide +kernel
theorem dX5_keysLeaveNoFlight_34 : decode cX5_keysLeaveNoFlight 34 = .ok (.iload_n 1, 1) := by decide +kernel
theorem dX5_keysLeaveNoFlight_35 : decode cX5_keysLeaveNoFlight 35 = .ok (.iaload, 1) := by decide +kernel
theorem dX5_keysLeaveNoFlight_36 : decode cX5_keysLeaveNoFlight 36 = .ok (.iload_n 2, 1) := by decide +kernel
theorem dX5_keysLeaveNoFlight_37 : decode cX5_keysLeaveNoFlight 37 = .ok (.invokestatic 278, 3) := by decide +kernel
theorem dX5_keysLeaveNoFlight_40 : decode cX5_keysLeaveNoFlight 40 = .ok (.ifCond .eq 20, 3) := by decide +kernel
theorem dX5_keysLeaveNoFlight_43 : decode cX5_keysLeaveNoFlight 43 = .ok (.aload_n 0, 1) := by decide +kernel
theorem dX5_keysLeaveNoFlight_44 : decode cX5_keysLeaveNoFlight 44 = .ok (.getfield 12, 3) := by decide +kernel
theorem dX5_keysLeaveNoFlight_47 : decode cX5_keysLeaveNoFlight 47 = .ok (.iload_n 1, 1) := by decide +kernel
theorem dX5_keysLeaveNoFlight_48 : decode cX5_keysLeaveNoFlight 48 = .ok (.iload_n 2, 1) := by decide +kernel
theorem dX5_keysLeaveNoFlight_49 : decode cX5_keysLeaveNoFlight 49 = .ok (.invokevirtual 152, 3) := by decide +kernel
theorem dX5_keysLeaveNoFlight_52 : decode cX5_keysLeaveNoFlight 52 = .ok (.invokestatic 142, 3) := by decide +kernel
theorem dX5_keysLeaveNoFlight_55 : decode cX5_keysLeaveNoFlight 55 = .ok (.ifCond .eq 5, 3) := by decide +kernel
theorem dX5_keysLeaveNoFlight_58 : decode cX5_keysLeaveNoFlight 58 = .ok (.iconst 0, 1) := by decide +kernel
theorem dX5_keysLeaveNoFlight_59 : decode cX5_keysLeaveNoFlight 59 = .ok (.ireturn, 1) := by decide +kernel
theorem dX5_keysLeaveNoFlight_60 : decode cX5_keysLeaveNoFlight 60 = .ok (.iinc 2 1, 3) := by decide +kernel
theorem dX5_keysLeaveNoFlight_63 : decode cX5_keysLeaveNoFlight 63 = .ok (.goto (-42), 3) := by decide +kernel
theorem dX5_keysLeaveNoFlight_66 : decode cX5_keysLeaveNoFlight 66 = .ok (.iinc 1 1, 3) := by decide +kernel
theorem dX5_keysLeaveNoFlight_69 : decode cX5_keysLeaveNoFlight 69 = .ok (.goto (-56), 3) := by decide +kernel
theorem dX5_keysLeaveNoFlight_72 : decode cX5_keysLeaveNoFlight 72 = .ok (.iconst 1, 1) := by decide +kernel
theorem dX5_keysLeaveNoFlight_73 : decode cX5_keysLeaveNoFlight 73 = .ok (.ireturn, 1) := by decide +kernel
theorem dX5_placeInOrder_0 : decode cX5_placeInOrder 0 = .ok (.iload_n 1, 1) := by decide +kernel
theorem dX5_placeInOrder_1 : decode cX5_placeInOrder 1 = .ok (.invokestatic 95, 3) := by decide +kernel
theorem dX5_placeInOrder_4 : decode cX5_placeInOrder 4 = .ok (.ifCond .ne 5, 3) := by decide +kernel
theorem dX5_placeInOrder_7 : decode cX5_placeInOrder 7 = .ok (.iconst (-1), 1) := by decide +kernel
theorem dX5_placeInOrder_8 : decode cX5_placeInOrder 8 = .ok (.ireturn, 1) := by decide +kernel
theorem dX5_placeInOrder_9 : decode cX5_placeInOrder 9 = .ok (.iconst 0, 1) := by decide +kernel
theorem dX5_placeInOrder_10 : decode cX5_placeInOrder 10 = .ok (.istore_n 2, 1) := by decide +kernel
theorem dX5_placeInOrder_11 : decode cX5_placeInOrder 11 = .ok (.iconst 0, 1) := by decide +kernel
theorem dX5_placeInOrder_12 : decode cX5_placeInOrder 12 = .ok (.istore_n 3, 1) := by decide +kernel
theorem dX5_placeInOrder_13 : decode cX5_placeInOrder 13 = .ok (.iload_n 3, 1) := by decide +kernel
theorem dX5_placeInOrder_14 : decode cX5_placeInOrder 14 = .ok (.bipush 25, 2) := by decide +kernel
theorem dX5_placeInOrder_16 : decode cX5_placeInOrder 16 = .ok (.if_icmp .ge 85, 3) := by decide +kernel
theorem dX5_placeInOrder_19 : decode cX5_placeInOrder 19 = .ok (.aload_n 0, 1) := by decide +kernel
theorem dX5_placeInOrder_20 : decode cX5_placeInOrder 20 = .ok (.getfield 46, 3) := by decide +kernel
theorem dX5_placeInOrder_23 : decode cX5_placeInOrder 23 = .ok (.iload_n 3, 1) := by decide +kernel
theorem dX5_placeInOrder_24 : decode cX5_placeInOrder 24 = .ok (.iaload, 1) := by decide +kernel
theorem dX5_placeInOrder_25 : decode cX5_placeInOrder 25 = .ok (.aload_n 0, 1) := by decide +kernel
theorem dX5_placeInOrder_26 : decode cX5_placeInOrder 26 = .ok (.getfield 46, 3) := by decide +kernel
theorem dX5_placeInOrder_29 : decode cX5_placeInOrder 29 = .ok (.iload_n 1, 1) := by decide +kernel
theorem dX5_placeInOrder_30 : decode cX5_placeInOrder 30 = .ok (.iaload, 1) := by decide +kernel
theorem dX5_placeInOrder_31 : decode cX5_placeInOrder 31 = .ok (.if_icmp .le 7, 3) := by decide +kernel
theorem dX5_placeInOrder_34 : decode cX5_placeInOrder 34 = .ok (.iconst 1, 1) := by decide +kernel
theorem dX5_placeInOrder_35 : decode cX5_placeInOrder 35 = .ok (.goto 4, 3) := by decide +kernel
theorem dX5_placeInOrder_38 : decode cX5_placeInOrder 38 = .ok (.iconst 0, 1) := by decide +kernel
theorem dX5_placeInOrder_39 : decode cX5_placeInOrder 39 = .ok (.istore 4, 2) := by decide +kernel
theorem dX5_placeInOrder_41 : decode cX5_placeInOrder 41 = .ok (.aload_n 0, 1) := by decide +kernel
theorem dX5_placeInOrder_42 : decode cX5_placeInOrder 42 = .ok (.getfield 46, 3) := by decide +kernel
theorem dX5_placeInOrder_45 : decode cX5_placeInOrder 45 = .ok (.iload_n 3, 1) := by decide +kernel
theorem dX5_placeInOrder_46 : decode cX5_placeInOrder 46 = .ok (.iaload, 1) := by decide +kernel
theorem dX5_placeInOrder_47 : decode cX5_placeInOrder 47 = .ok (.aload_n 0, 1) := by decide +kernel
theorem dX5_placeInOrder_48 : decode cX5_placeInOrder 48 = .ok (.getfield 46, 3) := by decide +kernel
theorem dX5_placeInOrder_51 : decode cX5_placeInOrder 51 = .ok (.iload_n 1, 1) := by decide +kernel
theorem dX5_placeInOrder_52 : decode cX5_placeInOrder 52 = .ok (.iaload, 1) := by decide +kernel
theorem dX5_placeInOrder_53 : decode cX5_placeInOrder 53 = .ok (.if_icmp .ne 12, 3) := by decide +kernel
theorem dX5_placeInOrder_56 : decode cX5_placeInOrder 56 = .ok (.iload_n 3, 1) := by decide +kernel
theorem dX5_placeInOrder_57 : decode cX5_placeInOrder 57 = .ok (.iload_n 1, 1) := by decide +kernel
theorem dX5_placeInOrder_58 : decode cX5_placeInOrder 58 = .ok (.if_icmp .ge 7, 3) := by decide +kernel
theorem dX5_placeInOrder_61 : decode cX5_placeInOrder 61 = .ok (.iconst 1, 1) := by decide +kernel
theorem dX5_placeInOrder_62 : decode cX5_placeInOrder 62 = .ok (.goto 4, 3) := by decide +kernel
theorem dX5_placeInOrder_65 : decode cX5_placeInOrder 65 = .ok (.iconst 0, 1) := by decide +kernel
theorem dX5_placeInOrder_66 : decode cX5_placeInOrder 66 = .ok (.istore 5, 2) := by decide +kernel
theorem dX5_placeInOrder_68 : decode cX5_placeInOrder 68 = .ok (.aload_n 0, 1) := by decide +kernel
theorem dX5_placeInOrder_69 : decode cX5_placeInOrder 69 = .ok (.getfield 12, 3) := by decide +kernel
theorem dX5_placeInOrder_72 : decode cX5_placeInOrder 72 = .ok (.iload_n 3, 1) := by decide +kernel
theorem dX5_placeInOrder_73 : decode cX5_placeInOrder 73 = .ok (.invokevirtual 99, 3) := by decide +kernel
theorem dX5_placeInOrder_76 : decode cX5_placeInOrder 76 = .ok (.invokestatic 171, 3) := by decide +kernel
theorem dX5_placeInOrder_79 : decode cX5_placeInOrder 79 = .ok (.ifCond .eq 16, 3) := by decide +kernel
theorem dX5_placeInOrder_82 : decode cX5_placeInOrder 82 = .ok (.iload 4, 2) := by decide +kernel
theorem dX5_placeInOrder_84 : decode cX5_placeInOrder 84 = .ok (.ifCond .ne 8, 3) := by decide +kernel
theorem dX5_placeInOrder_87 : decode cX5_placeInOrder 87 = .ok (.iload 5, 2) := by decide +kernel
theorem dX5_placeInOrder_89 : decode cX5_placeInOrder 89 = .ok (.ifCond .eq 6, 3) := by decide +kernel
theorem dX5_placeInOrder_92 : decode cX5_placeInOrder 92 = .ok (.iinc 2 1, 3) := by decide +kernel
theorem dX5_placeInOrder_95 : decode cX5_placeInOrder 95 = .ok (.iinc 3 1, 3) := by decide +kernel
theorem dX5_placeInOrder_98 : decode cX5_placeInOrder 98 = .ok (.goto (-85), 3) := by decide +kernel
theorem dX5_placeInOrder_101 : decode cX5_placeInOrder 101 = .ok (.iload_n 2, 1) := by decide +kernel
theorem dX5_placeInOrder_102 : decode cX5_placeInOrder 102 = .ok (.ireturn, 1) := by decide +kernel
theorem dX5_isSquare_0 : decode cX5_isSquare 0 = .ok (.iload_n 0, 1) := by decide +kernel
theorem dX5_isSquare_1 : decode cX5_isSquare 1 = .ok (.ifCond .lt 13, 3) := by decide +kernel
theorem dX5_isSquare_4 : decode cX5_isSquare 4 = .ok (.iload_n 0, 1) := by decide +kernel
theorem dX5_isSquare_5 : decode cX5_isSquare 5 = .ok (.bipush 25, 2) := by decide +kernel
theorem dX5_isSquare_7 : decode cX5_isSquare 7 = .ok (.if_icmp .ge 7, 3) := by decide +kernel
theorem dX5_isSquare_10 : decode cX5_isSquare 10 = .ok (.iconst 1, 1) := by decide +kernel
theorem dX5_isSquare_11 : decode cX5_isSquare 11 = .ok (.goto 4, 3) := by decide +kernel
theorem dX5_isSquare_14 : decode cX5_isSquare 14 = .ok (.iconst 0, 1) := by decide +kernel
theorem dX5_isSquare_15 : decode cX5_isSquare 15 = .ok (.ireturn, 1) := by decide +kernel
theorem dX5_isWhite_0 : decode cX5_isWhite 0 = .ok (.iload_n 0, 1) := by decide +kernel
theorem dX5_isWhite_1 : decode cX5_isWhite 1 = .ok (.iconst 1, 1) := by decide +kernel
theorem dX5_isWhite_2 : decode cX5_isWhite 2 = .ok (.if_icmp .lt 12, 3) := by decide +kernel
theorem dX5_isWhite_5 : decode cX5_isWhite 5 = .ok (.iload_n 0, 1) := by decide +kernel
theorem dX5_isWhite_6 : decode cX5_isWhite 6 = .ok (.iconst 5, 1) := by decide +kernel
theorem dX5_isWhite_7 : decode cX5_isWhite 7 = .ok (.if_icmp .gt 7, 3) := by decide +kernel
theorem dX5_isWhite_10 : decode cX5_isWhite 10 = .ok (.iconst 1, 1) := by decide +kernel
theorem dX5_isWhite_11 : decode cX5_isWhite 11 = .ok (.goto 4, 3) := by decide +kernel
theorem dX5_isWhite_14 : decode cX5_isWhite 14 = .ok (.iconst 0, 1) := by decide +kernel
theorem dX5_isWhite_15 : decode cX5_isWhite 15 = .ok (.ireturn, 1) := by decide +kernel
theorem dX5_isKing_0 : decode cX5_isKing 0 = .ok (.iload_n 0, 1) := by decide +kernel
theorem dX5_isKing_1 : decode cX5_isKing 1 = .ok (.iconst 1, 1) := by decide +kernel
theorem dX5_isKing_2 : decode cX5_isKing 2 = .ok (.if_icmp .eq 9, 3) := by decide +kernel
theorem dX5_isKing_5 : decode cX5_isKing 5 = .ok (.iload_n 0, 1) := by decide +kernel
theorem dX5_isKing_6 : decode cX5_isKing 6 = .ok (.bipush 7, 2) := by decide +kernel
theorem dX5_isKing_8 : decode cX5_isKing 8 = .ok (.if_icmp .ne 7, 3) := by decide +kernel
theorem dX5_isKing_11 : decode cX5_isKing 11 = .ok (.iconst 1, 1) := by decide +kernel
theorem dX5_isKing_12 : decode cX5_isKing 12 = .ok (.goto 4, 3) := by decide +kernel
theorem dX5_isKing_15 : decode cX5_isKing 15 = .ok (.iconst 0, 1) := by decide +kernel
theorem dX5_isKing_16 : decode cX5_isKing 16 = .ok (.ireturn, 1) := by decide +kernel
theorem dX5_hasSquare_0 : decode cX5_hasSquare 0 = .ok (.iload_n 1, 1) := by decide +kernel
theorem dX5_hasSquare_1 : decode cX5_hasSquare 1 = .ok (.invokestatic 95, 3) := by decide +kernel
theorem dX5_hasSquare_4 : decode cX5_hasSquare 4 = .ok (.ifCond .eq 15, 3) := by decide +kernel
theorem dX5_hasSquare_7 : decode cX5_hasSquare 7 = .ok (.iload_n 0, 1) := by decide +kernel
theorem dX5_hasSquare_8 : decode cX5_hasSquare 8 = .ok (.iload_n 1, 1) := by decide +kernel
theorem dX5_hasSquare_9 : decode cX5_hasSquare 9 = .ok (.ishr, 1) := by decide +kernel
theorem dX5_hasSquare_10 : decode cX5_hasSquare 10 = .ok (.iconst 1, 1) := by decide +kernel
theorem dX5_hasSquare_11 : decode cX5_hasSquare 11 = .ok (.iand, 1) := by decide +kernel
theorem dX5_hasSquare_12 : decode cX5_hasSquare 12 = .ok (.ifCond .eq 7, 3) := by decide +kernel
theorem dX5_hasSquare_15 : decode cX5_hasSquare 15 = .ok (.iconst 1, 1) := by decide +kernel
theorem dX5_hasSquare_16 : decode cX5_hasSquare 16 = .ok (.goto 4, 3) := by decide +kernel
theorem dX5_hasSquare_19 : decode cX5_hasSquare 19 = .ok (.iconst 0, 1) := by decide +kernel
theorem dX5_hasSquare_20 : decode cX5_hasSquare 20 = .ok (.ireturn, 1) := by decide +kernel
theorem dX5_squaresIn_0 : decode cX5_squaresIn 0 = .ok (.iload_n 0, 1) := by decide +kernel
theorem dX5_squaresIn_1 : decode cX5_squaresIn 1 = .ok (.ldc_w 284, 3) := by decide +kernel
theorem dX5_squaresIn_4 : decode cX5_squaresIn 4 = .ok (.iand, 1) := by decide +kernel
theorem dX5_squaresIn_5 : decode cX5_squaresIn 5 = .ok (.ireturn, 1) := by decide +kernel
theorem dX5_bitsOf_0 : decode cX5_bitsOf 0 = .ok (.iconst 0, 1) := by decide +kernel
theorem dX5_bitsOf_1 : decode cX5_bitsOf 1 = .ok (.istore_n 1, 1) := by decide +kernel
theorem dX5_bitsOf_2 : decode cX5_bitsOf 2 = .ok (.iconst 0, 1) := by decide +kernel
theorem dX5_bitsOf_3 : decode cX5_bitsOf 3 = .ok (.istore_n 2, 1) := by decide +kernel
theorem dX5_bitsOf_4 : decode cX5_bitsOf 4 = .ok (.iload_n 2, 1) := by decide +kernel
theorem dX5_bitsOf_5 : decode cX5_bitsOf 5 = .ok (.bipush 25, 2) := by decide +kernel
theorem dX5_bitsOf_7 : decode cX5_bitsOf 7 = .ok (.if_icmp .ge 17, 3) := by decide +kernel
theorem dX5_bitsOf_10 : decode cX5_bitsOf 10 = .ok (.iload_n 1, 1) := by decide +kernel
theorem dX5_bitsOf_11 : decode cX5_bitsOf 11 = .ok (.iload_n 0, 1) := by decide +kernel
theorem dX5_bitsOf_12 : decode cX5_bitsOf 12 = .ok (.iload_n 2, 1) := by decide +kernel
theorem dX5_bitsOf_13 : decode cX5_bitsOf 13 = .ok (.ishr, 1) := by decide +kernel
theorem dX5_bitsOf_14 : decode cX5_bitsOf 14 = .ok (.iconst 1, 1) := by decide +kernel
theorem dX5_bitsOf_15 : decode cX5_bitsOf 15 = .ok (.iand, 1) := by decide +kernel
theorem dX5_bitsOf_16 : decode cX5_bitsOf 16 = .ok (.iadd, 1) := by decide +kernel
theorem dX5_bitsOf_17 : decode cX5_bitsOf 17 = .ok (.istore_n 1, 1) := by decide +kernel
theorem dX5_bitsOf_18 : decode cX5_bitsOf 18 = .ok (.iinc 2 1, 3) := by decide +kernel
theorem dX5_bitsOf_21 : decode cX5_bitsOf 21 = .ok (.goto (-17), 3) := by decide +kernel
theorem dX5_bitsOf_24 : decode cX5_bitsOf 24 = .ok (.iload_n 1, 1) := by decide +kernel
theorem dX5_bitsOf_25 : decode cX5_bitsOf 25 = .ok (.ireturn, 1) := by decide +kernel
theorem dX5_lowestIn_0 : decode cX5_lowestIn 0 = .ok (.iconst 0, 1) := by decide +kernel
theorem dX5_lowestIn_1 : decode cX5_lowestIn 1 = .ok (.istore_n 1, 1) := by decide +kernel
theorem dX5_lowestIn_2 : decode cX5_lowestIn 2 = .ok (.iload_n 1, 1) := by decide +kernel
theorem dX5_lowestIn_3 : decode cX5_lowestIn 3 = .ok (.bipush 25, 2) := by decide +kernel
theorem dX5_lowestIn_5 : decode cX5_lowestIn 5 = .ok (.if_icmp .ge 19, 3) := by decide +kernel
theorem dX5_lowestIn_8 : decode cX5_lowestIn 8 = .ok (.iload_n 0, 1) := by decide +kernel
theorem dX5_lowestIn_9 : decode cX5_lowestIn 9 = .ok (.iload_n 1, 1) := by decide +kernel
theorem dX5_lowestIn_10 : decode cX5_lowestIn 10 = .ok (.ishr, 1) := by decide +kernel
theorem dX5_lowestIn_11 : decode cX5_lowestIn 11 = .ok (.iconst 1, 1) := by decide +kernel
theorem dX5_lowestIn_12 : decode cX5_lowestIn 12 = .ok (.iand, 1) := by decide +kernel
theorem dX5_lowestIn_13 : decode cX5_lowestIn 13 = .ok (.ifCond .eq 5, 3) := by decide +kernel
theorem dX5_lowestIn_16 : decode cX5_lowestIn 16 = .ok (.iload_n 1, 1) := by decide +kernel
theorem dX5_lowestIn_17 : decode cX5_lowestIn 17 = .ok (.ireturn, 1) := by decide +kernel
theorem dX5_lowestIn_18 : decode cX5_lowestIn 18 = .ok (.iinc 1 1, 3) := by decide +kernel
theorem dX5_lowestIn_21 : decode cX5_lowestIn 21 = .ok (.goto (-19), 3) := by decide +kernel
theorem dX5_lowestIn_24 : decode cX5_lowestIn 24 = .ok (.iconst (-1), 1) := by decide +kernel
theorem dX5_lowestIn_25 : decode cX5_lowestIn 25 = .ok (.ireturn, 1) := by decide +kernel
theorem dX5_bitsOfShare_0 : decode cX5_bitsOfShare 0 = .ok (.fload_n 0, 1) := by decide +kernel
theorem dX5_bitsOfShare_1 : decode cX5_bitsOfShare 1 = .ok (.fconst 0, 1) := by decide +kernel
theorem dX5_bitsOfShare_2 : decode cX5_bitsOfShare 2 = .ok (.fcmp .g, 1) := by decide +kernel
theorem dX5_bitsOfShare_3 : decode cX5_bitsOfShare 3 = .ok (.ifCond .gt 5, 3) := by decide +kernel
theorem dX5_bitsOfShare_6 : decode cX5_bitsOfShare 6 = .ok (.iconst 0, 1) := by decide +kernel
theorem dX5_bitsOfShare_7 : decode cX5_bitsOfShare 7 = .ok (.ireturn, 1) := by decide +kernel
theorem dX5_bitsOfShare_8 : decode cX5_bitsOfShare 8 = .ok (.fload_n 0, 1) := by decide +kernel
theorem dX5_bitsOfShare_9 : decode cX5_bitsOfShare 9 = .ok (.fstore_n 1, 1) := by decide +kernel
theorem dX5_bitsOfShare_10 : decode cX5_bitsOfShare 10 = .ok (.bipush 127, 2) := by decide +kernel
theorem dX5_bitsOfShare_12 : decode cX5_bitsOfShare 12 = .ok (.istore_n 2, 1) := by decide +kernel
theorem dX5_bitsOfShare_13 : decode cX5_bitsOfShare 13 = .ok (.iconst 0, 1) := by decide +kernel
theorem dX5_bitsOfShare_14 : decode cX5_bitsOfShare 14 = .ok (.istore_n 3, 1) := by decide +kernel
theorem dX5_bitsOfShare_15 : decode cX5_bitsOfShare 15 = .ok (.iload_n 3, 1) := by decide +kernel
theorem dX5_bitsOfShare_16 : decode cX5_bitsOfShare 16 = .ok (.iconst 5, 1) := by decide +kernel
theorem dX5_bitsOfShare_17 : decode cX5_bitsOfShare 17 = .ok (.if_icmp .ge 22, 3) := by decide +kernel
theorem dX5_bitsOfShare_20 : decode cX5_bitsOfShare 20 = .ok (.fload_n 1, 1) := by decide +kernel
theorem dX5_bitsOfShare_21 : decode cX5_bitsOfShare 21 = .ok (.fconst 1, 1) := by decide +kernel
theorem dX5_bitsOfShare_22 : decode cX5_bitsOfShare 22 = .ok (.fcmp .g, 1) := by decide +kernel
theorem dX5_bitsOfShare_23 : decode cX5_bitsOfShare 23 = .ok (.ifCond .ge 16, 3) := by decide +kernel
theorem dX5_bitsOfShare_26 : decode cX5_bitsOfShare 26 = .ok (.fload_n 1, 1) := by decide +kernel
theorem dX5_bitsOfShare_27 : decode cX5_bitsOfShare 27 = .ok (.fconst 2, 1) := by decide +kernel
theorem dX5_bitsOfShare_28 : decode cX5_bitsOfShare 28 = .ok (.fmul, 1) := by decide +kernel
theorem dX5_bitsOfShare_29 : decode cX5_bitsOfShare 29 = .ok (.fstore_n 1, 1) := by decide +kernel
theorem dX5_bitsOfShare_30 : decode cX5_bitsOfShare 30 = .ok (.iinc 2 (-1), 3) := by decide +kernel
theorem dX5_bitsOfShare_33 : decode cX5_bitsOfShare 33 = .ok (.iinc 3 1, 3) := by decide +kernel
theorem dX5_bitsOfShare_36 : decode cX5_bitsOfShare 36 = .ok (.goto (-21), 3) := by decide +kernel
theorem dX5_bitsOfShare_39 : decode cX5_bitsOfShare 39 = .ok (.iload_n 2, 1) := by decide +kernel
theorem dX5_bitsOfShare_40 : decode cX5_bitsOfShare 40 = .ok (.bipush 23, 2) := by decide +kernel
theorem dX5_bitsOfShare_42 : decode cX5_bitsOfShare 42 = .ok (.ishl, 1) := by decide +kernel
theorem dX5_bitsOfShare_43 : decode cX5_bitsOfShare 43 = .ok (.fload_n 1, 1) := by decide +kernel
theorem dX5_bitsOfShare_44 : decode cX5_bitsOfShare 44 = .ok (.fconst 1, 1) := by decide +kernel
theorem dX5_bitsOfShare_45 : decode cX5_bitsOfShare 45 = .ok (.fsub, 1) := by decide +kernel
theorem dX5_bitsOfShare_46 : decode cX5_bitsOfShare 46 = .ok (.ldc_w 285, 3) := by decide +kernel
theorem dX5_bitsOfShare_49 : decode cX5_bitsOfShare 49 = .ok (.fmul, 1) := by decide +kernel
theorem dX5_bitsOfShare_50 : decode cX5_bitsOfShare 50 = .ok (.f2i, 1) := by decide +kernel
theorem dX5_bitsOfShare_51 : decode cX5_bitsOfShare 51 = .ok (.iadd, 1) := by decide +kernel
theorem dX5_bitsOfShare_52 : decode cX5_bitsOfShare 52 = .ok (.ireturn, 1) := by decide +kernel
