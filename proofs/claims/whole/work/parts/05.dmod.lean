theorem dX6_init_0 : decode cX6_init 0 = .ok (.aload_n 0, 1) := by decide +kernel
theorem dX6_init_1 : decode cX6_init 1 = .ok (.invokespecial 3, 3) := by decide +kernel
theorem dX6_init_4 : decode cX6_init 4 = .ok (.aload_n 0, 1) := by decide +kernel
theorem dX6_init_5 : decode cX6_init 5 = .ok (.bipush 29, 2) := by decide +kernel
theorem dX6_init_7 : decode cX6_init 7 = .ok (.newarray .int, 2) := by decide +kernel
theorem dX6_init_9 : decode cX6_init 9 = .ok (.putfield 9, 3) := by decide +kernel
theorem dX6_init_12 : decode cX6_init 12 = .ok (.aload_n 0, 1) := by decide +kernel
theorem dX6_init_13 : decode cX6_init 13 = .ok (.bipush 29, 2) := by decide +kernel
theorem dX6_init_15 : decode cX6_init 15 = .ok (.newarray .int, 2) := by decide +kernel
theorem dX6_init_17 : decode cX6_init 17 = .ok (.putfield 13, 3) := by decide +kernel
theorem dX6_init_20 : decode cX6_init 20 = .ok (.aload_n 0, 1) := by decide +kernel
theorem dX6_init_21 : decode cX6_init 21 = .ok (.bipush 29, 2) := by decide +kernel
theorem dX6_init_23 : decode cX6_init 23 = .ok (.newarray .int, 2) := by decide +kernel
theorem dX6_init_25 : decode cX6_init 25 = .ok (.putfield 16, 3) := by decide +kernel
theorem dX6_init_28 : decode cX6_init 28 = .ok (.aload_n 0, 1) := by decide +kernel
theorem dX6_init_29 : decode cX6_init 29 = .ok (.sipush 232, 3) := by decide +kernel
theorem dX6_init_32 : decode cX6_init 32 = .ok (.newarray .int, 2) := by decide +kernel
theorem dX6_init_34 : decode cX6_init 34 = .ok (.putfield 19, 3) := by decide +kernel
theorem dX6_init_37 : decode cX6_init 37 = .ok (.aload_n 0, 1) := by decide +kernel
theorem dX6_init_38 : decode cX6_init 38 = .ok (.bipush (-4), 2) := by decide +kernel
theorem dX6_init_40 : decode cX6_init 40 = .ok (.putfield 22, 3) := by decide +kernel
theorem dX6_init_43 : decode cX6_init 43 = .ok (.aload_n 0, 1) := by decide +kernel
theorem dX6_init_44 : decode cX6_init 44 = .ok (.sipush 300, 3) := by decide +kernel
theorem dX6_init_47 : decode cX6_init 47 = .ok (.newarray .int, 2) := by decide +kernel
theorem dX6_init_49 : decode cX6_init 49 = .ok (.putfield 26, 3) := by decide +kernel
theorem dX6_init_52 : decode cX6_init 52 = .ok (.aload_n 0, 1) := by decide +kernel
theorem dX6_init_53 : decode cX6_init 53 = .ok (.sipush 300, 3) := by decide +kernel
theorem dX6_init_56 : decode cX6_init 56 = .ok (.newarray .int, 2) := by decide +kernel
theorem dX6_init_58 : decode cX6_init 58 = .ok (.putfield 29, 3) := by decide +kernel
theorem dX6_init_61 : decode cX6_init 61 = .ok (.aload_n 0, 1) := by decide +kernel
theorem dX6_init_62 : decode cX6_init 62 = .ok (.bipush 25, 2) := by decide +kernel
theorem dX6_init_64 : decode cX6_init 64 = .ok (.newarray .int, 2) := by decide +kernel
theorem dX6_init_66 : decode cX6_init 66 = .ok (.putfield 32, 3) := by decide +kernel
theorem dX6_init_69 : decode cX6_init 69 = .ok (.aload_n 0, 1) := by decide +kernel
theorem dX6_init_70 : decode cX6_init 70 = .ok (.bipush 40, 2) := by decide +kernel
theorem dX6_init_72 : decode cX6_init 72 = .ok (.newarray .char, 2) := by decide +kernel
theorem dX6_init_74 : decode cX6_init 74 = .ok (.putfield 35, 3) := by decide +kernel
theorem dX6_init_77 : decode cX6_init 77 = .ok (.aload_n 0, 1) := by decide +kernel
theorem dX6_init_78 : decode cX6_init 78 = .ok (.bipush 70, 2) := by decide +kernel
theorem dX6_init_80 : decode cX6_init 80 = .ok (.newarray .char, 2) := by decide +kernel
theorem dX6_init_82 : decode cX6_init 82 = .ok (.putfield 39, 3) := by decide +kernel
theorem dX6_init_85 : decode cX6_init 85 = .ok (.aload_n 0, 1) := by decide +kernel
theorem dX6_init_86 : decode cX6_init 86 = .ok (.sipush 210, 3) := by decide +kernel
theorem dX6_init_89 : decode cX6_init 89 = .ok (.newarray .int, 2) := by decide +kernel
theorem dX6_init_91 : decode cX6_init 91 = .ok (.putfield 42, 3) := by decide +kernel
theorem dX6_init_94 : decode cX6_init 94 = .ok (.return_, 1) := by decide +kernel
theorem dX6_in_0 : decode cX6_in 0 = .ok (.iload_n 0, 1) := by decide +kernel
theorem dX6_in_1 : decode cX6_in 1 = .ok (.iload_n 1, 1) := by decide +kernel
theorem dX6_in_2 : decode cX6_in 2 = .ok (.if_icmp .lt 12, 3) := by decide +kernel
theorem dX6_in_5 : decode cX6_in 5 = .ok (.iload_n 0, 1) := by decide +kernel
theorem dX6_in_6 : decode cX6_in 6 = .ok (.iload_n 2, 1) := by decide +kernel
theorem dX6_in_7 : decode cX6_in 7 = .ok (.if_icmp .gt 7, 3) := by decide +kernel
theorem dX6_in_10 : decode cX6_in 10 = .ok (.iconst 1, 1) := by decide +kernel
theorem dX6_in_11 : decode cX6_in 11 = .ok (.goto 4, 3) := by decide +kernel
theorem dX6_in_14 : decode cX6_in 14 = .ok (.iconst 0, 1) := by decide +kernel
theorem dX6_in_15 : decode cX6_in 15 = .ok (.ireturn, 1) := by decide +kernel
theorem dX6_keep_0 : decode cX6_keep 0 = .ok (.aload_n 0, 1) := by decide +kernel
theorem dX6_keep_1 : decode cX6_keep 1 = .ok (.getfield 9, 3) := by decide +kernel
theorem dX6_keep_4 : decode cX6_keep 4 = .ok (.iconst 0, 1) := by decide +kernel
theorem dX6_keep_5 : decode cX6_keep 5 = .ok (.aload_n 0, 1) := by decide +kernel
theorem dX6_keep_6 : decode cX6_keep 6 = .ok (.getfield 13, 3) := by decide +kernel
theorem dX6_keep_9 : decode cX6_keep 9 = .ok (.iconst 0, 1) := by decide +kernel
theorem dX6_keep_10 : decode cX6_keep 10 = .ok (.bipush 29, 2) := by decide +kernel
theorem dX6_keep_12 : decode cX6_keep 12 = .ok (.invokestatic 45, 3) := by decide +kernel
theorem dX6_keep_15 : decode cX6_keep 15 = .ok (.return_, 1) := by decide +kernel
theorem dX6_ends_0 : decode cX6_ends 0 = .ok (.iload_n 1, 1) := by decide +kernel
theorem dX6_ends_1 : decode cX6_ends 1 = .ok (.ifCond .ge 20, 3) := by decide +kernel
theorem dX6_ends_4 : decode cX6_ends 4 = .ok (.aload_n 0, 1) := by decide +kernel
theorem dX6_ends_5 : decode cX6_ends 5 = .ok (.getfield 13, 3) := by decide +kernel
theorem dX6_ends_8 : decode cX6_ends 8 = .ok (.iconst 0, 1) := by decide +kernel
theorem dX6_ends_9 : decode cX6_ends 9 = .ok (.aload_n 0, 1) := by decide +kernel
theorem dX6_ends_10 : decode cX6_ends 10 = .ok (.getfield 9, 3) := by decide +kernel
theorem dX6_ends_13 : decode cX6_ends 13 = .ok (.iconst 0, 1) := by decide +kernel
theorem dX6_ends_14 : decode cX6_ends 14 = .ok (.bipush 29, 2) := by decide +kernel
theorem dX6_ends_16 : decode cX6_ends 16 = .ok (.invokestatic 45, 3) := by decide +kernel
theorem dX6_ends_19 : decode cX6_ends 19 = .ok (.iload_n 1, 1) := by decide +kernel
theorem dX6_ends_20 : decode cX6_ends 20 = .ok (.ireturn, 1) := by decide +kernel
theorem dX6_ends_21 : decode cX6_ends 21 = .ok (.aload_n 0, 1) := by decide +kernel
theorem dX6_ends_22 : decode cX6_ends 22 = .ok (.getfield 51, 3) := by decide +kernel
theorem dX6_ends_25 : decode cX6_ends 25 = .ok (.bipush 8, 2) := by decide +kernel
theorem dX6_ends_27 : decode cX6_ends 27 = .ok (.if_icmp .ne 30, 3) := by decide +kernel
theorem dX6_ends_30 : decode cX6_ends 30 = .ok (.aload_n 0, 1) := by decide +kernel
theorem dX6_ends_31 : decode cX6_ends 31 = .ok (.getfield 19, 3) := by decide +kernel
theorem dX6_ends_34 : decode cX6_ends 34 = .ok (.bipush 29, 2) := by decide +kernel
theorem dX6_ends_36 : decode cX6_ends 36 = .ok (.aload_n 0, 1) := by decide +kernel
theorem dX6_ends_37 : decode cX6_ends 37 = .ok (.getfield 19, 3) := by decide +kernel
theorem dX6_ends_40 : decode cX6_ends 40 = .ok (.iconst 0, 1) := by decide +kernel
theorem dX6_ends_41 : decode cX6_ends 41 = .ok (.sipush 203, 3) := by decide +kernel
theorem dX6_ends_44 : decode cX6_ends 44 = .ok (.invokestatic 45, 3) := by decide +kernel
theorem dX6_ends_47 : decode cX6_ends 47 = .ok (.aload_n 0, 1) := by decide +kernel
theorem dX6_ends_48 : decode cX6_ends 48 = .ok (.dup, 1) := by decide +kernel
theorem dX6_ends_49 : decode cX6_ends 49 = .ok (.getfield 51, 3) := by decide +kernel
theorem dX6_ends_52 : decode cX6_ends 52 = .ok (.iconst 1, 1) := by decide +kernel
theorem dX6_ends_53 : decode cX6_ends 53 = .ok (.isub, 1) := by decide +kernel
theorem dX6_ends_54 : decode cX6_ends 54 = .ok (.putfield 51, 3) := by decide +kernel
theorem dX6_ends_57 : decode cX6_ends 57 = .ok (.aload_n 0, 1) := by decide +kernel
theorem dX6_ends_58 : decode cX6_ends 58 = .ok (.getfield 13, 3) := by decide +kernel
theorem dX6_ends_61 : decode cX6_ends 61 = .ok (.iconst 0, 1) := by decide +kernel
theorem dX6_ends_62 : decode cX6_ends 62 = .ok (.aload_n 0, 1) := by decide +kernel
theorem dX6_ends_63 : decode cX6_ends 63 = .ok (.getfield 19, 3) := by decide +kernel
theorem dX6_ends_66 : decode cX6_ends 66 = .ok (.bipush 29, 2) := by decide +kernel
theorem dX6_ends_68 : decode cX6_ends 68 = .ok (.aload_n 0, 1) := by decide +kernel
theorem dX6_ends_69 : decode cX6_ends 69 = .ok (.getfield 51, 3) := by decide +kernel
theorem dX6_ends_72 : decode cX6_ends 72 = .ok (.imul, 1) := by decide +kernel
theorem dX6_ends_73 : decode cX6_ends 73 = .ok (.bipush 29, 2) := by decide +kernel
theorem dX6_ends_75 : decode cX6_ends 75 = .ok (.invokestatic 45, 3) := by decide +kernel
theorem dX6_ends_78 : decode cX6_ends 78 = .ok (.aload_n 0, 1) := by decide +kernel
theorem dX6_ends_79 : decode cX6_ends 79 = .ok (.dup, 1) := by decide +kernel
theorem dX6_ends_80 : decode cX6_ends 80 = .ok (.getfield 51, 3) := by decide +kernel
theorem dX6_ends_83 : decode cX6_ends 83 = .ok (.iconst 1, 1) := by decide +kernel
theorem dX6_ends_84 : decode cX6_ends 84 = .ok (.iadd, 1) := by decide +kernel
theorem dX6_ends_85 : decode cX6_ends 85 = .ok (.putfield 51, 3) := by decide +kernel
theorem dX6_ends_88 : decode cX6_ends 88 = .ok (.iload_n 1, 1) := by decide +kernel
theorem dX6_ends_89 : decode cX6_ends 89 = .ok (.ireturn, 1) := by decide +kernel
theorem dX6_refuse_0 : decode cX6_refuse 0 = .ok (.aload_n 0, 1) := by decide +kernel
theorem dX6_refuse_1 : decode cX6_refuse 1 = .ok (.iload_n 1, 1) := by decide +kernel
theorem dX6_refuse_2 : decode cX6_refuse 2 = .ok (.putfield 54, 3) := by decide +kernel
theorem dX6_refuse_5 : decode cX6_refuse 5 = .ok (.aload_n 0, 1) := by decide +kernel
theorem dX6_refuse_6 : decode cX6_refuse 6 = .ok (.iload_n 2, 1) := by decide +kernel
theorem dX6_refuse_7 : decode cX6_refuse 7 = .ok (.putfield 57, 3) := by decide +kernel
theorem dX6_refuse_10 : decode cX6_refuse 10 = .ok (.aload_n 0, 1) := by decide +kernel
theorem dX6_refuse_11 : decode cX6_refuse 11 = .ok (.bipush (-4), 2) := by decide +kernel
theorem dX6_refuse_13 : decode cX6_refuse 13 = .ok (.putfield 22, 3) := by decide +kernel
theorem dX6_refuse_16 : decode cX6_refuse 16 = .ok (.bipush (-3), 2) := by decide +kernel
theorem dX6_refuse_18 : decode cX6_refuse 18 = .ok (.ireturn, 1) := by decide +kernel
theorem dX6_refusal_0 : decode cX6_refusal 0 = .ok (.iload_n 1, 1) := by decide +kernel
theorem dX6_refusal_1 : decode cX6_refusal 1 = .ok (.iconst 0, 1) := by decide +kernel
theorem dX6_refusal_2 : decode cX6_refusal 2 = .ok (.iconst 2, 1) := by decide +kernel
theorem dX6_refusal_3 : decode cX6_refusal 3 = .ok (.invokestatic 60, 3) := by decide +kernel
theorem dX6_refusal_6 : decode cX6_refusal 6 = .ok (.ifCond .ne 6, 3) := by decide +kernel
theorem dX6_refusal_9 : decode cX6_refusal 9 = .ok (.bipush (-2), 2) := by decide +kernel
theorem dX6_refusal_11 : decode cX6_refusal 11 = .ok (.ireturn, 1) := by decide +kernel
theorem dX6_refusal_12 : decode cX6_refusal 12 = .ok (.aload_n 0, 1) := by decide +kernel
theorem dX6_refusal_13 : decode cX6_refusal 13 = .ok (.getfield 54, 3) := by decide +kernel
theorem dX6_refusal_16 : decode cX6_refusal 16 = .ok (.ifCond .ne 8, 3) := by decide +kernel
theorem dX6_refusal_19 : decode cX6_refusal 19 = .ok (.bipush (-4), 2) := by decide +kernel
theorem dX6_refusal_21 : decode cX6_refusal 21 = .ok (.goto 30, 3) := by decide +kernel
theorem dX6_refusal_24 : decode cX6_refusal 24 = .ok (.iload_n 1, 1) := by decide +kernel
theorem dX6_refusal_25 : decode cX6_refusal 25 = .ok (.ifCond .ne 10, 3) := by decide +kernel
theorem dX6_refusal_28 : decode cX6_refusal 28 = .ok (.aload_n 0, 1) := by decide +kernel
theorem dX6_refusal_29 : decode cX6_refusal 29 = .ok (.getfield 54, 3) := by decide +kernel
theorem dX6_refusal_32 : decode cX6_refusal 32 = .ok (.goto 19, 3) := by decide +kernel
theorem dX6_refusal_35 : decode cX6_refusal 35 = .ok (.iload_n 1, 1) := by decide +kernel
theorem dX6_refusal_36 : decode cX6_refusal 36 = .ok (.iconst 1, 1) := by decide +kernel
theorem dX6_refusal_37 : decode cX6_refusal 37 = .ok (.if_icmp .ne 10, 3) := by decide +kernel
theorem dX6_refusal_40 : decode cX6_refusal 40 = .ok (.aload_n 0, 1) := by decide +kernel
theorem dX6_refusal_41 : decode cX6_refusal 41 = .ok (.getfield 57, 3) := by decide +kernel
theorem dX6_refusal_44 : decode cX6_refusal 44 = .ok (.goto 7, 3) := by decide +kernel
theorem dX6_refusal_47 : decode cX6_refusal 47 = .ok (.aload_n 0, 1) := by decide +kernel
theorem dX6_refusal_48 : decode cX6_refusal 48 = .ok (.getfield 22, 3) := by decide +kernel
theorem dX6_refusal_51 : decode cX6_refusal 51 = .ok (.ireturn, 1) := by decide +kernel
theorem dX6_isSquare_0 : decode cX6_isSquare 0 = .ok (.iload_n 0, 1) := by decide +kernel
theorem dX6_isSquare_1 : decode cX6_isSquare 1 = .ok (.iconst 0, 1) := by decide +kernel
theorem dX6_isSquare_2 : decode cX6_isSquare 2 = .ok (.bipush 24, 2) := by decide +kernel
theorem dX6_isSquare_4 : decode cX6_isSquare 4 = .ok (.invokestatic 60, 3) := by decide +kernel
theorem dX6_isSquare_7 : decode cX6_isSquare 7 = .ok (.ireturn, 1) := by decide +kernel
theorem dX6_isWhite_0 : decode cX6_isWhite 0 = .ok (.iload_n 0, 1) := by decide +kernel
theorem dX6_isWhite_1 : decode cX6_isWhite 1 = .ok (.iconst 1, 1) := by decide +kernel
theorem dX6_isWhite_2 : decode cX6_isWhite 2 = .ok (.iconst 5, 1) := by decide +kernel
theorem dX6_isWhite_3 : decode cX6_isWhite 3 = .ok (.invokestatic 60, 3) := by decide +kernel
theorem dX6_isWhite_6 : decode cX6_isWhite 6 = .ok (.ireturn, 1) := by decide +kernel
theorem dX6_where_0 : decode cX6_where 0 = .ok (.iconst (-1), 1) := by decide +kernel
theorem dX6_where_1 : decode cX6_where 1 = .ok (.istore_n 2, 1) := by decide +kernel
theorem dX6_where_2 : decode cX6_where 2 = .ok (.iconst 0, 1) := by decide +kernel
theorem dX6_where_3 : decode cX6_where 3 = .ok (.istore_n 3, 1) := by decide +kernel
theorem dX6_where_4 : decode cX6_where 4 = .ok (.iload_n 3, 1) := by decide +kernel
theorem dX6_where_5 : decode cX6_where 5 = .ok (.bipush 25, 2) := by decide +kernel
theorem dX6_where_7 : decode cX6_where 7 = .ok (.if_icmp .ge 25, 3) := by decide +kernel
theorem dX6_where_10 : decode cX6_where 10 = .ok (.aload_n 0, 1) := by decide +kernel
theorem dX6_where_11 : decode cX6_where 11 = .ok (.getfield 9, 3) := by decide +kernel
theorem dX6_where_14 : decode cX6_where 14 = .ok (.iload_n 3, 1) := by decide +kernel
theorem dX6_where_15 : decode cX6_where 15 = .ok (.iaload, 1) := by decide +kernel
theorem dX6_where_16 : decode cX6_where 16 = .ok (.iload_n 1, 1) := by decide +kernel
theorem dX6_where_17 : decode cX6_where 17 = .ok (.if_icmp .ne 7, 3) := by decide +kernel
theorem dX6_where_20 : decode cX6_where 20 = .ok (.iload_n 3, 1) := by decide +kernel
theorem dX6_where_21 : decode cX6_where 21 = .ok (.goto 4, 3) := by decide +kernel
theorem dX6_where_24 : decode cX6_where 24 = .ok (.iload_n 2, 1) := by decide +kernel
theorem dX6_where_25 : decode cX6_where 25 = .ok (.istore_n 2, 1) := by decide +kernel
theorem dX6_where_26 : decode cX6_where 26 = .ok (.iinc 3 1, 3) := by decide +kernel
theorem dX6_where_29 : decode cX6_where 29 = .ok (.goto (-25), 3) := by decide +kernel
theorem dX6_where_32 : decode cX6_where 32 = .ok (.iload_n 2, 1) := by decide +kernel
theorem dX6_where_33 : decode cX6_where 33 = .ok (.ireturn, 1) := by decide +kernel
theorem dX6_men_0 : decode cX6_men 0 = .ok (.iconst 0, 1) := by decide +kernel
theorem dX6_men_1 : decode cX6_men 1 = .ok (.istore_n 1, 1) := by decide +kernel
theorem dX6_men_2 : decode cX6_men 2 = .ok (.iconst 0, 1) := by decide +kernel
theorem dX6_men_3 : decode cX6_men 3 = .ok (.istore_n 2, 1) := by decide +kernel
theorem dX6_men_4 : decode cX6_men 4 = .ok (.iload_n 2, 1) := by decide +kernel
theorem dX6_men_5 : decode cX6_men 5 = .ok (.bipush 25, 2) := by decide +kernel
theorem dX6_men_7 : decode cX6_men 7 = .ok (.if_icmp .ge 26, 3) := by decide +kernel
theorem dX6_men_10 : decode cX6_men 10 = .ok (.iload_n 1, 1) := by decide +kernel
theorem dX6_men_11 : decode cX6_men 11 = .ok (.aload_n 0, 1) := by decide +kernel
theorem dX6_men_12 : decode cX6_men 12 = .ok (.getfield 9, 3) := by decide +kernel
theorem dX6_men_15 : decode cX6_men 15 = .ok (.iload_n 2, 1) := by decide +kernel
theorem dX6_men_16 : decode cX6_men 16 = .ok (.iaload, 1) := by decide +kernel
theorem dX6_men_17 : decode cX6_men 17 = .ok (.ifCond .le 7, 3) := by decide +kernel
theorem dX6_men_20 : decode cX6_men 20 = .ok (.iconst 1, 1) := by decide +kernel
theorem dX6_men_21 : decode cX6_men 21 = .ok (.goto 4, 3) := by decide +kernel
theorem dX6_men_24 : decode cX6_men 24 = .ok (.iconst 0, 1) := by decide +kernel
theorem dX6_men_25 : decode cX6_men 25 = .ok (.iadd, 1) := by decide +kernel
theorem dX6_men_26 : decode cX6_men 26 = .ok (.istore_n 1, 1) := by decide +kernel
theorem dX6_men_27 : decode cX6_men 27 = .ok (.iinc 2 1, 3) := by decide +kernel
theorem dX6_men_30 : decode cX6_men 30 = .ok (.goto (-26), 3) := by decide +kernel
theorem dX6_men_33 : decode cX6_men 33 = .ok (.iload_n 1, 1) := by decide +kernel
theorem dX6_men_34 : decode cX6_men 34 = .ok (.ireturn, 1) := by decide +kernel
theorem dX6_doPut_0 : decode cX6_doPut 0 = .ok (.iload_n 2, 1) := by decide +kernel
theorem dX6_doPut_1 : decode cX6_doPut 1 = .ok (.invokestatic 64, 3) := by decide +kernel
theorem dX6_doPut_4 : decode cX6_doPut 4 = .ok (.ifCond .ne 5, 3) := by decide +kernel
theorem dX6_doPut_7 : decode cX6_doPut 7 = .ok (.iconst (-1), 1) := by decide +kernel
theorem dX6_doPut_8 : decode cX6_doPut 8 = .ok (.ireturn, 1) := by decide +kernel
theorem dX6_doPut_9 : decode cX6_doPut 9 = .ok (.iload_n 1, 1) := by decide +kernel
theorem dX6_doPut_10 : decode cX6_doPut 10 = .ok (.iconst 1, 1) := by decide +kernel
theorem dX6_doPut_11 : decode cX6_doPut 11 = .ok (.bipush 7, 2) := by decide +kernel
theorem dX6_doPut_13 : decode cX6_doPut 13 = .ok (.invokestatic 60, 3) := by decide +kernel
theorem dX6_doPut_16 : decode cX6_doPut 16 = .ok (.ifCond .ne 6, 3) := by decide +kernel
theorem dX6_doPut_19 : decode cX6_doPut 19 = .ok (.bipush (-2), 2) := by decide +kernel
theorem dX6_doPut_21 : decode cX6_doPut 21 = .ok (.ireturn, 1) := by decide +kernel
theorem dX6_doPut_22 : decode cX6_doPut 22 = .ok (.aload_n 0, 1) := by decide +kernel
theorem dX6_doPut_23 : decode cX6_doPut 23 = .ok (.getfield 9, 3) := by decide +kernel
theorem dX6_doPut_26 : decode cX6_doPut 26 = .ok (.iload_n 2, 1) := by decide +kernel
theorem dX6_doPut_27 : decode cX6_doPut 27 = .ok (.iaload, 1) := by decide +kernel
theorem dX6_doPut_28 : decode cX6_doPut 28 = .ok (.ifCond .le 15, 3) := by decide +kernel
theorem dX6_doPut_31 : decode cX6_doPut 31 = .ok (.aload_n 0, 1) := by decide +kernel
theorem dX6_doPut_32 : decode cX6_doPut 32 = .ok (.iconst 1, 1) := by decide +kernel
theorem dX6_doPut_33 : decode cX6_doPut 33 = .ok (.aload_n 0, 1) := by decide +kernel
theorem dX6_doPut_34 : decode cX6_doPut 34 = .ok (.getfield 9, 3) := by decide +kernel
theorem dX6_doPut_37 : decode cX6_doPut 37 = .ok (.iload_n 2, 1) := by decide +kernel
theorem dX6_doPut_38 : decode cX6_doPut 38 = .ok (.iaload, 1) := by decide +kernel
theorem dX6_doPut_39 : decode cX6_doPut 39 = .ok (.invokevirtual 68, 3) := by decide +kernel
theorem dX6_doPut_42 : decode cX6_doPut 42 = .ok (.ireturn, 1) := by decide +kernel
theorem dX6_doPut_43 : decode cX6_doPut 43 = .ok (.iload_n 1, 1) := by decide +kernel
theorem dX6_doPut_44 : decode cX6_doPut 44 = .ok (.iconst 1, 1) := by decide +kernel
theorem dX6_doPut_45 : decode cX6_doPut 45 = .ok (.if_icmp .eq 9, 3) := by decide +kernel
theorem dX6_doPut_48 : decode cX6_doPut 48 = .ok (.iload_n 1, 1) := by decide +kernel
theorem dX6_doPut_49 : decode cX6_doPut 49 = .ok (.bipush 7, 2) := by decide +kernel
theorem dX6_doPut_51 : decode cX6_doPut 51 = .ok (.if_icmp .ne 22, 3) := by decide +kernel
theorem dX6_doPut_54 : decode cX6_doPut 54 = .ok (.aload_n 0, 1) := by decide +kernel
theorem dX6_doPut_55 : decode cX6_doPut 55 = .ok (.iload_n 1, 1) := by decide +kernel
theorem dX6_doPut_56 : decode cX6_doPut 56 = .ok (.invokevirtual 72, 3) := by decide +kernel
theorem dX6_doPut_59 : decode cX6_doPut 59 = .ok (.ifCond .lt 14, 3) := by decide +kernel
theorem dX6_doPut_62 : decode cX6_doPut 62 = .ok (.aload_n 0, 1) := by decide +kernel
theorem dX6_doPut_63 : decode cX6_doPut 63 = .ok (.iconst 2, 1) := by decide +kernel
theorem dX6_doPut_64 : decode cX6_doPut 64 = .ok (.aload_n 0, 1) := by decide +kernel
theorem dX6_doPut_65 : decode cX6_doPut 65 = .ok (.iload_n 1, 1) := by decide +kernel
theorem dX6_doPut_66 : decode cX6_doPut 66 = .ok (.invokevirtual 72, 3) := by decide +kernel
theorem dX6_doPut_69 : decode cX6_doPut 69 = .ok (.invokevirtual 68, 3) := by decide +kernel
theorem dX6_doPut_72 : decode cX6_doPut 72 = .ok (.ireturn, 1) := by decide +kernel
theorem dX6_doPut_73 : decode cX6_doPut 73 = .ok (.aload_n 0, 1) := by decide +kernel
theorem dX6_doPut_74 : decode cX6_doPut 74 = .ok (.invokevirtual 76, 3) := by decide +kernel
theorem dX6_doPut_77 : decode cX6_doPut 77 = .ok (.bipush 12, 2) := by decide +kernel
theorem dX6_doPut_79 : decode cX6_doPut 79 = .ok (.if_icmp .ne 11, 3) := by decide +kernel
theorem dX6_doPut_82 : decode cX6_doPut 82 = .ok (.aload_n 0, 1) := by decide +kernel
theorem dX6_doPut_83 : decode cX6_doPut 83 = .ok (.iconst 3, 1) := by decide +kernel
theorem dX6_doPut_84 : decode cX6_doPut 84 = .ok (.bipush 12, 2) := by decide +kernel
theorem dX6_doPut_86 : decode cX6_doPut 86 = .ok (.invokevirtual 68, 3) := by decide +kernel
theorem dX6_doPut_89 : decode cX6_doPut 89 = .ok (.ireturn, 1) := by decide +kernel
theorem dX6_doPut_90 : decode cX6_doPut 90 = .ok (.aload_n 0, 1) := by decide +kernel
theorem dX6_doPut_91 : decode cX6_doPut 91 = .ok (.getfield 9, 3) := by decide +kernel
theorem dX6_doPut_94 : decode cX6_doPut 94 = .ok (.iload_n 2, 1) := by decide +kernel
theorem dX6_doPut_95 : decode cX6_doPut 95 = .ok (.iload_n 1, 1) := by decide +kernel
theorem dX6_doPut_96 : decode cX6_doPut 96 = .ok (.iastore, 1) := by decide +kernel
theorem dX6_doPut_97 : decode cX6_doPut 97 = .ok (.aload_n 0, 1) := by decide +kernel
theorem dX6_doPut_98 : decode cX6_doPut 98 = .ok (.invokevirtual 76, 3) := by decide +kernel
theorem dX6_doPut_101 : decode cX6_doPut 101 = .ok (.ireturn, 1) := by decide +kernel
theorem dX6_put_0 : decode cX6_put 0 = .ok (.aload_n 0, 1) := by decide +kernel
theorem dX6_put_1 : decode cX6_put 1 = .ok (.invokevirtual 80, 3) := by decide +kernel
theorem dX6_put_4 : decode cX6_put 4 = .ok (.aload_n 0, 1) := by decide +kernel
theorem dX6_put_5 : decode cX6_put 5 = .ok (.aload_n 0, 1) := by decide +kernel
theorem dX6_put_6 : decode cX6_put 6 = .ok (.iload_n 1, 1) := by decide +kernel
theorem dX6_put_7 : decode cX6_put 7 = .ok (.iload_n 2, 1) := by decide +kernel
theorem dX6_put_8 : decode cX6_put 8 = .ok (.invokevirtual 83, 3) := by decide +kernel
theorem dX6_put_11 : decode cX6_put 11 = .ok (.invokevirtual 86, 3) := by decide +kernel
theorem dX6_put_14 : decode cX6_put 14 = .ok (.ireturn, 1) := by decide +kernel
theorem dX6_doLift_0 : decode cX6_doLift 0 = .ok (.iload_n 1, 1) := by decide +kernel
theorem dX6_doLift_1 : decode cX6_doLift 1 = .ok (.invokestatic 64, 3) := by decide +kernel
theorem dX6_doLift_4 : decode cX6_doLift 4 = .ok (.ifCond .ne 5, 3) := by decide +kernel
theorem dX6_doLift_7 : decode cX6_doLift 7 = .ok (.iconst (-1), 1) := by decide +kernel
theorem dX6_doLift_8 : decode cX6_doLift 8 = .ok (.ireturn, 1) := by decide +kernel
theorem dX6_doLift_9 : decode cX6_doLift 9 = .ok (.aload_n 0, 1) := by decide +kernel
theorem dX6_doLift_10 : decode cX6_doLift 10 = .ok (.getfield 9, 3) := by decide +kernel
theorem dX6_doLift_13 : decode cX6_doLift 13 = .ok (.iload_n 1, 1) := by decide +kernel
theorem dX6_doLift_14 : decode cX6_doLift 14 = .ok (.iaload, 1) := by decide +kernel
theorem dX6_doLift_15 : decode cX6_doLift 15 = .ok (.istore_n 2, 1) := by decide +kernel
theorem dX6_doLift_16 : decode cX6_doLift 16 = .ok (.iload_n 2, 1) := by decide +kernel
theorem dX6_doLift_17 : decode cX6_doLift 17 = .ok (.ifCond .ne 10, 3) := by decide +kernel
theorem dX6_doLift_20 : decode cX6_doLift 20 = .ok (.aload_n 0, 1) := by decide +kernel
theorem dX6_doLift_21 : decode cX6_doLift 21 = .ok (.iconst 4, 1) := by decide +kernel
theorem dX6_doLift_22 : decode cX6_doLift 22 = .ok (.iload_n 1, 1) := by decide +kernel
theorem dX6_doLift_23 : decode cX6_doLift 23 = .ok (.invokevirtual 68, 3) := by decide +kernel
theorem dX6_doLift_26 : decode cX6_doLift 26 = .ok (.ireturn, 1) := by decide +kernel
theorem dX6_doLift_27 : decode cX6_doLift 27 = .ok (.aload_n 0, 1) := by decide +kernel
theorem dX6_doLift_28 : decode cX6_doLift 28 = .ok (.getfield 9, 3) := by decide +kernel
theorem dX6_doLift_31 : decode cX6_doLift 31 = .ok (.iload_n 1, 1) := by decide +kernel
theorem dX6_doLift_32 : decode cX6_doLift 32 = .ok (.iconst 0, 1) := by decide +kernel
theorem dX6_doLift_33 : decode cX6_doLift 33 = .ok (.iastore, 1) := by decide +kernel
theorem dX6_doLift_34 : decode cX6_doLift 34 = .ok (.iload_n 2, 1) := by decide +kernel
theorem dX6_doLift_35 : decode cX6_doLift 35 = .ok (.ireturn, 1) := by decide +kernel
theorem dX6_lift_0 : decode cX6_lift 0 = .ok (.aload_n 0, 1) := by decide +kernel
theorem dX6_lift_1 : decode cX6_lift 1 = .ok (.invokevirtual 80, 3) := by decide +kernel
theorem dX6_lift_4 : decode cX6_lift 4 = .ok (.aload_n 0, 1) := by decide +kernel
theorem dX6_lift_5 : decode cX6_lift 5 = .ok (.aload_n 0, 1) := by decide +kernel
theorem dX6_lift_6 : decode cX6_lift 6 = .ok (.iload_n 1, 1) := by decide +kernel
theorem dX6_lift_7 : decode cX6_lift 7 = .ok (.invokevirtual 89, 3) := by decide +kernel
theorem dX6_lift_10 : decode cX6_lift 10 = .ok (.invokevirtual 86, 3) := by decide +kernel
theorem dX6_lift_13 : decode cX6_lift 13 = .ok (.ireturn, 1) := by decide +kernel
theorem dX6_at_0 : decode cX6_at 0 = .ok (.iload_n 1, 1) := by decide +kernel
theorem dX6_at_1 : decode cX6_at 1 = .ok (.invokestatic 64, 3) := by decide +kernel
theorem dX6_at_4 : decode cX6_at 4 = .ok (.ifCond .eq 12, 3) := by decide +kernel
theorem dX6_at_7 : decode cX6_at 7 = .ok (.aload_n 0, 1) := by decide +kernel
theorem dX6_at_8 : decode cX6_at 8 = .ok (.getfield 9, 3) := by decide +kernel
theorem dX6_at_11 : decode cX6_at 11 = .ok (.iload_n 1, 1) := by decide +kernel
theorem dX6_at_12 : decode cX6_at 12 = .ok (.iaload, 1) := by decide +kernel
theorem dX6_at_13 : decode cX6_at 13 = .ok (.goto 4, 3) := by decide +kernel
theorem dX6_at_16 : decode cX6_at 16 = .ok (.iconst (-1), 1) := by decide +kernel
theorem dX6_at_17 : decode cX6_at 17 = .ok (.ireturn, 1) := by decide +kernel
theorem dX6_away_0 : decode cX6_away 0 = .ok (.iload_n 1, 1) := by decide +kernel
theorem dX6_away_1 : decode cX6_away 1 = .ok (.iconst 5, 1) := by decide +kernel
theorem dX6_away_2 : decode cX6_away 2 = .ok (.irem, 1) := by decide +kernel
theorem dX6_away_3 : decode cX6_away 3 = .ok (.iload_n 2, 1) := by decide +kernel
theorem dX6_away_4 : decode cX6_away 4 = .ok (.iadd, 1) := by decide +kernel
theorem dX6_away_5 : decode cX6_away 5 = .ok (.istore 4, 2) := by decide +kernel
theorem dX6_away_7 : decode cX6_away 7 = .ok (.iload_n 1, 1) := by decide +kernel
theorem dX6_away_8 : decode cX6_away 8 = .ok (.iconst 5, 1) := by decide +kernel
theorem dX6_away_9 : decode cX6_away 9 = .ok (.idiv, 1) := by decide +kernel
theorem dX6_away_10 : decode cX6_away 10 = .ok (.iload_n 3, 1) := by decide +kernel
theorem dX6_away_11 : decode cX6_away 11 = .ok (.iadd, 1) := by decide +kernel
theorem dX6_away_12 : decode cX6_away 12 = .ok (.istore 5, 2) := by decide +kernel
theorem dX6_away_14 : decode cX6_away 14 = .ok (.iload 4, 2) := by decide +kernel
theorem dX6_away_16 : decode cX6_away 16 = .ok (.iconst 0, 1) := by decide +kernel
theorem dX6_away_17 : decode cX6_away 17 = .ok (.iconst 4, 1) := by decide +kernel
theorem dX6_away_18 : decode cX6_away 18 = .ok (.invokestatic 60, 3) := by decide +kernel
theorem dX6_away_21 : decode cX6_away 21 = .ok (.ifCond .eq 28, 3) := by decide +kernel
theorem dX6_away_24 : decode cX6_away 24 = .ok (.iload 5, 2) := by decide +kernel
theorem dX6_away_26 : decode cX6_away 26 = .ok (.iconst 0, 1) := by decide +kernel
theorem dX6_away_27 : decode cX6_away 27 = .ok (.iconst 4, 1) := by decide +kernel
theorem dX6_away_28 : decode cX6_away 28 = .ok (.invokestatic 60, 3) := by decide +kernel
theorem dX6_away_31 : decode cX6_away 31 = .ok (.ifCond .eq 18, 3) := by decide +kernel
theorem dX6_away_34 : decode cX6_away 34 = .ok (.aload_n 0, 1) := by decide +kernel
theorem dX6_away_35 : decode cX6_away 35 = .ok (.getfield 9, 3) := by decide +kernel
theorem dX6_away_38 : decode cX6_away 38 = .ok (.iconst 5, 1) := by decide +kernel
theorem dX6_away_39 : decode cX6_away 39 = .ok (.iload 5, 2) := by decide +kernel
theorem dX6_away_41 : decode cX6_away 41 = .ok (.imul, 1) := by decide +kernel
theorem dX6_away_42 : decode cX6_away 42 = .ok (.iload 4, 2) := by decide +kernel
theorem dX6_away_44 : decode cX6_away 44 = .ok (.iadd, 1) := by decide +kernel
theorem dX6_away_45 : decode cX6_away 45 = .ok (.iaload, 1) := by decide +kernel
theorem dX6_away_46 : decode cX6_away 46 = .ok (.goto 4, 3) := by decide +kernel
theorem dX6_away_49 : decode cX6_away 49 = .ok (.iconst (-1), 1) := by decide +kernel
theorem dX6_away_50 : decode cX6_away 50 = .ok (.ireturn, 1) := by decide +kernel
theorem dX6_firstAt_0 : decode cX6_firstAt 0 = .ok (.iconst 1, 1) := by decide +kernel
theorem dX6_firstAt_1 : decode cX6_firstAt 1 = .ok (.istore 4, 2) := by decide +kernel
theorem dX6_firstAt_3 : decode cX6_firstAt 3 = .ok (.aload_n 0, 1) := by decide +kernel
theorem dX6_firstAt_4 : decode cX6_firstAt 4 = .ok (.iload_n 1, 1) := by decide +kernel
theorem dX6_firstAt_5 : decode cX6_firstAt 5 = .ok (.iload 4, 2) := by decide +kernel
theorem dX6_firstAt_7 : decode cX6_firstAt 7 = .ok (.iload_n 2, 1) := by decide +kernel
theorem dX6_firstAt_8 : decode cX6_firstAt 8 = .ok (.imul, 1) := by decide +kernel
theorem dX6_firstAt_9 : decode cX6_firstAt 9 = .ok (.iload 4, 2) := by decide +kernel
theorem dX6_firstAt_11 : decode cX6_firstAt 11 = .ok (.iload_n 3, 1) := by decide +kernel
theorem dX6_firstAt_12 : decode cX6_firstAt 12 = .ok (.imul, 1) := by decide +kernel
theorem dX6_firstAt_13 : decode cX6_firstAt 13 = .ok (.invokevirtual 92, 3) := by decide +kernel
theorem dX6_firstAt_16 : decode cX6_firstAt 16 = .ok (.ifCond .ne 9, 3) := by decide +kernel
theorem dX6_firstAt_19 : decode cX6_firstAt 19 = .ok (.iinc 4 1, 3) := by decide +kernel
theorem dX6_firstAt_22 : decode cX6_firstAt 22 = .ok (.goto (-19), 3) := by decide +kernel
theorem dX6_firstAt_25 : decode cX6_firstAt 25 = .ok (.aload_n 0, 1) := by decide +kernel
theorem dX6_firstAt_26 : decode cX6_firstAt 26 = .ok (.iload_n 1, 1) := by decide +kernel
theorem dX6_firstAt_27 : decode cX6_firstAt 27 = .ok (.iload 4, 2) := by decide +kernel
theorem dX6_firstAt_29 : decode cX6_firstAt 29 = .ok (.iload_n 2, 1) := by decide +kernel
theorem dX6_firstAt_30 : decode cX6_firstAt 30 = .ok (.imul, 1) := by decide +kernel
theorem dX6_firstAt_31 : decode cX6_firstAt 31 = .ok (.iload 4, 2) := by decide +kernel
theorem dX6_firstAt_33 : decode cX6_firstAt 33 = .ok (.iload_n 3, 1) := by decide +kernel
theorem dX6_firstAt_34 : decode cX6_firstAt 34 = .ok (.imul, 1) := by decide +kernel
theorem dX6_firstAt_35 : decode cX6_firstAt 35 = .ok (.invokevirtual 92, 3) := by decide +kernel
theorem dX6_firstAt_38 : decode cX6_firstAt 38 = .ok (.ifCond .le 8, 3) := by decide +kernel
theorem dX6_firstAt_41 : decode cX6_firstAt 41 = .ok (.iload 4, 2) := by decide +kernel
theorem dX6_firstAt_43 : decode cX6_firstAt 43 = .ok (.goto 4, 3) := by decide +kernel
theorem dX6_firstAt_46 : decode cX6_firstAt 46 = .ok (.iconst 0, 1) := by decide +kernel
theorem dX6_firstAt_47 : decode cX6_firstAt 47 = .ok (.ireturn, 1) := by decide +kernel
theorem dX6_attackersOf_0 : decode cX6_attackersOf 0 = .ok (.iconst 0, 1) := by decide +kernel
theorem dX6_attackersOf_1 : decode cX6_attackersOf 1 = .ok (.istore_n 2, 1) := by decide +kernel
theorem dX6_attackersOf_2 : decode cX6_attackersOf 2 = .ok (.bipush (-2), 2) := by decide +kernel
theorem dX6_attackersOf_4 : decode cX6_attackersOf 4 = .ok (.istore_n 3, 1) := by decide +kernel
theorem dX6_attackersOf_5 : decode cX6_attackersOf 5 = .ok (.iload_n 3, 1) := by decide +kernel
theorem dX6_attackersOf_6 : decode cX6_attackersOf 6 = .ok (.iconst 2, 1) := by decide +kernel
theorem dX6_attackersOf_7 : decode cX6_attackersOf 7 = .ok (.if_icmp .gt 163, 3) := by decide +kernel
theorem dX6_attackersOf_10 : decode cX6_attackersOf 10 = .ok (.bipush (-2), 2) := by decide +kernel
theorem dX6_attackersOf_12 : decode cX6_attackersOf 12 = .ok (.istore 4, 2) := by decide +kernel
theorem dX6_attackersOf_14 : decode cX6_attackersOf 14 = .ok (.iload 4, 2) := by decide +kernel
theorem dX6_attackersOf_16 : decode cX6_attackersOf 16 = .ok (.iconst 2, 1) := by decide +kernel
theorem dX6_attackersOf_17 : decode cX6_attackersOf 17 = .ok (.if_icmp .gt 147, 3) := by decide +kernel
theorem dX6_attackersOf_20 : decode cX6_attackersOf 20 = .ok (.iload_n 3, 1) := by decide +kernel
theorem dX6_attackersOf_21 : decode cX6_attackersOf 21 = .ok (.iload_n 3, 1) := by decide +kernel
theorem dX6_attackersOf_22 : decode cX6_attackersOf 22 = .ok (.imul, 1) := by decide +kernel
theorem dX6_attackersOf_23 : decode cX6_attackersOf 23 = .ok (.iload 4, 2) := by decide +kernel
theorem dX6_attackersOf_25 : decode cX6_attackersOf 25 = .ok (.iload 4, 2) := by decide +kernel
theorem dX6_attackersOf_27 : decode cX6_attackersOf 27 = .ok (.imul, 1) := by decide +kernel
theorem dX6_attackersOf_28 : decode cX6_attackersOf 28 = .ok (.iadd, 1) := by decide +kernel
theorem dX6_attackersOf_29 : decode cX6_attackersOf 29 = .ok (.istore 5, 2) := by decide +kernel
theorem dX6_attackersOf_31 : decode cX6_attackersOf 31 = .ok (.iload_n 2, 1) := by decide +kernel
theorem dX6_attackersOf_32 : decode cX6_attackersOf 32 = .ok (.iload 5, 2) := by decide +kernel
theorem dX6_attackersOf_34 : decode cX6_attackersOf 34 = .ok (.iconst 5, 1) := by decide +kernel
theorem dX6_attackersOf_35 : decode cX6_attackersOf 35 = .ok (.if_icmp .ne 19, 3) := by decide +kernel
theorem dX6_attackersOf_38 : decode cX6_attackersOf 38 = .ok (.aload_n 0, 1) := by decide +kernel
theorem dX6_attackersOf_39 : decode cX6_attackersOf 39 = .ok (.iload_n 1, 1) := by decide +kernel
theorem dX6_attackersOf_40 : decode cX6_attackersOf 40 = .ok (.iload_n 3, 1) := by decide +kernel
theorem dX6_attackersOf_41 : decode cX6_attackersOf 41 = .ok (.iload 4, 2) := by decide +kernel
theorem dX6_attackersOf_43 : decode cX6_attackersOf 43 = .ok (.invokevirtual 92, 3) := by decide +kernel
theorem dX6_attackersOf_46 : decode cX6_attackersOf 46 = .ok (.iconst 5, 1) := by decide +kernel
theorem dX6_attackersOf_47 : decode cX6_attackersOf 47 = .ok (.if_icmp .ne 7, 3) := by decide +kernel
theorem dX6_attackersOf_50 : decode cX6_attackersOf 50 = .ok (.iconst 1, 1) := by decide +kernel
theorem dX6_attackersOf_51 : decode cX6_attackersOf 51 = .ok (.goto 4, 3) := by decide +kernel
theorem dX6_attackersOf_54 : decode cX6_attackersOf 54 = .ok (.iconst 0, 1) := by decide +kernel
theorem dX6_attackersOf_55 : decode cX6_attackersOf 55 = .ok (.iadd, 1) := by decide +kernel
theorem dX6_attackersOf_56 : decode cX6_attackersOf 56 = .ok (.istore_n 2, 1) := by decide +kernel
theorem dX6_attackersOf_57 : decode cX6_attackersOf 57 = .ok (.iload 5, 2) := by decide +kernel
theorem dX6_attackersOf_59 : decode cX6_attackersOf 59 = .ok (.iconst 1, 1) := by decide +kernel
theorem dX6_attackersOf_60 : decode cX6_attackersOf 60 = .ok (.if_icmp .eq 9, 3) := by decide +kernel
theorem dX6_attackersOf_63 : decode cX6_attackersOf 63 = .ok (.iload 5, 2) := by decide +kernel
theorem dX6_attackersOf_65 : decode cX6_attackersOf 65 = .ok (.iconst 2, 1) := by decide +kernel
theorem dX6_attackersOf_66 : decode cX6_attackersOf 66 = .ok (.if_icmp .ne 92, 3) := by decide +kernel
theorem dX6_attackersOf_69 : decode cX6_attackersOf 69 = .ok (.aload_n 0, 1) := by decide +kernel
theorem dX6_attackersOf_70 : decode cX6_attackersOf 70 = .ok (.iload_n 1, 1) := by decide +kernel
theorem dX6_attackersOf_71 : decode cX6_attackersOf 71 = .ok (.iload_n 3, 1) := by decide +kernel
theorem dX6_attackersOf_72 : decode cX6_attackersOf 72 = .ok (.iload 4, 2) := by decide +kernel
theorem dX6_attackersOf_74 : decode cX6_attackersOf 74 = .ok (.invokevirtual 96, 3) := by decide +kernel
theorem dX6_attackersOf_77 : decode cX6_attackersOf 77 = .ok (.istore 6, 2) := by decide +kernel
theorem dX6_attackersOf_79 : decode cX6_attackersOf 79 = .ok (.iload 6, 2) := by decide +kernel
theorem dX6_attackersOf_81 : decode cX6_attackersOf 81 = .ok (.ifCond .ne 7, 3) := by decide +kernel
theorem dX6_attackersOf_84 : decode cX6_attackersOf 84 = .ok (.iconst 0, 1) := by decide +kernel
theorem dX6_attackersOf_85 : decode cX6_attackersOf 85 = .ok (.goto 17, 3) := by decide +kernel
theorem dX6_attackersOf_88 : decode cX6_attackersOf 88 = .ok (.aload_n 0, 1) := by decide +kernel
theorem dX6_attackersOf_89 : decode cX6_attackersOf 89 = .ok (.iload_n 1, 1) := by decide +kernel
theorem dX6_attackersOf_90 : decode cX6_attackersOf 90 = .ok (.iload 6, 2) := by decide +kernel
theorem dX6_attackersOf_92 : decode cX6_attackersOf 92 = .ok (.iload_n 3, 1) := by decide +kernel
theorem dX6_attackersOf_93 : decode cX6_attackersOf 93 = .ok (.imul, 1) := by decide +kernel
theorem dX6_attackersOf_94 : decode cX6_attackersOf 94 = .ok (.iload 6, 2) := by decide +kernel
theorem dX6_attackersOf_96 : decode cX6_attackersOf 96 = .ok (.iload 4, 2) := by decide +kernel
theorem dX6_attackersOf_98 : decode cX6_attackersOf 98 = .ok (.imul, 1) := by decide +kernel
theorem dX6_attackersOf_99 : decode cX6_attackersOf 99 = .ok (.invokevirtual 92, 3) := by decide +kernel
theorem dX6_attackersOf_102 : decode cX6_attackersOf 102 = .ok (.istore 7, 2) := by decide +kernel
theorem dX6_attackersOf_104 : decode cX6_attackersOf 104 = .ok (.iload 7, 2) := by decide +kernel
theorem dX6_attackersOf_106 : decode cX6_attackersOf 106 = .ok (.iconst 2, 1) := by decide +kernel
theorem dX6_attackersOf_107 : decode cX6_attackersOf 107 = .ok (.if_icmp .eq 31, 3) := by decide +kernel
theorem dX6_attackersOf_110 : decode cX6_attackersOf 110 = .ok (.iload 7, 2) := by decide +kernel
theorem dX6_attackersOf_112 : decode cX6_attackersOf 112 = .ok (.iload 5, 2) := by decide +kernel
theorem dX6_attackersOf_114 : decode cX6_attackersOf 114 = .ok (.iconst 1, 1) := by decide +kernel
theorem dX6_attackersOf_115 : decode cX6_attackersOf 115 = .ok (.if_icmp .ne 7, 3) := by decide +kernel
theorem dX6_attackersOf_118 : decode cX6_attackersOf 118 = .ok (.iconst 3, 1) := by decide +kernel
theorem dX6_attackersOf_119 : decode cX6_attackersOf 119 = .ok (.goto 4, 3) := by decide +kernel
theorem dX6_attackersOf_122 : decode cX6_attackersOf 122 = .ok (.iconst 4, 1) := by decide +kernel
theorem dX6_attackersOf_123 : decode cX6_attackersOf 123 = .ok (.if_icmp .eq 15, 3) := by decide +kernel
theorem dX6_attackersOf_126 : decode cX6_attackersOf 126 = .ok (.iload 7, 2) := by decide +kernel
theorem dX6_attackersOf_128 : decode cX6_attackersOf 128 = .ok (.iconst 1, 1) := by decide +kernel
theorem dX6_attackersOf_129 : decode cX6_attackersOf 129 = .ok (.if_icmp .ne 13, 3) := by decide +kernel
theorem dX6_attackersOf_132 : decode cX6_attackersOf 132 = .ok (.iload 6, 2) := by decide +kernel
theorem dX6_attackersOf_134 : decode cX6_attackersOf 134 = .ok (.iconst 1, 1) := by decide +kernel
theorem dX6_attackersOf_135 : decode cX6_attackersOf 135 = .ok (.if_icmp .ne 7, 3) := by decide +kernel
theorem dX6_attackersOf_138 : decode cX6_attackersOf 138 = .ok (.iconst 1, 1) := by decide +kernel
theorem dX6_attackersOf_139 : decode cX6_attackersOf 139 = .ok (.goto 4, 3) := by decide +kernel
theorem dX6_attackersOf_142 : decode cX6_attackersOf 142 = .ok (.iconst 0, 1) := by decide +kernel
theorem dX6_attackersOf_143 : decode cX6_attackersOf 143 = .ok (.istore 8, 2) := by decide +kernel
theorem dX6_attackersOf_145 : decode cX6_attackersOf 145 = .ok (.iload_n 2, 1) := by decide +kernel
theorem dX6_attackersOf_146 : decode cX6_attackersOf 146 = .ok (.iload 8, 2) := by decide +kernel
theorem dX6_attackersOf_148 : decode cX6_attackersOf 148 = .ok (.ifCond .eq 7, 3) := by decide +kernel
theorem dX6_attackersOf_151 : decode cX6_attackersOf 151 = .ok (.iconst 1, 1) := by decide +kernel
theorem dX6_attackersOf_152 : decode cX6_attackersOf 152 = .ok (.goto 4, 3) := by decide +kernel
theorem dX6_attackersOf_155 : decode cX6_attackersOf 155 = .ok (.iconst 0, 1) := by decide +kernel
theorem dX6_attackersOf_156 : decode cX6_attackersOf 156 = .ok (.iadd, 1) := by decide +kernel
theorem dX6_attackersOf_157 : decode cX6_attackersOf 157 = .ok (.istore_n 2, 1) := by decide +kernel
theorem dX6_attackersOf_158 : decode cX6_attackersOf 158 = .ok (.iinc 4 1, 3) := by decide +kernel
theorem dX6_attackersOf_161 : decode cX6_attackersOf 161 = .ok (.goto (-147), 3) := by decide +kernel
theorem dX6_attackersOf_164 : decode cX6_attackersOf 164 = .ok (.iinc 3 1, 3) := by decide +kernel
theorem dX6_attackersOf_167 : decode cX6_attackersOf 167 = .ok (.goto (-162), 3) := by decide +kernel
theorem dX6_attackersOf_170 : decode cX6_attackersOf 170 = .ok (.iload_n 2, 1) := by decide +kernel
theorem dX6_attackersOf_171 : decode cX6_attackersOf 171 = .ok (.ireturn, 1) := by decide +kernel
theorem dX6_attacks_0 : decode cX6_attacks 0 = .ok (.iload_n 2, 1) := by decide +kernel
theorem dX6_attacks_1 : decode cX6_attacks 1 = .ok (.iconst 5, 1) := by decide +kernel
theorem dX6_attacks_2 : decode cX6_attacks 2 = .ok (.irem, 1) := by decide +kernel
theorem dX6_attacks_3 : decode cX6_attacks 3 = .ok (.iload_n 1, 1) := by decide +kernel
theorem dX6_attacks_4 : decode cX6_attacks 4 = .ok (.iconst 5, 1) := by decide +kernel
theorem dX6_attacks_5 : decode cX6_attacks 5 = .ok (.irem, 1) := by decide +kernel
theorem dX6_attacks_6 : decode cX6_attacks 6 = .ok (.isub, 1) := by decide +kernel
theorem dX6_attacks_7 : decode cX6_attacks 7 = .ok (.istore_n 3, 1) := by decide +kernel
theorem dX6_attacks_8 : decode cX6_attacks 8 = .ok (.iload_n 2, 1) := by decide +kernel
theorem dX6_attacks_9 : decode cX6_attacks 9 = .ok (.iconst 5, 1) := by decide +kernel
theorem dX6_attacks_10 : decode cX6_attacks 10 = .ok (.idiv, 1) := by decide +kernel
theorem dX6_attacks_11 : decode cX6_attacks 11 = .ok (.iload_n 1, 1) := by decide +kernel
theorem dX6_attacks_12 : decode cX6_attacks 12 = .ok (.iconst 5, 1) := by decide +kernel
theorem dX6_attacks_13 : decode cX6_attacks 13 = .ok (.idiv, 1) := by decide +kernel
theorem dX6_attacks_14 : decode cX6_attacks 14 = .ok (.isub, 1) := by decide +kernel
theorem dX6_attacks_15 : decode cX6_attacks 15 = .ok (.istore 4, 2) := by decide +kernel
theorem dX6_attacks_17 : decode cX6_attacks 17 = .ok (.iload_n 3, 1) := by decide +kernel
theorem dX6_attacks_18 : decode cX6_attacks 18 = .ok (.invokestatic 99, 3) := by decide +kernel
theorem dX6_attacks_21 : decode cX6_attacks 21 = .ok (.iload 4, 2) := by decide +kernel
theorem dX6_attacks_23 : decode cX6_attacks 23 = .ok (.invokestatic 99, 3) := by decide +kernel
theorem dX6_attacks_26 : decode cX6_attacks 26 = .ok (.invokestatic 104, 3) := by decide +kernel
theorem dX6_attacks_29 : decode cX6_attacks 29 = .ok (.istore 5, 2) := by decide +kernel
theorem dX6_attacks_31 : decode cX6_attacks 31 = .ok (.aload_n 0, 1) := by decide +kernel
theorem dX6_attacks_32 : decode cX6_attacks 32 = .ok (.getfield 9, 3) := by decide +kernel
theorem dX6_attacks_35 : decode cX6_attacks 35 = .ok (.iload_n 1, 1) := by decide +kernel
theorem dX6_attacks_36 : decode cX6_attacks 36 = .ok (.iaload, 1) := by decide +kernel
theorem dX6_attacks_37 : decode cX6_attacks 37 = .ok (.istore 6, 2) := by decide +kernel
theorem dX6_attacks_39 : decode cX6_attacks 39 = .ok (.iload 6, 2) := by decide +kernel
theorem dX6_attacks_41 : decode cX6_attacks 41 = .ok (.iconst 5, 1) := by decide +kernel
theorem dX6_attacks_42 : decode cX6_attacks 42 = .ok (.if_icmp .ne 22, 3) := by decide +kernel
theorem dX6_attacks_45 : decode cX6_attacks 45 = .ok (.iload_n 3, 1) := by decide +kernel
theorem dX6_attacks_46 : decode cX6_attacks 46 = .ok (.iload_n 3, 1) := by decide +kernel
theorem dX6_attacks_47 : decode cX6_attacks 47 = .ok (.imul, 1) := by decide +kernel
theorem dX6_attacks_48 : decode cX6_attacks 48 = .ok (.iload 4, 2) := by decide +kernel
theorem dX6_attacks_50 : decode cX6_attacks 50 = .ok (.iload 4, 2) := by decide +kernel
theorem dX6_attacks_52 : decode cX6_attacks 52 = .ok (.imul, 1) := by decide +kernel
theorem dX6_attacks_53 : decode cX6_attacks 53 = .ok (.iadd, 1) := by decide +kernel
theorem dX6_attacks_54 : decode cX6_attacks 54 = .ok (.iconst 5, 1) := by decide +kernel
theorem dX6_attacks_55 : decode cX6_attacks 55 = .ok (.if_icmp .ne 7, 3) := by decide +kernel
theorem dX6_attacks_58 : decode cX6_attacks 58 = .ok (.iconst 1, 1) := by decide +kernel
theorem dX6_attacks_59 : decode cX6_attacks 59 = .ok (.goto 4, 3) := by decide +kernel
theorem dX6_attacks_62 : decode cX6_attacks 62 = .ok (.iconst 0, 1) := by decide +kernel
theorem dX6_attacks_63 : decode cX6_attacks 63 = .ok (.ireturn, 1) := by decide +kernel
theorem dX6_attacks_64 : decode cX6_attacks 64 = .ok (.iload 6, 2) := by decide +kernel
theorem dX6_attacks_66 : decode cX6_attacks 66 = .ok (.iconst 1, 1) := by decide +kernel
theorem dX6_attacks_67 : decode cX6_attacks 67 = .ok (.if_icmp .eq 10, 3) := by decide +kernel
theorem dX6_attacks_70 : decode cX6_attacks 70 = .ok (.iload 6, 2) := by decide +kernel
theorem dX6_attacks_72 : decode cX6_attacks 72 = .ok (.bipush 7, 2) := by decide +kernel
theorem dX6_attacks_74 : decode cX6_attacks 74 = .ok (.if_icmp .ne 15, 3) := by decide +kernel
theorem dX6_attacks_77 : decode cX6_attacks 77 = .ok (.iload 5, 2) := by decide +kernel
theorem dX6_attacks_79 : decode cX6_attacks 79 = .ok (.iconst 1, 1) := by decide +kernel
theorem dX6_attacks_80 : decode cX6_attacks 80 = .ok (.if_icmp .ne 7, 3) := by decide +kernel
theorem dX6_attacks_83 : decode cX6_attacks 83 = .ok (.iconst 1, 1) := by decide +kernel
theorem dX6_attacks_84 : decode cX6_attacks 84 = .ok (.goto 4, 3) := by decide +kernel
theorem dX6_attacks_87 : decode cX6_attacks 87 = .ok (.iconst 0, 1) := by decide +kernel
theorem dX6_attacks_88 : decode cX6_attacks 88 = .ok (.ireturn, 1) := by decide +kernel
theorem dX6_attacks_89 : decode cX6_attacks 89 = .ok (.iload_n 3, 1) := by decide +kernel
theorem dX6_attacks_90 : decode cX6_attacks 90 = .ok (.ifCond .eq 8, 3) := by decide +kernel
theorem dX6_attacks_93 : decode cX6_attacks 93 = .ok (.iload 4, 2) := by decide +kernel
theorem dX6_attacks_95 : decode cX6_attacks 95 = .ok (.ifCond .ne 7, 3) := by decide +kernel
theorem dX6_attacks_98 : decode cX6_attacks 98 = .ok (.iconst 1, 1) := by decide +kernel
theorem dX6_attacks_99 : decode cX6_attacks 99 = .ok (.goto 4, 3) := by decide +kernel
theorem dX6_attacks_102 : decode cX6_attacks 102 = .ok (.iconst 0, 1) := by decide +kernel
theorem dX6_attacks_103 : decode cX6_attacks 103 = .ok (.istore 7, 2) := by decide +kernel
theorem dX6_attacks_105 : decode cX6_attacks 105 = .ok (.iload_n 3, 1) := by decide +kernel
theorem dX6_attacks_106 : decode cX6_attacks 106 = .ok (.invokestatic 99, 3) := by decide +kernel
theorem dX6_attacks_109 : decode cX6_attacks 109 = .ok (.iload 4, 2) := by decide +kernel
theorem dX6_attacks_111 : decode cX6_attacks 111 = .ok (.invokestatic 99, 3) := by decide +kernel
theorem dX6_attacks_114 : decode cX6_attacks 114 = .ok (.if_icmp .ne 7, 3) := by decide +kernel
theorem dX6_attacks_117 : decode cX6_attacks 117 = .ok (.iconst 1, 1) := by decide +kernel
theorem dX6_attacks_118 : decode cX6_attacks 118 = .ok (.goto 4, 3) := by decide +kernel
theorem dX6_attacks_121 : decode cX6_attacks 121 = .ok (.iconst 0, 1) := by decide +kernel
theorem dX6_attacks_122 : decode cX6_attacks 122 = .ok (.istore 8, 2) := by decide +kernel
theorem dX6_attacks_124 : decode cX6_attacks 124 = .ok (.iload 5, 2) := by decide +kernel
theorem dX6_attacks_126 : decode cX6_attacks 126 = .ok (.ifCond .le 29, 3) := by decide +kernel
theorem dX6_attacks_129 : decode cX6_attacks 129 = .ok (.iload 6, 2) := by decide +kernel
theorem dX6_attacks_131 : decode cX6_attacks 131 = .ok (.iconst 4, 1) := by decide +kernel
theorem dX6_attacks_132 : decode cX6_attacks 132 = .ok (.if_icmp .eq 8, 3) := by decide +kernel
theorem dX6_attacks_135 : decode cX6_attacks 135 = .ok (.iload 7, 2) := by decide +kernel
theorem dX6_attacks_137 : decode cX6_attacks 137 = .ok (.ifCond .ne 14, 3) := by decide +kernel
theorem dX6_attacks_140 : decode cX6_attacks 140 = .ok (.iload 6, 2) := by decide +kernel
theorem dX6_attacks_142 : decode cX6_attacks 142 = .ok (.iconst 3, 1) := by decide +kernel
theorem dX6_attacks_143 : decode cX6_attacks 143 = .ok (.if_icmp .eq 12, 3) := by decide +kernel
theorem dX6_attacks_146 : decode cX6_attacks 146 = .ok (.iload 8, 2) := by decide +kernel
theorem dX6_attacks_148 : decode cX6_attacks 148 = .ok (.ifCond .eq 7, 3) := by decide +kernel
theorem dX6_attacks_151 : decode cX6_attacks 151 = .ok (.iconst 1, 1) := by decide +kernel
theorem dX6_attacks_152 : decode cX6_attacks 152 = .ok (.goto 4, 3) := by decide +kernel
theorem dX6_attacks_155 : decode cX6_attacks 155 = .ok (.iconst 0, 1) := by decide +kernel
theorem dX6_attacks_156 : decode cX6_attacks 156 = .ok (.istore 9, 2) := by decide +kernel
theorem dX6_attacks_158 : decode cX6_attacks 158 = .ok (.iload 9, 2) := by decide +kernel
theorem dX6_attacks_160 : decode cX6_attacks 160 = .ok (.ifCond .eq 13, 3) := by decide +kernel
theorem dX6_attacks_163 : decode cX6_attacks 163 = .ok (.iload 6, 2) := by decide +kernel
theorem dX6_attacks_165 : decode cX6_attacks 165 = .ok (.iconst 2, 1) := by decide +kernel
theorem dX6_attacks_166 : decode cX6_attacks 166 = .ok (.iconst 4, 1) := by decide +kernel
theorem dX6_attacks_167 : decode cX6_attacks 167 = .ok (.invokestatic 60, 3) := by decide +kernel
theorem dX6_attacks_170 : decode cX6_attacks 170 = .ok (.ifCond .ne 5, 3) := by decide +kernel
theorem dX6_attacks_173 : decode cX6_attacks 173 = .ok (.iconst 0, 1) := by decide +kernel
theorem dX6_attacks_174 : decode cX6_attacks 174 = .ok (.ireturn, 1) := by decide +kernel
theorem dX6_attacks_175 : decode cX6_attacks 175 = .ok (.aload_n 0, 1) := by decide +kernel
theorem dX6_attacks_176 : decode cX6_attacks 176 = .ok (.iload_n 1, 1) := by decide +kernel
theorem dX6_attacks_177 : decode cX6_attacks 177 = .ok (.iload_n 3, 1) := by decide +kernel
theorem dX6_attacks_178 : decode cX6_attacks 178 = .ok (.iload 5, 2) := by decide +kernel
theorem dX6_attacks_180 : decode cX6_attacks 180 = .ok (.idiv, 1) := by decide +kernel
theorem dX6_attacks_181 : decode cX6_attacks 181 = .ok (.iload 4, 2) := by decide +kernel
theorem dX6_attacks_183 : decode cX6_attacks 183 = .ok (.iload 5, 2) := by decide +kernel
theorem dX6_attacks_185 : decode cX6_attacks 185 = .ok (.idiv, 1) := by decide +kernel
theorem dX6_attacks_186 : decode cX6_attacks 186 = .ok (.invokevirtual 96, 3) := by decide +kernel
theorem dX6_attacks_189 : decode cX6_attacks 189 = .ok (.istore 10, 2) := by decide +kernel
theorem dX6_attacks_191 : decode cX6_attacks 191 = .ok (.iload 10, 2) := by decide +kernel
theorem dX6_attacks_193 : decode cX6_attacks 193 = .ok (.ifCond .eq 10, 3) := by decide +kernel
theorem dX6_attacks_196 : decode cX6_attacks 196 = .ok (.iload 10, 2) := by decide +kernel
theorem dX6_attacks_198 : decode cX6_attacks 198 = .ok (.iload 5, 2) := by decide +kernel
theorem dX6_attacks_200 : decode cX6_attacks 200 = .ok (.if_icmp .lt 7, 3) := by decide +kernel
theorem dX6_attacks_203 : decode cX6_attacks 203 = .ok (.iconst 1, 1) := by decide +kernel
theorem dX6_attacks_204 : decode cX6_attacks 204 = .ok (.goto 4, 3) := by decide +kernel
theorem dX6_attacks_207 : decode cX6_attacks 207 = .ok (.iconst 0, 1) := by decide +kernel
theorem dX6_attacks_208 : decode cX6_attacks 208 = .ok (.ireturn, 1) := by decide +kernel
theorem dX6_areBeside_0 : decode cX6_areBeside 0 = .ok (.iload_n 0, 1) := by decide +kernel
theorem dX6_areBeside_1 : decode cX6_areBeside 1 = .ok (.ifCond .lt 38, 3) := by decide +kernel
theorem dX6_areBeside_4 : decode cX6_areBeside 4 = .ok (.iload_n 1, 1) := by decide +kernel
theorem dX6_areBeside_5 : decode cX6_areBeside 5 = .ok (.ifCond .lt 34, 3) := by decide +kernel
theorem dX6_areBeside_8 : decode cX6_areBeside 8 = .ok (.iload_n 0, 1) := by decide +kernel
theorem dX6_areBeside_9 : decode cX6_areBeside 9 = .ok (.iconst 5, 1) := by decide +kernel
theorem dX6_areBeside_10 : decode cX6_areBeside 10 = .ok (.irem, 1) := by decide +kernel
theorem dX6_areBeside_11 : decode cX6_areBeside 11 = .ok (.iload_n 1, 1) := by decide +kernel
theorem dX6_areBeside_12 : decode cX6_areBeside 12 = .ok (.iconst 5, 1) := by decide +kernel
theorem dX6_areBeside_13 : decode cX6_areBeside 13 = .ok (.irem, 1) := by decide +kernel
theorem dX6_areBeside_14 : decode cX6_areBeside 14 = .ok (.isub, 1) := by decide +kernel
theorem dX6_areBeside_15 : decode cX6_areBeside 15 = .ok (.invokestatic 99, 3) := by decide +kernel
theorem dX6_areBeside_18 : decode cX6_areBeside 18 = .ok (.iload_n 0, 1) := by decide +kernel
theorem dX6_areBeside_19 : decode cX6_areBeside 19 = .ok (.iconst 5, 1) := by decide +kernel
theorem dX6_areBeside_20 : decode cX6_areBeside 20 = .ok (.idiv, 1) := by decide +kernel
theorem dX6_areBeside_21 : decode cX6_areBeside 21 = .ok (.iload_n 1, 1) := by decide +kernel
theorem dX6_areBeside_22 : decode cX6_areBeside 22 = .ok (.iconst 5, 1) := by decide +kernel
theorem dX6_areBeside_23 : decode cX6_areBeside 23 = .ok (.idiv, 1) := by decide +kernel
theorem dX6_areBeside_24 : decode cX6_areBeside 24 = .ok (.isub, 1) := by decide +kernel
theorem dX6_areBeside_25 : decode cX6_areBeside 25 = .ok (.invokestatic 99, 3) := by decide +kernel
theorem dX6_areBeside_28 : decode cX6_areBeside 28 = .ok (.invokestatic 104, 3) := by decide +kernel
theorem dX6_areBeside_31 : decode cX6_areBeside 31 = .ok (.iconst 1, 1) := by decide +kernel
theorem dX6_areBeside_32 : decode cX6_areBeside 32 = .ok (.if_icmp .ne 7, 3) := by decide +kernel
theorem dX6_areBeside_35 : decode cX6_areBeside 35 = .ok (.iconst 1, 1) := by decide +kernel
theorem dX6_areBeside_36 : decode cX6_areBeside 36 = .ok (.goto 4, 3) := by decide +kernel
theorem dX6_areBeside_39 : decode cX6_areBeside 39 = .ok (.iconst 0, 1) := by decide +kernel
theorem dX6_areBeside_40 : decode cX6_areBeside 40 = .ok (.ireturn, 1) := by decide +kernel
theorem dX6_isMove_0 : decode cX6_isMove 0 = .ok (.aload_n 0, 1) := by decide +kernel
theorem dX6_isMove_1 : decode cX6_isMove 1 = .ok (.getfield 9, 3) := by decide +kernel
theorem dX6_isMove_4 : decode cX6_isMove 4 = .ok (.iload_n 1, 1) := by decide +kernel
theorem dX6_isMove_5 : decode cX6_isMove 5 = .ok (.iaload, 1) := by decide +kernel
theorem dX6_isMove_6 : decode cX6_isMove 6 = .ok (.invokestatic 107, 3) := by decide +kernel
theorem dX6_isMove_9 : decode cX6_isMove 9 = .ok (.ifCond .eq 36, 3) := by decide +kernel
theorem dX6_isMove_12 : decode cX6_isMove 12 = .ok (.aload_n 0, 1) := by decide +kernel
theorem dX6_isMove_13 : decode cX6_isMove 13 = .ok (.iload_n 1, 1) := by decide +kernel
theorem dX6_isMove_14 : decode cX6_isMove 14 = .ok (.iload_n 2, 1) := by decide +kernel
theorem dX6_isMove_15 : decode cX6_isMove 15 = .ok (.invokevirtual 110, 3) := by decide +kernel
theorem dX6_isMove_18 : decode cX6_isMove 18 = .ok (.ifCond .eq 27, 3) := by decide +kernel
theorem dX6_isMove_21 : decode cX6_isMove 21 = .ok (.aload_n 0, 1) := by decide +kernel
theorem dX6_isMove_22 : decode cX6_isMove 22 = .ok (.getfield 9, 3) := by decide +kernel
theorem dX6_isMove_25 : decode cX6_isMove 25 = .ok (.iload_n 2, 1) := by decide +kernel
theorem dX6_isMove_26 : decode cX6_isMove 26 = .ok (.iaload, 1) := by decide +kernel
theorem dX6_isMove_27 : decode cX6_isMove 27 = .ok (.ifCond .eq 14, 3) := by decide +kernel
theorem dX6_isMove_30 : decode cX6_isMove 30 = .ok (.aload_n 0, 1) := by decide +kernel
theorem dX6_isMove_31 : decode cX6_isMove 31 = .ok (.getfield 9, 3) := by decide +kernel
theorem dX6_isMove_34 : decode cX6_isMove 34 = .ok (.iload_n 2, 1) := by decide +kernel
theorem dX6_isMove_35 : decode cX6_isMove 35 = .ok (.iaload, 1) := by decide +kernel
theorem dX6_isMove_36 : decode cX6_isMove 36 = .ok (.bipush 6, 2) := by decide +kernel
theorem dX6_isMove_38 : decode cX6_isMove 38 = .ok (.if_icmp .ne 7, 3) := by decide +kernel
theorem dX6_isMove_41 : decode cX6_isMove 41 = .ok (.iconst 1, 1) := by decide +kernel
theorem dX6_isMove_42 : decode cX6_isMove 42 = .ok (.goto 4, 3) := by decide +kernel
theorem dX6_isMove_45 : decode cX6_isMove 45 = .ok (.iconst 0, 1) := by decide +kernel
theorem dX6_isMove_46 : decode cX6_isMove 46 = .ok (.istore_n 3, 1) := by decide +kernel
theorem dX6_isMove_47 : decode cX6_isMove 47 = .ok (.iload_n 3, 1) := by decide +kernel
theorem dX6_isMove_48 : decode cX6_isMove 48 = .ok (.ifCond .eq 30, 3) := by decide +kernel
theorem dX6_isMove_51 : decode cX6_isMove 51 = .ok (.aload_n 0, 1) := by decide +kernel
theorem dX6_isMove_52 : decode cX6_isMove 52 = .ok (.getfield 9, 3) := by decide +kernel
theorem dX6_isMove_55 : decode cX6_isMove 55 = .ok (.iload_n 1, 1) := by decide +kernel
theorem dX6_isMove_56 : decode cX6_isMove 56 = .ok (.iaload, 1) := by decide +kernel
theorem dX6_isMove_57 : decode cX6_isMove 57 = .ok (.iconst 1, 1) := by decide +kernel
theorem dX6_isMove_58 : decode cX6_isMove 58 = .ok (.if_icmp .ne 16, 3) := by decide +kernel
theorem dX6_isMove_61 : decode cX6_isMove 61 = .ok (.iload_n 2, 1) := by decide +kernel
theorem dX6_isMove_62 : decode cX6_isMove 62 = .ok (.aload_n 0, 1) := by decide +kernel
theorem dX6_isMove_63 : decode cX6_isMove 63 = .ok (.bipush 7, 2) := by decide +kernel
theorem dX6_isMove_65 : decode cX6_isMove 65 = .ok (.invokevirtual 72, 3) := by decide +kernel
theorem dX6_isMove_68 : decode cX6_isMove 68 = .ok (.invokestatic 114, 3) := by decide +kernel
theorem dX6_isMove_71 : decode cX6_isMove 71 = .ok (.ifCond .ne 7, 3) := by decide +kernel
theorem dX6_isMove_74 : decode cX6_isMove 74 = .ok (.iconst 1, 1) := by decide +kernel
theorem dX6_isMove_75 : decode cX6_isMove 75 = .ok (.goto 4, 3) := by decide +kernel
theorem dX6_isMove_78 : decode cX6_isMove 78 = .ok (.iconst 0, 1) := by decide +kernel
theorem dX6_isMove_79 : decode cX6_isMove 79 = .ok (.ireturn, 1) := by decide +kernel
theorem dX6_countOf_0 : decode cX6_countOf 0 = .ok (.iconst 0, 1) := by decide +kernel
theorem dX6_countOf_1 : decode cX6_countOf 1 = .ok (.istore_n 3, 1) := by decide +kernel
theorem dX6_countOf_2 : decode cX6_countOf 2 = .ok (.iconst 0, 1) := by decide +kernel
theorem dX6_countOf_3 : decode cX6_countOf 3 = .ok (.istore 4, 2) := by decide +kernel
theorem dX6_countOf_5 : decode cX6_countOf 5 = .ok (.iload 4, 2) := by decide +kernel
theorem dX6_countOf_7 : decode cX6_countOf 7 = .ok (.bipush 25, 2) := by decide +kernel
theorem dX6_countOf_9 : decode cX6_countOf 9 = .ok (.if_icmp .ge 44, 3) := by decide +kernel
theorem dX6_countOf_12 : decode cX6_countOf 12 = .ok (.iload_n 3, 1) := by decide +kernel
theorem dX6_countOf_13 : decode cX6_countOf 13 = .ok (.iload_n 2, 1) := by decide +kernel
theorem dX6_countOf_14 : decode cX6_countOf 14 = .ok (.ifCond .eq 16, 3) := by decide +kernel
theorem dX6_countOf_17 : decode cX6_countOf 17 = .ok (.aload_n 0, 1) := by decide +kernel
theorem dX6_countOf_18 : decode cX6_countOf 18 = .ok (.iload_n 1, 1) := by decide +kernel
theorem dX6_countOf_19 : decode cX6_countOf 19 = .ok (.iload 4, 2) := by decide +kernel
theorem dX6_countOf_21 : decode cX6_countOf 21 = .ok (.invokevirtual 117, 3) := by decide +kernel
theorem dX6_countOf_24 : decode cX6_countOf 24 = .ok (.ifCond .eq 20, 3) := by decide +kernel
theorem dX6_countOf_27 : decode cX6_countOf 27 = .ok (.goto 13, 3) := by decide +kernel
theorem dX6_countOf_30 : decode cX6_countOf 30 = .ok (.aload_n 0, 1) := by decide +kernel
theorem dX6_countOf_31 : decode cX6_countOf 31 = .ok (.iload_n 1, 1) := by decide +kernel
theorem dX6_countOf_32 : decode cX6_countOf 32 = .ok (.iload 4, 2) := by decide +kernel
theorem dX6_countOf_34 : decode cX6_countOf 34 = .ok (.invokevirtual 110, 3) := by decide +kernel
theorem dX6_countOf_37 : decode cX6_countOf 37 = .ok (.ifCond .eq 7, 3) := by decide +kernel
theorem dX6_countOf_40 : decode cX6_countOf 40 = .ok (.iconst 1, 1) := by decide +kernel
theorem dX6_countOf_41 : decode cX6_countOf 41 = .ok (.goto 4, 3) := by decide +kernel
theorem dX6_countOf_44 : decode cX6_countOf 44 = .ok (.iconst 0, 1) := by decide +kernel
theorem dX6_countOf_45 : decode cX6_countOf 45 = .ok (.iadd, 1) := by decide +kernel
theorem dX6_countOf_46 : decode cX6_countOf 46 = .ok (.istore_n 3, 1) := by decide +kernel
theorem dX6_countOf_47 : decode cX6_countOf 47 = .ok (.iinc 4 1, 3) := by decide +kernel
theorem dX6_countOf_50 : decode cX6_countOf 50 = .ok (.goto (-45), 3) := by decide +kernel
theorem dX6_countOf_53 : decode cX6_countOf 53 = .ok (.iload_n 3, 1) := by decide +kernel
theorem dX6_countOf_54 : decode cX6_countOf 54 = .ok (.ireturn, 1) := by decide +kernel
theorem dX6_attackers_0 : decode cX6_attackers 0 = .ok (.iload_n 1, 1) := by decide +kernel
theorem dX6_attackers_1 : decode cX6_attackers 1 = .ok (.invokestatic 64, 3) := by decide +kernel
theorem dX6_attackers_4 : decode cX6_attackers 4 = .ok (.ifCond .eq 11, 3) := by decide +kernel
theorem dX6_attackers_7 : decode cX6_attackers 7 = .ok (.aload_n 0, 1) := by decide +kernel
theorem dX6_attackers_8 : decode cX6_attackers 8 = .ok (.iload_n 1, 1) := by decide +kernel
theorem dX6_attackers_9 : decode cX6_attackers 9 = .ok (.invokevirtual 120, 3) := by decide +kernel
theorem dX6_attackers_12 : decode cX6_attackers 12 = .ok (.goto 4, 3) := by decide +kernel
theorem dX6_attackers_15 : decode cX6_attackers 15 = .ok (.iconst (-1), 1) := by decide +kernel
theorem dX6_attackers_16 : decode cX6_attackers 16 = .ok (.ireturn, 1) := by decide +kernel
theorem dX6_attackersAgain_0 : decode cX6_attackersAgain 0 = .ok (.aload_n 0, 1) := by decide +kernel
theorem dX6_attackersAgain_1 : decode cX6_attackersAgain 1 = .ok (.iload_n 1, 1) := by decide +kernel
theorem dX6_attackersAgain_2 : decode cX6_attackersAgain 2 = .ok (.invokevirtual 123, 3) := by decide +kernel
theorem dX6_attackersAgain_5 : decode cX6_attackersAgain 5 = .ok (.ireturn, 1) := by decide +kernel
theorem dX6_canEscape_0 : decode cX6_canEscape 0 = .ok (.aload_n 0, 1) := by decide +kernel
theorem dX6_canEscape_1 : decode cX6_canEscape 1 = .ok (.bipush 7, 2) := by decide +kernel
theorem dX6_canEscape_3 : decode cX6_canEscape 3 = .ok (.invokevirtual 72, 3) := by decide +kernel
theorem dX6_canEscape_6 : decode cX6_canEscape 6 = .ok (.istore_n 2, 1) := by decide +kernel
theorem dX6_canEscape_7 : decode cX6_canEscape 7 = .ok (.iload_n 2, 1) := by decide +kernel
theorem dX6_canEscape_8 : decode cX6_canEscape 8 = .ok (.iload_n 1, 1) := by decide +kernel
theorem dX6_canEscape_9 : decode cX6_canEscape 9 = .ok (.invokestatic 114, 3) := by decide +kernel
theorem dX6_canEscape_12 : decode cX6_canEscape 12 = .ok (.ifCond .eq 14, 3) := by decide +kernel
theorem dX6_canEscape_15 : decode cX6_canEscape 15 = .ok (.aload_n 0, 1) := by decide +kernel
theorem dX6_canEscape_16 : decode cX6_canEscape 16 = .ok (.getfield 9, 3) := by decide +kernel
theorem dX6_canEscape_19 : decode cX6_canEscape 19 = .ok (.iload_n 1, 1) := by decide +kernel
theorem dX6_canEscape_20 : decode cX6_canEscape 20 = .ok (.iaload, 1) := by decide +kernel
theorem dX6_canEscape_21 : decode cX6_canEscape 21 = .ok (.bipush 6, 2) := by decide +kernel
theorem dX6_canEscape_23 : decode cX6_canEscape 23 = .ok (.if_icmp .ne 5, 3) := by decide +kernel
theorem dX6_canEscape_26 : decode cX6_canEscape 26 = .ok (.iconst 0, 1) := by decide +kernel
theorem dX6_canEscape_27 : decode cX6_canEscape 27 = .ok (.ireturn, 1) := by decide +kernel
theorem dX6_canEscape_28 : decode cX6_canEscape 28 = .ok (.aload_n 0, 1) := by decide +kernel
theorem dX6_canEscape_29 : decode cX6_canEscape 29 = .ok (.getfield 9, 3) := by decide +kernel
theorem dX6_canEscape_32 : decode cX6_canEscape 32 = .ok (.iload_n 1, 1) := by decide +kernel
theorem dX6_canEscape_33 : decode cX6_canEscape 33 = .ok (.iaload, 1) := by decide +kernel
theorem dX6_canEscape_34 : decode cX6_canEscape 34 = .ok (.istore_n 3, 1) := by decide +kernel
theorem dX6_canEscape_35 : decode cX6_canEscape 35 = .ok (.aload_n 0, 1) := by decide +kernel
theorem dX6_canEscape_36 : decode cX6_canEscape 36 = .ok (.getfield 9, 3) := by decide +kernel
theorem dX6_canEscape_39 : decode cX6_canEscape 39 = .ok (.iload_n 2, 1) := by decide +kernel
theorem dX6_canEscape_40 : decode cX6_canEscape 40 = .ok (.iconst 0, 1) := by decide +kernel
theorem dX6_canEscape_41 : decode cX6_canEscape 41 = .ok (.iastore, 1) := by decide +kernel
theorem dX6_canEscape_42 : decode cX6_canEscape 42 = .ok (.aload_n 0, 1) := by decide +kernel
theorem dX6_canEscape_43 : decode cX6_canEscape 43 = .ok (.getfield 9, 3) := by decide +kernel
theorem dX6_canEscape_46 : decode cX6_canEscape 46 = .ok (.iload_n 1, 1) := by decide +kernel
theorem dX6_canEscape_47 : decode cX6_canEscape 47 = .ok (.bipush 7, 2) := by decide +kernel
theorem dX6_canEscape_49 : decode cX6_canEscape 49 = .ok (.iastore, 1) := by decide +kernel
theorem dX6_canEscape_50 : decode cX6_canEscape 50 = .ok (.aload_n 0, 1) := by decide +kernel
theorem dX6_canEscape_51 : decode cX6_canEscape 51 = .ok (.iload_n 1, 1) := by decide +kernel
theorem dX6_canEscape_52 : decode cX6_canEscape 52 = .ok (.invokevirtual 120, 3) := by decide +kernel
theorem dX6_canEscape_55 : decode cX6_canEscape 55 = .ok (.ifCond .ne 7, 3) := by decide +kernel
theorem dX6_canEscape_58 : decode cX6_canEscape 58 = .ok (.iconst 1, 1) := by decide +kernel
theorem dX6_canEscape_59 : decode cX6_canEscape 59 = .ok (.goto 4, 3) := by decide +kernel
theorem dX6_canEscape_62 : decode cX6_canEscape 62 = .ok (.iconst 0, 1) := by decide +kernel
theorem dX6_canEscape_63 : decode cX6_canEscape 63 = .ok (.istore 4, 2) := by decide +kernel
theorem dX6_canEscape_65 : decode cX6_canEscape 65 = .ok (.aload_n 0, 1) := by decide +kernel
theorem dX6_canEscape_66 : decode cX6_canEscape 66 = .ok (.getfield 9, 3) := by decide +kernel
theorem dX6_canEscape_69 : decode cX6_canEscape 69 = .ok (.iload_n 2, 1) := by decide +kernel
theorem dX6_canEscape_70 : decode cX6_canEscape 70 = .ok (.bipush 7, 2) := by decide +kernel
theorem dX6_canEscape_72 : decode cX6_canEscape 72 = .ok (.iastore, 1) := by decide +kernel
theorem dX6_canEscape_73 : decode cX6_canEscape 73 = .ok (.aload_n 0, 1) := by decide +kernel
theorem dX6_canEscape_74 : decode cX6_canEscape 74 = .ok (.getfield 9, 3) := by decide +kernel
theorem dX6_canEscape_77 : decode cX6_canEscape 77 = .ok (.iload_n 1, 1) := by decide +kernel
theorem dX6_canEscape_78 : decode cX6_canEscape 78 = .ok (.iload_n 3, 1) := by decide +kernel
theorem dX6_canEscape_79 : decode cX6_canEscape 79 = .ok (.iastore, 1) := by decide +kernel
theorem dX6_canEscape_80 : decode cX6_canEscape 80 = .ok (.iload 4, 2) := by decide +kernel
theorem dX6_canEscape_82 : decode cX6_canEscape 82 = .ok (.ireturn, 1) := by decide +kernel
theorem dX6_escapeSet_0 : decode cX6_escapeSet 0 = .ok (.iconst 0, 1) := by decide +kernel
theorem dX6_escapeSet_1 : decode cX6_escapeSet 1 = .ok (.istore_n 1, 1) := by decide +kernel
theorem dX6_escapeSet_2 : decode cX6_escapeSet 2 = .ok (.iconst 0, 1) := by decide +kernel
theorem dX6_escapeSet_3 : decode cX6_escapeSet 3 = .ok (.istore_n 2, 1) := by decide +kernel
theorem dX6_escapeSet_4 : decode cX6_escapeSet 4 = .ok (.iload_n 2, 1) := by decide +kernel
theorem dX6_escapeSet_5 : decode cX6_escapeSet 5 = .ok (.bipush 25, 2) := by decide +kernel
theorem dX6_escapeSet_7 : decode cX6_escapeSet 7 = .ok (.if_icmp .ge 27, 3) := by decide +kernel
theorem dX6_escapeSet_10 : decode cX6_escapeSet 10 = .ok (.iload_n 1, 1) := by decide +kernel
theorem dX6_escapeSet_11 : decode cX6_escapeSet 11 = .ok (.aload_n 0, 1) := by decide +kernel
theorem dX6_escapeSet_12 : decode cX6_escapeSet 12 = .ok (.iload_n 2, 1) := by decide +kernel
theorem dX6_escapeSet_13 : decode cX6_escapeSet 13 = .ok (.invokevirtual 126, 3) := by decide +kernel
theorem dX6_escapeSet_16 : decode cX6_escapeSet 16 = .ok (.ifCond .eq 9, 3) := by decide +kernel
theorem dX6_escapeSet_19 : decode cX6_escapeSet 19 = .ok (.iconst 1, 1) := by decide +kernel
theorem dX6_escapeSet_20 : decode cX6_escapeSet 20 = .ok (.iload_n 2, 1) := by decide +kernel
theorem dX6_escapeSet_21 : decode cX6_escapeSet 21 = .ok (.ishl, 1) := by decide +kernel
theorem dX6_escapeSet_22 : decode cX6_escapeSet 22 = .ok (.goto 4, 3) := by decide +kernel
theorem dX6_escapeSet_25 : decode cX6_escapeSet 25 = .ok (.iconst 0, 1) := by decide +kernel
theorem dX6_escapeSet_26 : decode cX6_escapeSet 26 = .ok (.ior, 1) := by decide +kernel
theorem dX6_escapeSet_27 : decode cX6_escapeSet 27 = .ok (.istore_n 1, 1) := by decide +kernel
theorem dX6_escapeSet_28 : decode cX6_escapeSet 28 = .ok (.iinc 2 1, 3) := by decide +kernel
theorem dX6_escapeSet_31 : decode cX6_escapeSet 31 = .ok (.goto (-27), 3) := by decide +kernel
theorem dX6_escapeSet_34 : decode cX6_escapeSet 34 = .ok (.iload_n 1, 1) := by decide +kernel
theorem dX6_escapeSet_35 : decode cX6_escapeSet 35 = .ok (.ireturn, 1) := by decide +kernel
theorem dX6_escapes_0 : decode cX6_escapes 0 = .ok (.aload_n 0, 1) := by decide +kernel
theorem dX6_escapes_1 : decode cX6_escapes 1 = .ok (.bipush 7, 2) := by decide +kernel
theorem dX6_escapes_3 : decode cX6_escapes 3 = .ok (.invokevirtual 72, 3) := by decide +kernel
theorem dX6_escapes_6 : decode cX6_escapes 6 = .ok (.ifCond .ge 8, 3) := by decide +kernel
theorem dX6_escapes_9 : decode cX6_escapes 9 = .ok (.bipush (-4), 2) := by decide +kernel
theorem dX6_escapes_11 : decode cX6_escapes 11 = .ok (.goto 7, 3) := by decide +kernel
theorem dX6_escapes_14 : decode cX6_escapes 14 = .ok (.aload_n 0, 1) := by decide +kernel
theorem dX6_escapes_15 : decode cX6_escapes 15 = .ok (.invokevirtual 129, 3) := by decide +kernel
theorem dX6_escapes_18 : decode cX6_escapes 18 = .ok (.ireturn, 1) := by decide +kernel
theorem dX6_fits_0 : decode cX6_fits 0 = .ok (.aload_n 0, 1) := by decide +kernel
theorem dX6_fits_1 : decode cX6_fits 1 = .ok (.bipush 7, 2) := by decide +kernel
theorem dX6_fits_3 : decode cX6_fits 3 = .ok (.invokevirtual 72, 3) := by decide +kernel
theorem dX6_fits_6 : decode cX6_fits 6 = .ok (.istore_n 1, 1) := by decide +kernel
theorem dX6_fits_7 : decode cX6_fits 7 = .ok (.iload_n 1, 1) := by decide +kernel
theorem dX6_fits_8 : decode cX6_fits 8 = .ok (.ifCond .lt 15, 3) := by decide +kernel
theorem dX6_fits_11 : decode cX6_fits 11 = .ok (.aload_n 0, 1) := by decide +kernel
theorem dX6_fits_12 : decode cX6_fits 12 = .ok (.iload_n 1, 1) := by decide +kernel
theorem dX6_fits_13 : decode cX6_fits 13 = .ok (.invokevirtual 120, 3) := by decide +kernel
theorem dX6_fits_16 : decode cX6_fits 16 = .ok (.ifCond .ne 7, 3) := by decide +kernel
theorem dX6_fits_19 : decode cX6_fits 19 = .ok (.iconst 1, 1) := by decide +kernel
theorem dX6_fits_20 : decode cX6_fits 20 = .ok (.goto 4, 3) := by decide +kernel
theorem dX6_fits_23 : decode cX6_fits 23 = .ok (.iconst 0, 1) := by decide +kernel
theorem dX6_fits_24 : decode cX6_fits 24 = .ok (.ireturn, 1) := by decide +kernel
theorem dX6_isFit_0 : decode cX6_isFit 0 = .ok (.aload_n 0, 1) := by decide +kernel
theorem dX6_isFit_1 : decode cX6_isFit 1 = .ok (.invokevirtual 132, 3) := by decide +kernel
theorem dX6_isFit_4 : decode cX6_isFit 4 = .ok (.ifCond .eq 7, 3) := by decide +kernel
theorem dX6_isFit_7 : decode cX6_isFit 7 = .ok (.iconst 1, 1) := by decide +kernel
theorem dX6_isFit_8 : decode cX6_isFit 8 = .ok (.goto 4, 3) := by decide +kernel
theorem dX6_isFit_11 : decode cX6_isFit 11 = .ok (.iconst 0, 1) := by decide +kernel
theorem dX6_isFit_12 : decode cX6_isFit 12 = .ok (.ireturn, 1) := by decide +kernel
theorem dX6_kindOf_0 : decode cX6_kindOf 0 = .ok (.aload_n 0, 1) := by decide +kernel
theorem dX6_kindOf_1 : decode cX6_kindOf 1 = .ok (.getfield 9, 3) := by decide +kernel
theorem dX6_kindOf_4 : decode cX6_kindOf 4 = .ok (.iload_n 1, 1) := by decide +kernel
theorem dX6_kindOf_5 : decode cX6_kindOf 5 = .ok (.iaload, 1) := by decide +kernel
theorem dX6_kindOf_6 : decode cX6_kindOf 6 = .ok (.istore_n 3, 1) := by decide +kernel
theorem dX6_kindOf_7 : decode cX6_kindOf 7 = .ok (.aload_n 0, 1) := by decide +kernel
theorem dX6_kindOf_8 : decode cX6_kindOf 8 = .ok (.getfield 9, 3) := by decide +kernel
theorem dX6_kindOf_11 : decode cX6_kindOf 11 = .ok (.iload_n 2, 1) := by decide +kernel
theorem dX6_kindOf_12 : decode cX6_kindOf 12 = .ok (.iaload, 1) := by decide +kernel
theorem dX6_kindOf_13 : decode cX6_kindOf 13 = .ok (.istore 4, 2) := by decide +kernel
theorem dX6_kindOf_15 : decode cX6_kindOf 15 = .ok (.aload_n 0, 1) := by decide +kernel
theorem dX6_kindOf_16 : decode cX6_kindOf 16 = .ok (.getfield 9, 3) := by decide +kernel
theorem dX6_kindOf_19 : decode cX6_kindOf 19 = .ok (.iload_n 1, 1) := by decide +kernel
theorem dX6_kindOf_20 : decode cX6_kindOf 20 = .ok (.iconst 0, 1) := by decide +kernel
theorem dX6_kindOf_21 : decode cX6_kindOf 21 = .ok (.iastore, 1) := by decide +kernel
theorem dX6_kindOf_22 : decode cX6_kindOf 22 = .ok (.aload_n 0, 1) := by decide +kernel
theorem dX6_kindOf_23 : decode cX6_kindOf 23 = .ok (.getfield 9, 3) := by decide +kernel
theorem dX6_kindOf_26 : decode cX6_kindOf 26 = .ok (.iload_n 2, 1) := by decide +kernel
theorem dX6_kindOf_27 : decode cX6_kindOf 27 = .ok (.iload_n 3, 1) := by decide +kernel
theorem dX6_kindOf_28 : decode cX6_kindOf 28 = .ok (.iastore, 1) := by decide +kernel
theorem dX6_kindOf_29 : decode cX6_kindOf 29 = .ok (.aload_n 0, 1) := by decide +kernel
theorem dX6_kindOf_30 : decode cX6_kindOf 30 = .ok (.aload_n 0, 1) := by decide +kernel
theorem dX6_kindOf_31 : decode cX6_kindOf 31 = .ok (.bipush 7, 2) := by decide +kernel
theorem dX6_kindOf_33 : decode cX6_kindOf 33 = .ok (.invokevirtual 72, 3) := by decide +kernel
theorem dX6_kindOf_36 : decode cX6_kindOf 36 = .ok (.invokevirtual 120, 3) := by decide +kernel
theorem dX6_kindOf_39 : decode cX6_kindOf 39 = .ok (.ifCond .le 7, 3) := by decide +kernel
theorem dX6_kindOf_42 : decode cX6_kindOf 42 = .ok (.iconst 1, 1) := by decide +kernel
theorem dX6_kindOf_43 : decode cX6_kindOf 43 = .ok (.goto 4, 3) := by decide +kernel
theorem dX6_kindOf_46 : decode cX6_kindOf 46 = .ok (.iconst 0, 1) := by decide +kernel
theorem dX6_kindOf_47 : decode cX6_kindOf 47 = .ok (.istore 5, 2) := by decide +kernel
theorem dX6_kindOf_49 : decode cX6_kindOf 49 = .ok (.aload_n 0, 1) := by decide +kernel
theorem dX6_kindOf_50 : decode cX6_kindOf 50 = .ok (.invokevirtual 129, 3) := by decide +kernel
theorem dX6_kindOf_53 : decode cX6_kindOf 53 = .ok (.istore 6, 2) := by decide +kernel
theorem dX6_kindOf_55 : decode cX6_kindOf 55 = .ok (.aload_n 0, 1) := by decide +kernel
theorem dX6_kindOf_56 : decode cX6_kindOf 56 = .ok (.getfield 9, 3) := by decide +kernel
theorem dX6_kindOf_59 : decode cX6_kindOf 59 = .ok (.iload_n 1, 1) := by decide +kernel
theorem dX6_kindOf_60 : decode cX6_kindOf 60 = .ok (.iload_n 3, 1) := by decide +kernel
theorem dX6_kindOf_61 : decode cX6_kindOf 61 = .ok (.iastore, 1) := by decide +kernel
theorem dX6_kindOf_62 : decode cX6_kindOf 62 = .ok (.aload_n 0, 1) := by decide +kernel
theorem dX6_kindOf_63 : decode cX6_kindOf 63 = .ok (.getfield 9, 3) := by decide +kernel
theorem dX6_kindOf_66 : decode cX6_kindOf 66 = .ok (.iload_n 2, 1) := by decide +kernel
theorem dX6_kindOf_67 : decode cX6_kindOf 67 = .ok (.iload 4, 2) := by decide +kernel
theorem dX6_kindOf_69 : decode cX6_kindOf 69 = .ok (.iastore, 1) := by decide +kernel
theorem dX6_kindOf_70 : decode cX6_kindOf 70 = .ok (.aload_n 0, 1) := by decide +kernel
theorem dX6_kindOf_71 : decode cX6_kindOf 71 = .ok (.iconst (-1), 1) := by decide +kernel
theorem dX6_kindOf_72 : decode cX6_kindOf 72 = .ok (.putfield 136, 3) := by decide +kernel
theorem dX6_kindOf_75 : decode cX6_kindOf 75 = .ok (.bipush 24, 2) := by decide +kernel
theorem dX6_kindOf_77 : decode cX6_kindOf 77 = .ok (.istore 7, 2) := by decide +kernel
theorem dX6_kindOf_79 : decode cX6_kindOf 79 = .ok (.iload 7, 2) := by decide +kernel
theorem dX6_kindOf_81 : decode cX6_kindOf 81 = .ok (.ifCond .lt 33, 3) := by decide +kernel
theorem dX6_kindOf_84 : decode cX6_kindOf 84 = .ok (.aload_n 0, 1) := by decide +kernel
theorem dX6_kindOf_85 : decode cX6_kindOf 85 = .ok (.iload 6, 2) := by decide +kernel
theorem dX6_kindOf_87 : decode cX6_kindOf 87 = .ok (.iload 7, 2) := by decide +kernel
theorem dX6_kindOf_89 : decode cX6_kindOf 89 = .ok (.ishr, 1) := by decide +kernel
theorem dX6_kindOf_90 : decode cX6_kindOf 90 = .ok (.iconst 1, 1) := by decide +kernel
theorem dX6_kindOf_91 : decode cX6_kindOf 91 = .ok (.iand, 1) := by decide +kernel
theorem dX6_kindOf_92 : decode cX6_kindOf 92 = .ok (.iconst 1, 1) := by decide +kernel
theorem dX6_kindOf_93 : decode cX6_kindOf 93 = .ok (.if_icmp .ne 8, 3) := by decide +kernel
theorem dX6_kindOf_96 : decode cX6_kindOf 96 = .ok (.iload 7, 2) := by decide +kernel
theorem dX6_kindOf_98 : decode cX6_kindOf 98 = .ok (.goto 7, 3) := by decide +kernel
theorem dX6_kindOf_101 : decode cX6_kindOf 101 = .ok (.aload_n 0, 1) := by decide +kernel
theorem dX6_kindOf_102 : decode cX6_kindOf 102 = .ok (.getfield 136, 3) := by decide +kernel
theorem dX6_kindOf_105 : decode cX6_kindOf 105 = .ok (.putfield 136, 3) := by decide +kernel
theorem dX6_kindOf_108 : decode cX6_kindOf 108 = .ok (.iinc 7 (-1), 3) := by decide +kernel
theorem dX6_kindOf_111 : decode cX6_kindOf 111 = .ok (.goto (-32), 3) := by decide +kernel
theorem dX6_kindOf_114 : decode cX6_kindOf 114 = .ok (.iload 5, 2) := by decide +kernel
theorem dX6_kindOf_116 : decode cX6_kindOf 116 = .ok (.ifCond .eq 16, 3) := by decide +kernel
theorem dX6_kindOf_119 : decode cX6_kindOf 119 = .ok (.iload 6, 2) := by decide +kernel
theorem dX6_kindOf_121 : decode cX6_kindOf 121 = .ok (.ifCond .ne 7, 3) := by decide +kernel
theorem dX6_kindOf_124 : decode cX6_kindOf 124 = .ok (.iconst 3, 1) := by decide +kernel
theorem dX6_kindOf_125 : decode cX6_kindOf 125 = .ok (.goto 17, 3) := by decide +kernel
theorem dX6_kindOf_128 : decode cX6_kindOf 128 = .ok (.iconst 2, 1) := by decide +kernel
theorem dX6_kindOf_129 : decode cX6_kindOf 129 = .ok (.goto 13, 3) := by decide +kernel
theorem dX6_kindOf_132 : decode cX6_kindOf 132 = .ok (.iload 6, 2) := by decide +kernel
theorem dX6_kindOf_134 : decode cX6_kindOf 134 = .ok (.ifCond .ne 7, 3) := by decide +kernel
theorem dX6_kindOf_137 : decode cX6_kindOf 137 = .ok (.iconst 1, 1) := by decide +kernel
theorem dX6_kindOf_138 : decode cX6_kindOf 138 = .ok (.goto 4, 3) := by decide +kernel
theorem dX6_kindOf_141 : decode cX6_kindOf 141 = .ok (.iconst 0, 1) := by decide +kernel
theorem dX6_kindOf_142 : decode cX6_kindOf 142 = .ok (.ireturn, 1) := by decide +kernel
theorem dX6_tells_0 : decode cX6_tells 0 = .ok (.aload_n 0, 1) := by decide +kernel
theorem dX6_tells_1 : decode cX6_tells 1 = .ok (.iconst 0, 1) := by decide +kernel
theorem dX6_tells_2 : decode cX6_tells 2 = .ok (.putfield 139, 3) := by decide +kernel
theorem dX6_tells_5 : decode cX6_tells 5 = .ok (.iconst 0, 1) := by decide +kernel
theorem dX6_tells_6 : decode cX6_tells 6 = .ok (.istore_n 3, 1) := by decide +kernel
theorem dX6_tells_7 : decode cX6_tells 7 = .ok (.iload_n 3, 1) := by decide +kernel
theorem dX6_tells_8 : decode cX6_tells 8 = .ok (.bipush 25, 2) := by decide +kernel
theorem dX6_tells_10 : decode cX6_tells 10 = .ok (.if_icmp .ge 97, 3) := by decide +kernel
theorem dX6_tells_13 : decode cX6_tells 13 = .ok (.iconst 0, 1) := by decide +kernel
theorem dX6_tells_14 : decode cX6_tells 14 = .ok (.istore 4, 2) := by decide +kernel
theorem dX6_tells_16 : decode cX6_tells 16 = .ok (.iload 4, 2) := by decide +kernel
theorem dX6_tells_18 : decode cX6_tells 18 = .ok (.bipush 25, 2) := by decide +kernel
theorem dX6_tells_20 : decode cX6_tells 20 = .ok (.if_icmp .ge 81, 3) := by decide +kernel
theorem dX6_tells_23 : decode cX6_tells 23 = .ok (.iload_n 1, 1) := by decide +kernel
theorem dX6_tells_24 : decode cX6_tells 24 = .ok (.ifCond .lt 8, 3) := by decide +kernel
theorem dX6_tells_27 : decode cX6_tells 27 = .ok (.iload_n 3, 1) := by decide +kernel
theorem dX6_tells_28 : decode cX6_tells 28 = .ok (.iload_n 1, 1) := by decide +kernel
theorem dX6_tells_29 : decode cX6_tells 29 = .ok (.if_icmp .ne 17, 3) := by decide +kernel
theorem dX6_tells_32 : decode cX6_tells 32 = .ok (.aload_n 0, 1) := by decide +kernel
theorem dX6_tells_33 : decode cX6_tells 33 = .ok (.iload_n 3, 1) := by decide +kernel
theorem dX6_tells_34 : decode cX6_tells 34 = .ok (.iload 4, 2) := by decide +kernel
theorem dX6_tells_36 : decode cX6_tells 36 = .ok (.invokevirtual 117, 3) := by decide +kernel
theorem dX6_tells_39 : decode cX6_tells 39 = .ok (.ifCond .eq 7, 3) := by decide +kernel
theorem dX6_tells_42 : decode cX6_tells 42 = .ok (.iconst 1, 1) := by decide +kernel
theorem dX6_tells_43 : decode cX6_tells 43 = .ok (.goto 4, 3) := by decide +kernel
theorem dX6_tells_46 : decode cX6_tells 46 = .ok (.iconst 0, 1) := by decide +kernel
theorem dX6_tells_47 : decode cX6_tells 47 = .ok (.istore 5, 2) := by decide +kernel
theorem dX6_tells_49 : decode cX6_tells 49 = .ok (.iload 5, 2) := by decide +kernel
theorem dX6_tells_51 : decode cX6_tells 51 = .ok (.ifCond .eq 44, 3) := by decide +kernel
theorem dX6_tells_54 : decode cX6_tells 54 = .ok (.iload_n 2, 1) := by decide +kernel
theorem dX6_tells_55 : decode cX6_tells 55 = .ok (.ifCond .lt 14, 3) := by decide +kernel
theorem dX6_tells_58 : decode cX6_tells 58 = .ok (.aload_n 0, 1) := by decide +kernel
theorem dX6_tells_59 : decode cX6_tells 59 = .ok (.iload_n 3, 1) := by decide +kernel
theorem dX6_tells_60 : decode cX6_tells 60 = .ok (.iload 4, 2) := by decide +kernel
theorem dX6_tells_62 : decode cX6_tells 62 = .ok (.invokevirtual 142, 3) := by decide +kernel
theorem dX6_tells_65 : decode cX6_tells 65 = .ok (.iload_n 2, 1) := by decide +kernel
theorem dX6_tells_66 : decode cX6_tells 66 = .ok (.if_icmp .ne 29, 3) := by decide +kernel
theorem dX6_tells_69 : decode cX6_tells 69 = .ok (.aload_n 0, 1) := by decide +kernel
theorem dX6_tells_70 : decode cX6_tells 70 = .ok (.getfield 26, 3) := by decide +kernel
theorem dX6_tells_73 : decode cX6_tells 73 = .ok (.aload_n 0, 1) := by decide +kernel
theorem dX6_tells_74 : decode cX6_tells 74 = .ok (.getfield 139, 3) := by decide +kernel
theorem dX6_tells_77 : decode cX6_tells 77 = .ok (.bipush 100, 2) := by decide +kernel
theorem dX6_tells_79 : decode cX6_tells 79 = .ok (.iload_n 3, 1) := by decide +kernel
theorem dX6_tells_80 : decode cX6_tells 80 = .ok (.imul, 1) := by decide +kernel
theorem dX6_tells_81 : decode cX6_tells 81 = .ok (.iload 4, 2) := by decide +kernel
theorem dX6_tells_83 : decode cX6_tells 83 = .ok (.iadd, 1) := by decide +kernel
theorem dX6_tells_84 : decode cX6_tells 84 = .ok (.iastore, 1) := by decide +kernel
theorem dX6_tells_85 : decode cX6_tells 85 = .ok (.aload_n 0, 1) := by decide +kernel
theorem dX6_tells_86 : decode cX6_tells 86 = .ok (.dup, 1) := by decide +kernel
theorem dX6_tells_87 : decode cX6_tells 87 = .ok (.getfield 139, 3) := by decide +kernel
theorem dX6_tells_90 : decode cX6_tells 90 = .ok (.iconst 1, 1) := by decide +kernel
theorem dX6_tells_91 : decode cX6_tells 91 = .ok (.iadd, 1) := by decide +kernel
theorem dX6_tells_92 : decode cX6_tells 92 = .ok (.putfield 139, 3) := by decide +kernel
theorem dX6_tells_95 : decode cX6_tells 95 = .ok (.iinc 4 1, 3) := by decide +kernel
theorem dX6_tells_98 : decode cX6_tells 98 = .ok (.goto (-82), 3) := by decide +kernel
theorem dX6_tells_101 : decode cX6_tells 101 = .ok (.iinc 3 1, 3) := by decide +kernel
theorem dX6_tells_104 : decode cX6_tells 104 = .ok (.goto (-97), 3) := by decide +kernel
theorem dX6_tells_107 : decode cX6_tells 107 = .ok (.return_, 1) := by decide +kernel
theorem dX6_move_0 : decode cX6_move 0 = .ok (.aload_n 0, 1) := by decide +kernel
theorem dX6_move_1 : decode cX6_move 1 = .ok (.iconst (-1), 1) := by decide +kernel
theorem dX6_move_2 : decode cX6_move 2 = .ok (.iconst (-1), 1) := by decide +kernel
theorem dX6_move_3 : decode cX6_move 3 = .ok (.invokevirtual 145, 3) := by decide +kernel
theorem dX6_move_6 : decode cX6_move 6 = .ok (.iload_n 1, 1) := by decide +kernel
theorem dX6_move_7 : decode cX6_move 7 = .ok (.iconst 0, 1) := by decide +kernel
theorem dX6_move_8 : decode cX6_move 8 = .ok (.aload_n 0, 1) := by decide +kernel
theorem dX6_move_9 : decode cX6_move 9 = .ok (.getfield 139, 3) := by decide +kernel
theorem dX6_move_12 : decode cX6_move 12 = .ok (.iconst 1, 1) := by decide +kernel
theorem dX6_move_13 : decode cX6_move 13 = .ok (.isub, 1) := by decide +kernel
theorem dX6_move_14 : decode cX6_move 14 = .ok (.invokestatic 60, 3) := by decide +kernel
theorem dX6_move_17 : decode cX6_move 17 = .ok (.ifCond .eq 12, 3) := by decide +kernel
theorem dX6_move_20 : decode cX6_move 20 = .ok (.aload_n 0, 1) := by decide +kernel
theorem dX6_move_21 : decode cX6_move 21 = .ok (.getfield 26, 3) := by decide +kernel
theorem dX6_move_24 : decode cX6_move 24 = .ok (.iload_n 1, 1) := by decide +kernel
theorem dX6_move_25 : decode cX6_move 25 = .ok (.iaload, 1) := by decide +kernel
theorem dX6_move_26 : decode cX6_move 26 = .ok (.goto 4, 3) := by decide +kernel
theorem dX6_move_29 : decode cX6_move 29 = .ok (.iconst (-1), 1) := by decide +kernel
theorem dX6_move_30 : decode cX6_move 30 = .ok (.ireturn, 1) := by decide +kernel
theorem dX6_key_0 : decode cX6_key 0 = .ok (.aload_n 0, 1) := by decide +kernel
theorem dX6_key_1 : decode cX6_key 1 = .ok (.invokevirtual 132, 3) := by decide +kernel
theorem dX6_key_4 : decode cX6_key 4 = .ok (.ifCond .ne 6, 3) := by decide +kernel
theorem dX6_key_7 : decode cX6_key 7 = .ok (.bipush (-4), 2) := by decide +kernel
theorem dX6_key_9 : decode cX6_key 9 = .ok (.ireturn, 1) := by decide +kernel
theorem dX6_key_10 : decode cX6_key 10 = .ok (.aload_n 0, 1) := by decide +kernel
theorem dX6_key_11 : decode cX6_key 11 = .ok (.iconst (-1), 1) := by decide +kernel
theorem dX6_key_12 : decode cX6_key 12 = .ok (.iconst 3, 1) := by decide +kernel
theorem dX6_key_13 : decode cX6_key 13 = .ok (.invokevirtual 145, 3) := by decide +kernel
theorem dX6_key_16 : decode cX6_key 16 = .ok (.iload_n 1, 1) := by decide +kernel
theorem dX6_key_17 : decode cX6_key 17 = .ok (.iconst 0, 1) := by decide +kernel
theorem dX6_key_18 : decode cX6_key 18 = .ok (.aload_n 0, 1) := by decide +kernel
theorem dX6_key_19 : decode cX6_key 19 = .ok (.getfield 139, 3) := by decide +kernel
theorem dX6_key_22 : decode cX6_key 22 = .ok (.iconst 1, 1) := by decide +kernel
theorem dX6_key_23 : decode cX6_key 23 = .ok (.isub, 1) := by decide +kernel
theorem dX6_key_24 : decode cX6_key 24 = .ok (.invokestatic 60, 3) := by decide +kernel
theorem dX6_key_27 : decode cX6_key 27 = .ok (.ifCond .eq 12, 3) := by decide +kernel
theorem dX6_key_30 : decode cX6_key 30 = .ok (.aload_n 0, 1) := by decide +kernel
theorem dX6_key_31 : decode cX6_key 31 = .ok (.getfield 26, 3) := by decide +kernel
theorem dX6_key_34 : decode cX6_key 34 = .ok (.iload_n 1, 1) := by decide +kernel
theorem dX6_key_35 : decode cX6_key 35 = .ok (.iaload, 1) := by decide +kernel
theorem dX6_key_36 : decode cX6_key 36 = .ok (.goto 4, 3) := by decide +kernel
theorem dX6_key_39 : decode cX6_key 39 = .ok (.iconst (-1), 1) := by decide +kernel
theorem dX6_key_40 : decode cX6_key 40 = .ok (.ireturn, 1) := by decide +kernel
theorem dX6_areSquares_0 : decode cX6_areSquares 0 = .ok (.iload_n 1, 1) := by decide +kernel
theorem dX6_areSquares_1 : decode cX6_areSquares 1 = .ok (.invokestatic 64, 3) := by decide +kernel
theorem dX6_areSquares_4 : decode cX6_areSquares 4 = .ok (.ifCond .eq 14, 3) := by decide +kernel
theorem dX6_areSquares_7 : decode cX6_areSquares 7 = .ok (.iload_n 2, 1) := by decide +kernel
theorem dX6_areSquares_8 : decode cX6_areSquares 8 = .ok (.invokestatic 64, 3) := by decide +kernel
theorem dX6_areSquares_11 : decode cX6_areSquares 11 = .ok (.ifCond .eq 7, 3) := by decide +kernel
theorem dX6_areSquares_14 : decode cX6_areSquares 14 = .ok (.iconst 1, 1) := by decide +kernel
theorem dX6_areSquares_15 : decode cX6_areSquares 15 = .ok (.goto 4, 3) := by decide +kernel
theorem dX6_areSquares_18 : decode cX6_areSquares 18 = .ok (.iconst 0, 1) := by decide +kernel
theorem dX6_areSquares_19 : decode cX6_areSquares 19 = .ok (.ireturn, 1) := by decide +kernel
theorem dX6_kind_0 : decode cX6_kind 0 = .ok (.aload_n 0, 1) := by decide +kernel
theorem dX6_kind_1 : decode cX6_kind 1 = .ok (.iload_n 1, 1) := by decide +kernel
theorem dX6_kind_2 : decode cX6_kind 2 = .ok (.iload_n 2, 1) := by decide +kernel
theorem dX6_kind_3 : decode cX6_kind 3 = .ok (.invokevirtual 149, 3) := by decide +kernel
theorem dX6_kind_6 : decode cX6_kind 6 = .ok (.ifCond .eq 12, 3) := by decide +kernel
theorem dX6_kind_9 : decode cX6_kind 9 = .ok (.aload_n 0, 1) := by decide +kernel
theorem dX6_kind_10 : decode cX6_kind 10 = .ok (.iload_n 1, 1) := by decide +kernel
theorem dX6_kind_11 : decode cX6_kind 11 = .ok (.iload_n 2, 1) := by decide +kernel
theorem dX6_kind_12 : decode cX6_kind 12 = .ok (.invokevirtual 117, 3) := by decide +kernel
theorem dX6_kind_15 : decode cX6_kind 15 = .ok (.ifCond .ne 5, 3) := by decide +kernel
theorem dX6_kind_18 : decode cX6_kind 18 = .ok (.iconst (-1), 1) := by decide +kernel
theorem dX6_kind_19 : decode cX6_kind 19 = .ok (.ireturn, 1) := by decide +kernel
theorem dX6_kind_20 : decode cX6_kind 20 = .ok (.aload_n 0, 1) := by decide +kernel
theorem dX6_kind_21 : decode cX6_kind 21 = .ok (.invokevirtual 132, 3) := by decide +kernel
theorem dX6_kind_24 : decode cX6_kind 24 = .ok (.ifCond .eq 12, 3) := by decide +kernel
theorem dX6_kind_27 : decode cX6_kind 27 = .ok (.aload_n 0, 1) := by decide +kernel
theorem dX6_kind_28 : decode cX6_kind 28 = .ok (.iload_n 1, 1) := by decide +kernel
theorem dX6_kind_29 : decode cX6_kind 29 = .ok (.iload_n 2, 1) := by decide +kernel
theorem dX6_kind_30 : decode cX6_kind 30 = .ok (.invokevirtual 142, 3) := by decide +kernel
theorem dX6_kind_33 : decode cX6_kind 33 = .ok (.goto 5, 3) := by decide +kernel
theorem dX6_kind_36 : decode cX6_kind 36 = .ok (.bipush (-4), 2) := by decide +kernel
theorem dX6_kind_38 : decode cX6_kind 38 = .ok (.ireturn, 1) := by decide +kernel
theorem dX6_refutation_0 : decode cX6_refutation 0 = .ok (.aload_n 0, 1) := by decide +kernel
theorem dX6_refutation_1 : decode cX6_refutation 1 = .ok (.iload_n 1, 1) := by decide +kernel
theorem dX6_refutation_2 : decode cX6_refutation 2 = .ok (.iload_n 2, 1) := by decide +kernel
theorem dX6_refutation_3 : decode cX6_refutation 3 = .ok (.invokevirtual 149, 3) := by decide +kernel
theorem dX6_refutation_6 : decode cX6_refutation 6 = .ok (.ifCond .ne 5, 3) := by decide +kernel
theorem dX6_refutation_9 : decode cX6_refutation 9 = .ok (.iconst (-1), 1) := by decide +kernel
theorem dX6_refutation_10 : decode cX6_refutation 10 = .ok (.ireturn, 1) := by decide +kernel
theorem dX6_refutation_11 : decode cX6_refutation 11 = .ok (.aload_n 0, 1) := by decide +kernel
theorem dX6_refutation_12 : decode cX6_refutation 12 = .ok (.invokevirtual 132, 3) := by decide +kernel
theorem dX6_refutation_15 : decode cX6_refutation 15 = .ok (.ifCond .ne 6, 3) := by decide +kernel
theorem dX6_refutation_18 : decode cX6_refutation 18 = .ok (.bipush (-4), 2) := by decide +kernel
theorem dX6_refutation_20 : decode cX6_refutation 20 = .ok (.ireturn, 1) := by decide +kernel
theorem dX6_refutation_21 : decode cX6_refutation 21 = .ok (.aload_n 0, 1) := by decide +kernel
theorem dX6_refutation_22 : decode cX6_refutation 22 = .ok (.iload_n 1, 1) := by decide +kernel
theorem dX6_refutation_23 : decode cX6_refutation 23 = .ok (.iload_n 2, 1) := by decide +kernel
theorem dX6_refutation_24 : decode cX6_refutation 24 = .ok (.invokevirtual 117, 3) := by decide +kernel
theorem dX6_refutation_27 : decode cX6_refutation 27 = .ok (.ifCond .eq 20, 3) := by decide +kernel
theorem dX6_refutation_30 : decode cX6_refutation 30 = .ok (.aload_n 0, 1) := by decide +kernel
theorem dX6_refutation_31 : decode cX6_refutation 31 = .ok (.iload_n 1, 1) := by decide +kernel
theorem dX6_refutation_32 : decode cX6_refutation 32 = .ok (.iload_n 2, 1) := by decide +kernel
theorem dX6_refutation_33 : decode cX6_refutation 33 = .ok (.invokevirtual 142, 3) := by decide +kernel
theorem dX6_refutation_36 : decode cX6_refutation 36 = .ok (.iconst 2, 1) := by decide +kernel
theorem dX6_refutation_37 : decode cX6_refutation 37 = .ok (.if_icmp .ne 10, 3) := by decide +kernel
theorem dX6_refutation_40 : decode cX6_refutation 40 = .ok (.aload_n 0, 1) := by decide +kernel
theorem dX6_refutation_41 : decode cX6_refutation 41 = .ok (.getfield 136, 3) := by decide +kernel
theorem dX6_refutation_44 : decode cX6_refutation 44 = .ok (.goto 4, 3) := by decide +kernel
theorem dX6_refutation_47 : decode cX6_refutation 47 = .ok (.iconst (-1), 1) := by decide +kernel
theorem dX6_refutation_48 : decode cX6_refutation 48 = .ok (.ireturn, 1) := by decide +kernel
theorem dX6_manyOf_0 : decode cX6_manyOf 0 = .ok (.aload_n 0, 1) := by decide +kernel
theorem dX6_manyOf_1 : decode cX6_manyOf 1 = .ok (.iconst (-1), 1) := by decide +kernel
theorem dX6_manyOf_2 : decode cX6_manyOf 2 = .ok (.iload_n 1, 1) := by decide +kernel
theorem dX6_manyOf_3 : decode cX6_manyOf 3 = .ok (.invokevirtual 145, 3) := by decide +kernel
theorem dX6_manyOf_6 : decode cX6_manyOf 6 = .ok (.aload_n 0, 1) := by decide +kernel
theorem dX6_manyOf_7 : decode cX6_manyOf 7 = .ok (.getfield 139, 3) := by decide +kernel
theorem dX6_manyOf_10 : decode cX6_manyOf 10 = .ok (.ireturn, 1) := by decide +kernel
theorem dX6_many_0 : decode cX6_many 0 = .ok (.iload_n 1, 1) := by decide +kernel
theorem dX6_many_1 : decode cX6_many 1 = .ok (.iconst 0, 1) := by decide +kernel
theorem dX6_many_2 : decode cX6_many 2 = .ok (.iconst 3, 1) := by decide +kernel
theorem dX6_many_3 : decode cX6_many 3 = .ok (.invokestatic 60, 3) := by decide +kernel
theorem dX6_many_6 : decode cX6_many 6 = .ok (.ifCond .ne 6, 3) := by decide +kernel
theorem dX6_many_9 : decode cX6_many 9 = .ok (.bipush (-2), 2) := by decide +kernel
theorem dX6_many_11 : decode cX6_many 11 = .ok (.ireturn, 1) := by decide +kernel
theorem dX6_many_12 : decode cX6_many 12 = .ok (.aload_n 0, 1) := by decide +kernel
theorem dX6_many_13 : decode cX6_many 13 = .ok (.invokevirtual 132, 3) := by decide +kernel
theorem dX6_many_16 : decode cX6_many 16 = .ok (.ifCond .eq 11, 3) := by decide +kernel
theorem dX6_many_19 : decode cX6_many 19 = .ok (.aload_n 0, 1) := by decide +kernel
theorem dX6_many_20 : decode cX6_many 20 = .ok (.iload_n 1, 1) := by decide +kernel
theorem dX6_many_21 : decode cX6_many 21 = .ok (.invokevirtual 152, 3) := by decide +kernel
theorem dX6_many_24 : decode cX6_many 24 = .ok (.goto 5, 3) := by decide +kernel
theorem dX6_many_27 : decode cX6_many 27 = .ok (.bipush (-4), 2) := by decide +kernel
theorem dX6_many_29 : decode cX6_many 29 = .ok (.ireturn, 1) := by decide +kernel
theorem dX6_duals_0 : decode cX6_duals 0 = .ok (.aload_n 0, 1) := by decide +kernel
theorem dX6_duals_1 : decode cX6_duals 1 = .ok (.invokevirtual 132, 3) := by decide +kernel
theorem dX6_duals_4 : decode cX6_duals 4 = .ok (.ifCond .eq 17, 3) := by decide +kernel
theorem dX6_duals_7 : decode cX6_duals 7 = .ok (.iconst 0, 1) := by decide +kernel
theorem dX6_duals_8 : decode cX6_duals 8 = .ok (.aload_n 0, 1) := by decide +kernel
theorem dX6_duals_9 : decode cX6_duals 9 = .ok (.iconst 3, 1) := by decide +kernel
theorem dX6_duals_10 : decode cX6_duals 10 = .ok (.invokevirtual 152, 3) := by decide +kernel
theorem dX6_duals_13 : decode cX6_duals 13 = .ok (.iconst 1, 1) := by decide +kernel
theorem dX6_duals_14 : decode cX6_duals 14 = .ok (.isub, 1) := by decide +kernel
theorem dX6_duals_15 : decode cX6_duals 15 = .ok (.invokestatic 104, 3) := by decide +kernel
theorem dX6_duals_18 : decode cX6_duals 18 = .ok (.goto 5, 3) := by decide +kernel
theorem dX6_duals_21 : decode cX6_duals 21 = .ok (.bipush (-4), 2) := by decide +kernel
theorem dX6_duals_23 : decode cX6_duals 23 = .ok (.ireturn, 1) := by decide +kernel
theorem dX6_would_0 : decode cX6_would 0 = .ok (.iload_n 2, 1) := by decide +kernel
theorem dX6_would_1 : decode cX6_would 1 = .ok (.invokestatic 64, 3) := by decide +kernel
theorem dX6_would_4 : decode cX6_would 4 = .ok (.ifCond .eq 24, 3) := by decide +kernel
theorem dX6_would_7 : decode cX6_would 7 = .ok (.aload_n 0, 1) := by decide +kernel
theorem dX6_would_8 : decode cX6_would 8 = .ok (.getfield 9, 3) := by decide +kernel
theorem dX6_would_11 : decode cX6_would 11 = .ok (.iload_n 2, 1) := by decide +kernel
theorem dX6_would_12 : decode cX6_would 12 = .ok (.iaload, 1) := by decide +kernel
theorem dX6_would_13 : decode cX6_would 13 = .ok (.iconst 1, 1) := by decide +kernel
theorem dX6_would_14 : decode cX6_would 14 = .ok (.if_icmp .eq 14, 3) := by decide +kernel
theorem dX6_would_17 : decode cX6_would 17 = .ok (.aload_n 0, 1) := by decide +kernel
theorem dX6_would_18 : decode cX6_would 18 = .ok (.getfield 9, 3) := by decide +kernel
theorem dX6_would_21 : decode cX6_would 21 = .ok (.iload_n 2, 1) := by decide +kernel
theorem dX6_would_22 : decode cX6_would 22 = .ok (.iaload, 1) := by decide +kernel
theorem dX6_would_23 : decode cX6_would 23 = .ok (.bipush 7, 2) := by decide +kernel
theorem dX6_would_25 : decode cX6_would 25 = .ok (.if_icmp .ne 5, 3) := by decide +kernel
theorem dX6_would_28 : decode cX6_would 28 = .ok (.iconst (-1), 1) := by decide +kernel
theorem dX6_would_29 : decode cX6_would 29 = .ok (.ireturn, 1) := by decide +kernel
theorem dX6_would_30 : decode cX6_would 30 = .ok (.iload_n 1, 1) := by decide +kernel
theorem dX6_would_31 : decode cX6_would 31 = .ok (.iconst 0, 1) := by decide +kernel
theorem dX6_would_32 : decode cX6_would 32 = .ok (.bipush 6, 2) := by decide +kernel
theorem dX6_would_34 : decode cX6_would 34 = .ok (.invokestatic 60, 3) := by decide +kernel
theorem dX6_would_37 : decode cX6_would 37 = .ok (.ifCond .eq 16, 3) := by decide +kernel
theorem dX6_would_40 : decode cX6_would 40 = .ok (.iload_n 1, 1) := by decide +kernel
theorem dX6_would_41 : decode cX6_would 41 = .ok (.iconst 1, 1) := by decide +kernel
theorem dX6_would_42 : decode cX6_would 42 = .ok (.if_icmp .ne 14, 3) := by decide +kernel
theorem dX6_would_45 : decode cX6_would 45 = .ok (.aload_n 0, 1) := by decide +kernel
theorem dX6_would_46 : decode cX6_would 46 = .ok (.iconst 1, 1) := by decide +kernel
theorem dX6_would_47 : decode cX6_would 47 = .ok (.invokevirtual 72, 3) := by decide +kernel
theorem dX6_would_50 : decode cX6_would 50 = .ok (.ifCond .lt 6, 3) := by decide +kernel
theorem dX6_would_53 : decode cX6_would 53 = .ok (.bipush (-2), 2) := by decide +kernel
theorem dX6_would_55 : decode cX6_would 55 = .ok (.ireturn, 1) := by decide +kernel
theorem dX6_would_56 : decode cX6_would 56 = .ok (.aload_n 0, 1) := by decide +kernel
theorem dX6_would_57 : decode cX6_would 57 = .ok (.getfield 9, 3) := by decide +kernel
theorem dX6_would_60 : decode cX6_would 60 = .ok (.iload_n 2, 1) := by decide +kernel
theorem dX6_would_61 : decode cX6_would 61 = .ok (.iaload, 1) := by decide +kernel
theorem dX6_would_62 : decode cX6_would 62 = .ok (.istore_n 3, 1) := by decide +kernel
theorem dX6_would_63 : decode cX6_would 63 = .ok (.aload_n 0, 1) := by decide +kernel
theorem dX6_would_64 : decode cX6_would 64 = .ok (.getfield 9, 3) := by decide +kernel
theorem dX6_would_67 : decode cX6_would 67 = .ok (.iload_n 2, 1) := by decide +kernel
theorem dX6_would_68 : decode cX6_would 68 = .ok (.iload_n 1, 1) := by decide +kernel
theorem dX6_would_69 : decode cX6_would 69 = .ok (.iastore, 1) := by decide +kernel
theorem dX6_would_70 : decode cX6_would 70 = .ok (.aload_n 0, 1) := by decide +kernel
theorem dX6_would_71 : decode cX6_would 71 = .ok (.invokevirtual 132, 3) := by decide +kernel
theorem dX6_would_74 : decode cX6_would 74 = .ok (.ifCond .eq 11, 3) := by decide +kernel
theorem dX6_would_77 : decode cX6_would 77 = .ok (.aload_n 0, 1) := by decide +kernel
theorem dX6_would_78 : decode cX6_would 78 = .ok (.iconst 3, 1) := by decide +kernel
theorem dX6_would_79 : decode cX6_would 79 = .ok (.invokevirtual 152, 3) := by decide +kernel
theorem dX6_would_82 : decode cX6_would 82 = .ok (.goto 5, 3) := by decide +kernel
theorem dX6_would_85 : decode cX6_would 85 = .ok (.bipush (-4), 2) := by decide +kernel
theorem dX6_would_87 : decode cX6_would 87 = .ok (.istore 4, 2) := by decide +kernel
theorem dX6_would_89 : decode cX6_would 89 = .ok (.aload_n 0, 1) := by decide +kernel
theorem dX6_would_90 : decode cX6_would 90 = .ok (.getfield 9, 3) := by decide +kernel
theorem dX6_would_93 : decode cX6_would 93 = .ok (.iload_n 2, 1) := by decide +kernel
theorem dX6_would_94 : decode cX6_would 94 = .ok (.iload_n 3, 1) := by decide +kernel
theorem dX6_would_95 : decode cX6_would 95 = .ok (.iastore, 1) := by decide +kernel
theorem dX6_would_96 : decode cX6_would 96 = .ok (.iload 4, 2) := by decide +kernel
theorem dX6_would_98 : decode cX6_would 98 = .ok (.ireturn, 1) := by decide +kernel
theorem dX6_canSpare_0 : decode cX6_canSpare 0 = .ok (.aload_n 0, 1) := by decide +kernel
theorem dX6_canSpare_1 : decode cX6_canSpare 1 = .ok (.getfield 9, 3) := by decide +kernel
theorem dX6_canSpare_4 : decode cX6_canSpare 4 = .ok (.iload_n 1, 1) := by decide +kernel
theorem dX6_canSpare_5 : decode cX6_canSpare 5 = .ok (.iaload, 1) := by decide +kernel
theorem dX6_canSpare_6 : decode cX6_canSpare 6 = .ok (.istore_n 2, 1) := by decide +kernel
theorem dX6_canSpare_7 : decode cX6_canSpare 7 = .ok (.aload_n 0, 1) := by decide +kernel
theorem dX6_canSpare_8 : decode cX6_canSpare 8 = .ok (.iconst 3, 1) := by decide +kernel
theorem dX6_canSpare_9 : decode cX6_canSpare 9 = .ok (.invokevirtual 152, 3) := by decide +kernel
theorem dX6_canSpare_12 : decode cX6_canSpare 12 = .ok (.istore_n 3, 1) := by decide +kernel
theorem dX6_canSpare_13 : decode cX6_canSpare 13 = .ok (.aload_n 0, 1) := by decide +kernel
theorem dX6_canSpare_14 : decode cX6_canSpare 14 = .ok (.getfield 26, 3) := by decide +kernel
theorem dX6_canSpare_17 : decode cX6_canSpare 17 = .ok (.iconst 0, 1) := by decide +kernel
theorem dX6_canSpare_18 : decode cX6_canSpare 18 = .ok (.aload_n 0, 1) := by decide +kernel
theorem dX6_canSpare_19 : decode cX6_canSpare 19 = .ok (.getfield 29, 3) := by decide +kernel
theorem dX6_canSpare_22 : decode cX6_canSpare 22 = .ok (.iconst 0, 1) := by decide +kernel
theorem dX6_canSpare_23 : decode cX6_canSpare 23 = .ok (.iload_n 3, 1) := by decide +kernel
theorem dX6_canSpare_24 : decode cX6_canSpare 24 = .ok (.invokestatic 45, 3) := by decide +kernel
theorem dX6_canSpare_27 : decode cX6_canSpare 27 = .ok (.iload_n 2, 1) := by decide +kernel
theorem dX6_canSpare_28 : decode cX6_canSpare 28 = .ok (.iconst 2, 1) := by decide +kernel
theorem dX6_canSpare_29 : decode cX6_canSpare 29 = .ok (.bipush 6, 2) := by decide +kernel
theorem dX6_canSpare_31 : decode cX6_canSpare 31 = .ok (.invokestatic 60, 3) := by decide +kernel
theorem dX6_canSpare_34 : decode cX6_canSpare 34 = .ok (.ifCond .eq 20, 3) := by decide +kernel
theorem dX6_canSpare_37 : decode cX6_canSpare 37 = .ok (.iload_n 3, 1) := by decide +kernel
theorem dX6_canSpare_38 : decode cX6_canSpare 38 = .ok (.ifCond .eq 16, 3) := by decide +kernel
theorem dX6_canSpare_41 : decode cX6_canSpare 41 = .ok (.aload_n 0, 1) := by decide +kernel
theorem dX6_canSpare_42 : decode cX6_canSpare 42 = .ok (.getfield 29, 3) := by decide +kernel
theorem dX6_canSpare_45 : decode cX6_canSpare 45 = .ok (.iconst 0, 1) := by decide +kernel
theorem dX6_canSpare_46 : decode cX6_canSpare 46 = .ok (.iaload, 1) := by decide +kernel
theorem dX6_canSpare_47 : decode cX6_canSpare 47 = .ok (.bipush 100, 2) := by decide +kernel
theorem dX6_canSpare_49 : decode cX6_canSpare 49 = .ok (.idiv, 1) := by decide +kernel
theorem dX6_canSpare_50 : decode cX6_canSpare 50 = .ok (.iload_n 1, 1) := by decide +kernel
theorem dX6_canSpare_51 : decode cX6_canSpare 51 = .ok (.if_icmp .ne 5, 3) := by decide +kernel
theorem dX6_canSpare_54 : decode cX6_canSpare 54 = .ok (.iconst 0, 1) := by decide +kernel
theorem dX6_canSpare_55 : decode cX6_canSpare 55 = .ok (.ireturn, 1) := by decide +kernel
theorem dX6_canSpare_56 : decode cX6_canSpare 56 = .ok (.aload_n 0, 1) := by decide +kernel
theorem dX6_canSpare_57 : decode cX6_canSpare 57 = .ok (.getfield 9, 3) := by decide +kernel
theorem dX6_canSpare_60 : decode cX6_canSpare 60 = .ok (.iload_n 1, 1) := by decide +kernel
theorem dX6_canSpare_61 : decode cX6_canSpare 61 = .ok (.iconst 0, 1) := by decide +kernel
theorem dX6_canSpare_62 : decode cX6_canSpare 62 = .ok (.iastore, 1) := by decide +kernel
theorem dX6_canSpare_63 : decode cX6_canSpare 63 = .ok (.aload_n 0, 1) := by decide +kernel
theorem dX6_canSpare_64 : decode cX6_canSpare 64 = .ok (.invokevirtual 132, 3) := by decide +kernel
theorem dX6_canSpare_67 : decode cX6_canSpare 67 = .ok (.ifCond .eq 16, 3) := by decide +kernel
theorem dX6_canSpare_70 : decode cX6_canSpare 70 = .ok (.aload_n 0, 1) := by decide +kernel
theorem dX6_canSpare_71 : decode cX6_canSpare 71 = .ok (.iconst 3, 1) := by decide +kernel
theorem dX6_canSpare_72 : decode cX6_canSpare 72 = .ok (.invokevirtual 152, 3) := by decide +kernel
theorem dX6_canSpare_75 : decode cX6_canSpare 75 = .ok (.iload_n 3, 1) := by decide +kernel
theorem dX6_canSpare_76 : decode cX6_canSpare 76 = .ok (.if_icmp .ne 7, 3) := by decide +kernel
theorem dX6_canSpare_79 : decode cX6_canSpare 79 = .ok (.iconst 1, 1) := by decide +kernel
theorem dX6_canSpare_80 : decode cX6_canSpare 80 = .ok (.goto 4, 3) := by decide +kernel
theorem dX6_canSpare_83 : decode cX6_canSpare 83 = .ok (.iconst 0, 1) := by decide +kernel
theorem dX6_canSpare_84 : decode cX6_canSpare 84 = .ok (.istore 4, 2) := by decide +kernel
theorem dX6_canSpare_86 : decode cX6_canSpare 86 = .ok (.iconst 0, 1) := by decide +kernel
theorem dX6_canSpare_87 : decode cX6_canSpare 87 = .ok (.istore 5, 2) := by decide +kernel
theorem dX6_canSpare_89 : decode cX6_canSpare 89 = .ok (.iload 5, 2) := by decide +kernel
theorem dX6_canSpare_91 : decode cX6_canSpare 91 = .ok (.iload_n 3, 1) := by decide +kernel
theorem dX6_canSpare_92 : decode cX6_canSpare 92 = .ok (.if_icmp .ge 38, 3) := by decide +kernel
theorem dX6_canSpare_95 : decode cX6_canSpare 95 = .ok (.iload 4, 2) := by decide +kernel
theorem dX6_canSpare_97 : decode cX6_canSpare 97 = .ok (.ifCond .eq 33, 3) := by decide +kernel
theorem dX6_canSpare_100 : decode cX6_canSpare 100 = .ok (.aload_n 0, 1) := by decide +kernel
theorem dX6_canSpare_101 : decode cX6_canSpare 101 = .ok (.getfield 26, 3) := by decide +kernel
theorem dX6_canSpare_104 : decode cX6_canSpare 104 = .ok (.iload 5, 2) := by decide +kernel
theorem dX6_canSpare_106 : decode cX6_canSpare 106 = .ok (.iaload, 1) := by decide +kernel
theorem dX6_canSpare_107 : decode cX6_canSpare 107 = .ok (.aload_n 0, 1) := by decide +kernel
theorem dX6_canSpare_108 : decode cX6_canSpare 108 = .ok (.getfield 29, 3) := by decide +kernel
theorem dX6_canSpare_111 : decode cX6_canSpare 111 = .ok (.iload 5, 2) := by decide +kernel
theorem dX6_canSpare_113 : decode cX6_canSpare 113 = .ok (.iaload, 1) := by decide +kernel
theorem dX6_canSpare_114 : decode cX6_canSpare 114 = .ok (.if_icmp .ne 7, 3) := by decide +kernel
theorem dX6_canSpare_117 : decode cX6_canSpare 117 = .ok (.iconst 1, 1) := by decide +kernel
theorem dX6_canSpare_118 : decode cX6_canSpare 118 = .ok (.goto 4, 3) := by decide +kernel
theorem dX6_canSpare_121 : decode cX6_canSpare 121 = .ok (.iconst 0, 1) := by decide +kernel
theorem dX6_canSpare_122 : decode cX6_canSpare 122 = .ok (.istore 4, 2) := by decide +kernel
theorem dX6_canSpare_124 : decode cX6_canSpare 124 = .ok (.iinc 5 1, 3) := by decide +kernel
theorem dX6_canSpare_127 : decode cX6_canSpare 127 = .ok (.goto (-38), 3) := by decide +kernel
theorem dX6_canSpare_130 : decode cX6_canSpare 130 = .ok (.aload_n 0, 1) := by decide +kernel
theorem dX6_canSpare_131 : decode cX6_canSpare 131 = .ok (.getfield 9, 3) := by decide +kernel
theorem dX6_canSpare_134 : decode cX6_canSpare 134 = .ok (.iload_n 1, 1) := by decide +kernel
theorem dX6_canSpare_135 : decode cX6_canSpare 135 = .ok (.iload_n 2, 1) := by decide +kernel
theorem dX6_canSpare_136 : decode cX6_canSpare 136 = .ok (.iastore, 1) := by decide +kernel
theorem dX6_canSpare_137 : decode cX6_canSpare 137 = .ok (.iload 4, 2) := by decide +kernel
theorem dX6_canSpare_139 : decode cX6_canSpare 139 = .ok (.ireturn, 1) := by decide +kernel
theorem dX6_doThrift_0 : decode cX6_doThrift 0 = .ok (.aload_n 0, 1) := by decide +kernel
theorem dX6_doThrift_1 : decode cX6_doThrift 1 = .ok (.invokevirtual 132, 3) := by decide +kernel
theorem dX6_doThrift_4 : decode cX6_doThrift 4 = .ok (.ifCond .ne 33, 3) := by decide +kernel
theorem dX6_doThrift_7 : decode cX6_doThrift 7 = .ok (.aload_n 0, 1) := by decide +kernel
theorem dX6_doThrift_8 : decode cX6_doThrift 8 = .ok (.bipush 7, 2) := by decide +kernel
theorem dX6_doThrift_10 : decode cX6_doThrift 10 = .ok (.aload_n 0, 1) := by decide +kernel
theorem dX6_doThrift_11 : decode cX6_doThrift 11 = .ok (.bipush 7, 2) := by decide +kernel
theorem dX6_doThrift_13 : decode cX6_doThrift 13 = .ok (.invokevirtual 72, 3) := by decide +kernel
theorem dX6_doThrift_16 : decode cX6_doThrift 16 = .ok (.ifCond .ge 7, 3) := by decide +kernel
theorem dX6_doThrift_19 : decode cX6_doThrift 19 = .ok (.iconst 0, 1) := by decide +kernel
theorem dX6_doThrift_20 : decode cX6_doThrift 20 = .ok (.goto 13, 3) := by decide +kernel
theorem dX6_doThrift_23 : decode cX6_doThrift 23 = .ok (.aload_n 0, 1) := by decide +kernel
theorem dX6_doThrift_24 : decode cX6_doThrift 24 = .ok (.aload_n 0, 1) := by decide +kernel
theorem dX6_doThrift_25 : decode cX6_doThrift 25 = .ok (.bipush 7, 2) := by decide +kernel
theorem dX6_doThrift_27 : decode cX6_doThrift 27 = .ok (.invokevirtual 72, 3) := by decide +kernel
theorem dX6_doThrift_30 : decode cX6_doThrift 30 = .ok (.invokevirtual 120, 3) := by decide +kernel
theorem dX6_doThrift_33 : decode cX6_doThrift 33 = .ok (.invokevirtual 68, 3) := by decide +kernel
theorem dX6_doThrift_36 : decode cX6_doThrift 36 = .ok (.ireturn, 1) := by decide +kernel
theorem dX6_doThrift_37 : decode cX6_doThrift 37 = .ok (.iconst 0, 1) := by decide +kernel
theorem dX6_doThrift_38 : decode cX6_doThrift 38 = .ok (.istore_n 1, 1) := by decide +kernel
theorem dX6_doThrift_39 : decode cX6_doThrift 39 = .ok (.bipush 24, 2) := by decide +kernel
theorem dX6_doThrift_41 : decode cX6_doThrift 41 = .ok (.istore_n 2, 1) := by decide +kernel
theorem dX6_doThrift_42 : decode cX6_doThrift 42 = .ok (.iload_n 2, 1) := by decide +kernel
theorem dX6_doThrift_43 : decode cX6_doThrift 43 = .ok (.ifCond .lt 30, 3) := by decide +kernel
theorem dX6_doThrift_46 : decode cX6_doThrift 46 = .ok (.aload_n 0, 1) := by decide +kernel
theorem dX6_doThrift_47 : decode cX6_doThrift 47 = .ok (.iload_n 2, 1) := by decide +kernel
theorem dX6_doThrift_48 : decode cX6_doThrift 48 = .ok (.invokevirtual 155, 3) := by decide +kernel
theorem dX6_doThrift_51 : decode cX6_doThrift 51 = .ok (.ifCond .eq 16, 3) := by decide +kernel
theorem dX6_doThrift_54 : decode cX6_doThrift 54 = .ok (.aload_n 0, 1) := by decide +kernel
theorem dX6_doThrift_55 : decode cX6_doThrift 55 = .ok (.getfield 9, 3) := by decide +kernel
theorem dX6_doThrift_58 : decode cX6_doThrift 58 = .ok (.iload_n 2, 1) := by decide +kernel
theorem dX6_doThrift_59 : decode cX6_doThrift 59 = .ok (.iconst 0, 1) := by decide +kernel
theorem dX6_doThrift_60 : decode cX6_doThrift 60 = .ok (.iastore, 1) := by decide +kernel
theorem dX6_doThrift_61 : decode cX6_doThrift 61 = .ok (.iinc 1 1, 3) := by decide +kernel
theorem dX6_doThrift_64 : decode cX6_doThrift 64 = .ok (.bipush 25, 2) := by decide +kernel
theorem dX6_doThrift_66 : decode cX6_doThrift 66 = .ok (.istore_n 2, 1) := by decide +kernel
theorem dX6_doThrift_67 : decode cX6_doThrift 67 = .ok (.iinc 2 (-1), 3) := by decide +kernel
theorem dX6_doThrift_70 : decode cX6_doThrift 70 = .ok (.goto (-28), 3) := by decide +kernel
theorem dX6_doThrift_73 : decode cX6_doThrift 73 = .ok (.aload_n 0, 1) := by decide +kernel
theorem dX6_doThrift_74 : decode cX6_doThrift 74 = .ok (.getfield 9, 3) := by decide +kernel
theorem dX6_doThrift_77 : decode cX6_doThrift 77 = .ok (.bipush 27, 2) := by decide +kernel
theorem dX6_doThrift_79 : decode cX6_doThrift 79 = .ok (.dup2, 1) := by decide +kernel
theorem dX6_doThrift_80 : decode cX6_doThrift 80 = .ok (.iaload, 1) := by decide +kernel
theorem dX6_doThrift_81 : decode cX6_doThrift 81 = .ok (.iload_n 1, 1) := by decide +kernel
theorem dX6_doThrift_82 : decode cX6_doThrift 82 = .ok (.iadd, 1) := by decide +kernel
theorem dX6_doThrift_83 : decode cX6_doThrift 83 = .ok (.iastore, 1) := by decide +kernel
theorem dX6_doThrift_84 : decode cX6_doThrift 84 = .ok (.iload_n 1, 1) := by decide +kernel
theorem dX6_doThrift_85 : decode cX6_doThrift 85 = .ok (.ifCond .ne 16, 3) := by decide +kernel
theorem dX6_doThrift_88 : decode cX6_doThrift 88 = .ok (.aload_n 0, 1) := by decide +kernel
theorem dX6_doThrift_89 : decode cX6_doThrift 89 = .ok (.bipush 6, 2) := by decide +kernel
theorem dX6_doThrift_91 : decode cX6_doThrift 91 = .ok (.aload_n 0, 1) := by decide +kernel
theorem dX6_doThrift_92 : decode cX6_doThrift 92 = .ok (.invokevirtual 76, 3) := by decide +kernel
theorem dX6_doThrift_95 : decode cX6_doThrift 95 = .ok (.invokevirtual 68, 3) := by decide +kernel
theorem dX6_doThrift_98 : decode cX6_doThrift 98 = .ok (.goto 4, 3) := by decide +kernel
theorem dX6_doThrift_101 : decode cX6_doThrift 101 = .ok (.iload_n 1, 1) := by decide +kernel
theorem dX6_doThrift_102 : decode cX6_doThrift 102 = .ok (.ireturn, 1) := by decide +kernel
theorem dX6_thrift_0 : decode cX6_thrift 0 = .ok (.aload_n 0, 1) := by decide +kernel
theorem dX6_thrift_1 : decode cX6_thrift 1 = .ok (.invokevirtual 80, 3) := by decide +kernel
theorem dX6_thrift_4 : decode cX6_thrift 4 = .ok (.aload_n 0, 1) := by decide +kernel
theorem dX6_thrift_5 : decode cX6_thrift 5 = .ok (.aload_n 0, 1) := by decide +kernel
theorem dX6_thrift_6 : decode cX6_thrift 6 = .ok (.invokevirtual 158, 3) := by decide +kernel
theorem dX6_thrift_9 : decode cX6_thrift 9 = .ok (.invokevirtual 86, 3) := by decide +kernel
theorem dX6_thrift_12 : decode cX6_thrift 12 = .ok (.ireturn, 1) := by decide +kernel
theorem dX6_manOf_0 : decode cX6_manOf 0 = .ok (.iload_n 1, 1) := by decide +kernel
theorem dX6_manOf_1 : decode cX6_manOf 1 = .ok (.invokestatic 64, 3) := by decide +kernel
theorem dX6_manOf_4 : decode cX6_manOf 4 = .ok (.ifCond .ne 5, 3) := by decide +kernel
theorem dX6_manOf_7 : decode cX6_manOf 7 = .ok (.iconst (-1), 1) := by decide +kernel
theorem dX6_manOf_8 : decode cX6_manOf 8 = .ok (.ireturn, 1) := by decide +kernel
theorem dX6_manOf_9 : decode cX6_manOf 9 = .ok (.iload_n 2, 1) := by decide +kernel
theorem dX6_manOf_10 : decode cX6_manOf 10 = .ok (.iconst 0, 1) := by decide +kernel
theorem dX6_manOf_11 : decode cX6_manOf 11 = .ok (.iconst 3, 1) := by decide +kernel
theorem dX6_manOf_12 : decode cX6_manOf 12 = .ok (.invokestatic 60, 3) := by decide +kernel
theorem dX6_manOf_15 : decode cX6_manOf 15 = .ok (.ifCond .ne 6, 3) := by decide +kernel
theorem dX6_manOf_18 : decode cX6_manOf 18 = .ok (.bipush (-2), 2) := by decide +kernel
theorem dX6_manOf_20 : decode cX6_manOf 20 = .ok (.ireturn, 1) := by decide +kernel
theorem dX6_manOf_21 : decode cX6_manOf 21 = .ok (.aload_n 0, 1) := by decide +kernel
theorem dX6_manOf_22 : decode cX6_manOf 22 = .ok (.getfield 9, 3) := by decide +kernel
theorem dX6_manOf_25 : decode cX6_manOf 25 = .ok (.iload_n 1, 1) := by decide +kernel
theorem dX6_manOf_26 : decode cX6_manOf 26 = .ok (.iaload, 1) := by decide +kernel
theorem dX6_manOf_27 : decode cX6_manOf 27 = .ok (.ifCond .eq 15, 3) := by decide +kernel
theorem dX6_manOf_30 : decode cX6_manOf 30 = .ok (.iload_n 2, 1) := by decide +kernel
theorem dX6_manOf_31 : decode cX6_manOf 31 = .ok (.iconst 1, 1) := by decide +kernel
theorem dX6_manOf_32 : decode cX6_manOf 32 = .ok (.if_icmp .le 13, 3) := by decide +kernel
theorem dX6_manOf_35 : decode cX6_manOf 35 = .ok (.aload_n 0, 1) := by decide +kernel
theorem dX6_manOf_36 : decode cX6_manOf 36 = .ok (.invokevirtual 132, 3) := by decide +kernel
theorem dX6_manOf_39 : decode cX6_manOf 39 = .ok (.ifCond .ne 6, 3) := by decide +kernel
theorem dX6_manOf_42 : decode cX6_manOf 42 = .ok (.bipush (-4), 2) := by decide +kernel
theorem dX6_manOf_44 : decode cX6_manOf 44 = .ok (.ireturn, 1) := by decide +kernel
theorem dX6_manOf_45 : decode cX6_manOf 45 = .ok (.iload_n 2, 1) := by decide +kernel
theorem dX6_manOf_46 : decode cX6_manOf 46 = .ok (.tableswitch 66 0 2 #[26, 48, 55], 26) := by decide +kernel
theorem dX6_manOf_72 : decode cX6_manOf 72 = .ok (.aload_n 0, 1) := by decide +kernel
theorem dX6_manOf_73 : decode cX6_manOf 73 = .ok (.getfield 9, 3) := by decide +kernel
theorem dX6_manOf_76 : decode cX6_manOf 76 = .ok (.iload_n 1, 1) := by decide +kernel
theorem dX6_manOf_77 : decode cX6_manOf 77 = .ok (.iaload, 1) := by decide +kernel
theorem dX6_manOf_78 : decode cX6_manOf 78 = .ok (.bipush 6, 2) := by decide +kernel
theorem dX6_manOf_80 : decode cX6_manOf 80 = .ok (.if_icmp .ne 7, 3) := by decide +kernel
theorem dX6_manOf_83 : decode cX6_manOf 83 = .ok (.iconst 0, 1) := by decide +kernel
theorem dX6_manOf_84 : decode cX6_manOf 84 = .ok (.goto 9, 3) := by decide +kernel
theorem dX6_manOf_87 : decode cX6_manOf 87 = .ok (.aload_n 0, 1) := by decide +kernel
theorem dX6_manOf_88 : decode cX6_manOf 88 = .ok (.iload_n 1, 1) := by decide +kernel
theorem dX6_manOf_89 : decode cX6_manOf 89 = .ok (.iconst 0, 1) := by decide +kernel
theorem dX6_manOf_90 : decode cX6_manOf 90 = .ok (.invokevirtual 161, 3) := by decide +kernel
theorem dX6_manOf_93 : decode cX6_manOf 93 = .ok (.ireturn, 1) := by decide +kernel
theorem dX6_manOf_94 : decode cX6_manOf 94 = .ok (.aload_n 0, 1) := by decide +kernel
theorem dX6_manOf_95 : decode cX6_manOf 95 = .ok (.iload_n 1, 1) := by decide +kernel
theorem dX6_manOf_96 : decode cX6_manOf 96 = .ok (.iconst 1, 1) := by decide +kernel
theorem dX6_manOf_97 : decode cX6_manOf 97 = .ok (.invokevirtual 161, 3) := by decide +kernel
theorem dX6_manOf_100 : decode cX6_manOf 100 = .ok (.ireturn, 1) := by decide +kernel
theorem dX6_manOf_101 : decode cX6_manOf 101 = .ok (.aload_n 0, 1) := by decide +kernel
theorem dX6_manOf_102 : decode cX6_manOf 102 = .ok (.iload_n 1, 1) := by decide +kernel
theorem dX6_manOf_103 : decode cX6_manOf 103 = .ok (.iconst 3, 1) := by decide +kernel
theorem dX6_manOf_104 : decode cX6_manOf 104 = .ok (.invokevirtual 145, 3) := by decide +kernel
theorem dX6_manOf_107 : decode cX6_manOf 107 = .ok (.aload_n 0, 1) := by decide +kernel
theorem dX6_manOf_108 : decode cX6_manOf 108 = .ok (.getfield 139, 3) := by decide +kernel
theorem dX6_manOf_111 : decode cX6_manOf 111 = .ok (.ireturn, 1) := by decide +kernel
theorem dX6_manOf_112 : decode cX6_manOf 112 = .ok (.aload_n 0, 1) := by decide +kernel
theorem dX6_manOf_113 : decode cX6_manOf 113 = .ok (.iload_n 1, 1) := by decide +kernel
theorem dX6_manOf_114 : decode cX6_manOf 114 = .ok (.invokevirtual 155, 3) := by decide +kernel
theorem dX6_manOf_117 : decode cX6_manOf 117 = .ok (.ifCond .eq 7, 3) := by decide +kernel
theorem dX6_manOf_120 : decode cX6_manOf 120 = .ok (.iconst 1, 1) := by decide +kernel
theorem dX6_manOf_121 : decode cX6_manOf 121 = .ok (.goto 4, 3) := by decide +kernel
theorem dX6_manOf_124 : decode cX6_manOf 124 = .ok (.iconst 0, 1) := by decide +kernel
theorem dX6_manOf_125 : decode cX6_manOf 125 = .ok (.ireturn, 1) := by decide +kernel
theorem dX6_ranked_0 : decode cX6_ranked 0 = .ok (.iconst 0, 1) := by decide +kernel
theorem dX6_ranked_1 : decode cX6_ranked 1 = .ok (.istore_n 2, 1) := by decide +kernel
theorem dX6_ranked_2 : decode cX6_ranked 2 = .ok (.iload_n 2, 1) := by decide +kernel
theorem dX6_ranked_3 : decode cX6_ranked 3 = .ok (.bipush 25, 2) := by decide +kernel
theorem dX6_ranked_5 : decode cX6_ranked 5 = .ok (.if_icmp .ge 99, 3) := by decide +kernel
theorem dX6_ranked_8 : decode cX6_ranked 8 = .ok (.iconst 0, 1) := by decide +kernel
theorem dX6_ranked_9 : decode cX6_ranked 9 = .ok (.istore_n 3, 1) := by decide +kernel
theorem dX6_ranked_10 : decode cX6_ranked 10 = .ok (.iconst 0, 1) := by decide +kernel
theorem dX6_ranked_11 : decode cX6_ranked 11 = .ok (.istore 4, 2) := by decide +kernel
theorem dX6_ranked_13 : decode cX6_ranked 13 = .ok (.iload 4, 2) := by decide +kernel
theorem dX6_ranked_15 : decode cX6_ranked 15 = .ok (.bipush 25, 2) := by decide +kernel
theorem dX6_ranked_17 : decode cX6_ranked 17 = .ok (.if_icmp .ge 62, 3) := by decide +kernel
theorem dX6_ranked_20 : decode cX6_ranked 20 = .ok (.aload_n 0, 1) := by decide +kernel
theorem dX6_ranked_21 : decode cX6_ranked 21 = .ok (.iload 4, 2) := by decide +kernel
theorem dX6_ranked_23 : decode cX6_ranked 23 = .ok (.iconst 1, 1) := by decide +kernel
theorem dX6_ranked_24 : decode cX6_ranked 24 = .ok (.invokevirtual 161, 3) := by decide +kernel
theorem dX6_ranked_27 : decode cX6_ranked 27 = .ok (.aload_n 0, 1) := by decide +kernel
theorem dX6_ranked_28 : decode cX6_ranked 28 = .ok (.iload_n 2, 1) := by decide +kernel
theorem dX6_ranked_29 : decode cX6_ranked 29 = .ok (.iconst 1, 1) := by decide +kernel
theorem dX6_ranked_30 : decode cX6_ranked 30 = .ok (.invokevirtual 161, 3) := by decide +kernel
theorem dX6_ranked_33 : decode cX6_ranked 33 = .ok (.isub, 1) := by decide +kernel
theorem dX6_ranked_34 : decode cX6_ranked 34 = .ok (.istore 5, 2) := by decide +kernel
theorem dX6_ranked_36 : decode cX6_ranked 36 = .ok (.iload_n 3, 1) := by decide +kernel
theorem dX6_ranked_37 : decode cX6_ranked 37 = .ok (.aload_n 0, 1) := by decide +kernel
theorem dX6_ranked_38 : decode cX6_ranked 38 = .ok (.getfield 9, 3) := by decide +kernel
theorem dX6_ranked_41 : decode cX6_ranked 41 = .ok (.iload 4, 2) := by decide +kernel
theorem dX6_ranked_43 : decode cX6_ranked 43 = .ok (.iaload, 1) := by decide +kernel
theorem dX6_ranked_44 : decode cX6_ranked 44 = .ok (.invokestatic 107, 3) := by decide +kernel
theorem dX6_ranked_47 : decode cX6_ranked 47 = .ok (.ifCond .eq 23, 3) := by decide +kernel
theorem dX6_ranked_50 : decode cX6_ranked 50 = .ok (.iload 5, 2) := by decide +kernel
theorem dX6_ranked_52 : decode cX6_ranked 52 = .ok (.ifCond .gt 14, 3) := by decide +kernel
theorem dX6_ranked_55 : decode cX6_ranked 55 = .ok (.iload 5, 2) := by decide +kernel
theorem dX6_ranked_57 : decode cX6_ranked 57 = .ok (.ifCond .ne 13, 3) := by decide +kernel
theorem dX6_ranked_60 : decode cX6_ranked 60 = .ok (.iload 4, 2) := by decide +kernel
theorem dX6_ranked_62 : decode cX6_ranked 62 = .ok (.iload_n 2, 1) := by decide +kernel
theorem dX6_ranked_63 : decode cX6_ranked 63 = .ok (.if_icmp .ge 7, 3) := by decide +kernel
theorem dX6_ranked_66 : decode cX6_ranked 66 = .ok (.iconst 1, 1) := by decide +kernel
theorem dX6_ranked_67 : decode cX6_ranked 67 = .ok (.goto 4, 3) := by decide +kernel
theorem dX6_ranked_70 : decode cX6_ranked 70 = .ok (.iconst 0, 1) := by decide +kernel
theorem dX6_ranked_71 : decode cX6_ranked 71 = .ok (.iadd, 1) := by decide +kernel
theorem dX6_ranked_72 : decode cX6_ranked 72 = .ok (.istore_n 3, 1) := by decide +kernel
theorem dX6_ranked_73 : decode cX6_ranked 73 = .ok (.iinc 4 1, 3) := by decide +kernel
theorem dX6_ranked_76 : decode cX6_ranked 76 = .ok (.goto (-63), 3) := by decide +kernel
theorem dX6_ranked_79 : decode cX6_ranked 79 = .ok (.aload_n 0, 1) := by decide +kernel
theorem dX6_ranked_80 : decode cX6_ranked 80 = .ok (.getfield 9, 3) := by decide +kernel
theorem dX6_ranked_83 : decode cX6_ranked 83 = .ok (.iload_n 2, 1) := by decide +kernel
theorem dX6_ranked_84 : decode cX6_ranked 84 = .ok (.iaload, 1) := by decide +kernel
theorem dX6_ranked_85 : decode cX6_ranked 85 = .ok (.invokestatic 107, 3) := by decide +kernel
theorem dX6_ranked_88 : decode cX6_ranked 88 = .ok (.ifCond .eq 10, 3) := by decide +kernel
theorem dX6_ranked_91 : decode cX6_ranked 91 = .ok (.iload_n 3, 1) := by decide +kernel
theorem dX6_ranked_92 : decode cX6_ranked 92 = .ok (.iload_n 1, 1) := by decide +kernel
theorem dX6_ranked_93 : decode cX6_ranked 93 = .ok (.if_icmp .ne 5, 3) := by decide +kernel
theorem dX6_ranked_96 : decode cX6_ranked 96 = .ok (.iload_n 2, 1) := by decide +kernel
theorem dX6_ranked_97 : decode cX6_ranked 97 = .ok (.ireturn, 1) := by decide +kernel
theorem dX6_ranked_98 : decode cX6_ranked 98 = .ok (.iinc 2 1, 3) := by decide +kernel
theorem dX6_ranked_101 : decode cX6_ranked 101 = .ok (.goto (-99), 3) := by decide +kernel
theorem dX6_ranked_104 : decode cX6_ranked 104 = .ok (.iconst (-1), 1) := by decide +kernel
theorem dX6_ranked_105 : decode cX6_ranked 105 = .ok (.ireturn, 1) := by decide +kernel
theorem dX6_doPlay_0 : decode cX6_doPlay 0 = .ok (.aload_n 0, 1) := by decide +kernel
theorem dX6_doPlay_1 : decode cX6_doPlay 1 = .ok (.iload_n 1, 1) := by decide +kernel
theorem dX6_doPlay_2 : decode cX6_doPlay 2 = .ok (.iload_n 2, 1) := by decide +kernel
theorem dX6_doPlay_3 : decode cX6_doPlay 3 = .ok (.invokevirtual 149, 3) := by decide +kernel
theorem dX6_doPlay_6 : decode cX6_doPlay 6 = .ok (.ifCond .ne 5, 3) := by decide +kernel
theorem dX6_doPlay_9 : decode cX6_doPlay 9 = .ok (.iconst (-1), 1) := by decide +kernel
theorem dX6_doPlay_10 : decode cX6_doPlay 10 = .ok (.ireturn, 1) := by decide +kernel
theorem dX6_doPlay_11 : decode cX6_doPlay 11 = .ok (.aload_n 0, 1) := by decide +kernel
theorem dX6_doPlay_12 : decode cX6_doPlay 12 = .ok (.getfield 9, 3) := by decide +kernel
theorem dX6_doPlay_15 : decode cX6_doPlay 15 = .ok (.iload_n 1, 1) := by decide +kernel
theorem dX6_doPlay_16 : decode cX6_doPlay 16 = .ok (.iaload, 1) := by decide +kernel
theorem dX6_doPlay_17 : decode cX6_doPlay 17 = .ok (.ifCond .ne 10, 3) := by decide +kernel
theorem dX6_doPlay_20 : decode cX6_doPlay 20 = .ok (.aload_n 0, 1) := by decide +kernel
theorem dX6_doPlay_21 : decode cX6_doPlay 21 = .ok (.iconst 4, 1) := by decide +kernel
theorem dX6_doPlay_22 : decode cX6_doPlay 22 = .ok (.iload_n 1, 1) := by decide +kernel
theorem dX6_doPlay_23 : decode cX6_doPlay 23 = .ok (.invokevirtual 68, 3) := by decide +kernel
theorem dX6_doPlay_26 : decode cX6_doPlay 26 = .ok (.ireturn, 1) := by decide +kernel
theorem dX6_doPlay_27 : decode cX6_doPlay 27 = .ok (.aload_n 0, 1) := by decide +kernel
theorem dX6_doPlay_28 : decode cX6_doPlay 28 = .ok (.iload_n 1, 1) := by decide +kernel
theorem dX6_doPlay_29 : decode cX6_doPlay 29 = .ok (.iload_n 2, 1) := by decide +kernel
theorem dX6_doPlay_30 : decode cX6_doPlay 30 = .ok (.invokevirtual 117, 3) := by decide +kernel
theorem dX6_doPlay_33 : decode cX6_doPlay 33 = .ok (.ifCond .ne 15, 3) := by decide +kernel
theorem dX6_doPlay_36 : decode cX6_doPlay 36 = .ok (.aload_n 0, 1) := by decide +kernel
theorem dX6_doPlay_37 : decode cX6_doPlay 37 = .ok (.iconst 5, 1) := by decide +kernel
theorem dX6_doPlay_38 : decode cX6_doPlay 38 = .ok (.aload_n 0, 1) := by decide +kernel
theorem dX6_doPlay_39 : decode cX6_doPlay 39 = .ok (.getfield 9, 3) := by decide +kernel
theorem dX6_doPlay_42 : decode cX6_doPlay 42 = .ok (.iload_n 1, 1) := by decide +kernel
theorem dX6_doPlay_43 : decode cX6_doPlay 43 = .ok (.iaload, 1) := by decide +kernel
theorem dX6_doPlay_44 : decode cX6_doPlay 44 = .ok (.invokevirtual 68, 3) := by decide +kernel
theorem dX6_doPlay_47 : decode cX6_doPlay 47 = .ok (.ireturn, 1) := by decide +kernel
theorem dX6_doPlay_48 : decode cX6_doPlay 48 = .ok (.aload_n 0, 1) := by decide +kernel
theorem dX6_doPlay_49 : decode cX6_doPlay 49 = .ok (.getfield 9, 3) := by decide +kernel
theorem dX6_doPlay_52 : decode cX6_doPlay 52 = .ok (.iload_n 2, 1) := by decide +kernel
theorem dX6_doPlay_53 : decode cX6_doPlay 53 = .ok (.iaload, 1) := by decide +kernel
theorem dX6_doPlay_54 : decode cX6_doPlay 54 = .ok (.istore_n 3, 1) := by decide +kernel
theorem dX6_doPlay_55 : decode cX6_doPlay 55 = .ok (.aload_n 0, 1) := by decide +kernel
theorem dX6_doPlay_56 : decode cX6_doPlay 56 = .ok (.getfield 9, 3) := by decide +kernel
theorem dX6_doPlay_59 : decode cX6_doPlay 59 = .ok (.iload_n 2, 1) := by decide +kernel
theorem dX6_doPlay_60 : decode cX6_doPlay 60 = .ok (.aload_n 0, 1) := by decide +kernel
theorem dX6_doPlay_61 : decode cX6_doPlay 61 = .ok (.getfield 9, 3) := by decide +kernel
theorem dX6_doPlay_64 : decode cX6_doPlay 64 = .ok (.iload_n 1, 1) := by decide +kernel
theorem dX6_doPlay_65 : decode cX6_doPlay 65 = .ok (.iaload, 1) := by decide +kernel
theorem dX6_doPlay_66 : decode cX6_doPlay 66 = .ok (.iastore, 1) := by decide +kernel
theorem dX6_doPlay_67 : decode cX6_doPlay 67 = .ok (.aload_n 0, 1) := by decide +kernel
theorem dX6_doPlay_68 : decode cX6_doPlay 68 = .ok (.getfield 9, 3) := by decide +kernel
theorem dX6_doPlay_71 : decode cX6_doPlay 71 = .ok (.iload_n 1, 1) := by decide +kernel
theorem dX6_doPlay_72 : decode cX6_doPlay 72 = .ok (.iconst 0, 1) := by decide +kernel
theorem dX6_doPlay_73 : decode cX6_doPlay 73 = .ok (.iastore, 1) := by decide +kernel
theorem dX6_doPlay_74 : decode cX6_doPlay 74 = .ok (.aload_n 0, 1) := by decide +kernel
theorem dX6_doPlay_75 : decode cX6_doPlay 75 = .ok (.getfield 9, 3) := by decide +kernel
theorem dX6_doPlay_78 : decode cX6_doPlay 78 = .ok (.bipush 25, 2) := by decide +kernel
theorem dX6_doPlay_80 : decode cX6_doPlay 80 = .ok (.dup2, 1) := by decide +kernel
theorem dX6_doPlay_81 : decode cX6_doPlay 81 = .ok (.iaload, 1) := by decide +kernel
theorem dX6_doPlay_82 : decode cX6_doPlay 82 = .ok (.iconst 1, 1) := by decide +kernel
theorem dX6_doPlay_83 : decode cX6_doPlay 83 = .ok (.iadd, 1) := by decide +kernel
theorem dX6_doPlay_84 : decode cX6_doPlay 84 = .ok (.iastore, 1) := by decide +kernel
theorem dX6_doPlay_85 : decode cX6_doPlay 85 = .ok (.aload_n 0, 1) := by decide +kernel
theorem dX6_doPlay_86 : decode cX6_doPlay 86 = .ok (.getfield 9, 3) := by decide +kernel
theorem dX6_doPlay_89 : decode cX6_doPlay 89 = .ok (.bipush 26, 2) := by decide +kernel
theorem dX6_doPlay_91 : decode cX6_doPlay 91 = .ok (.dup2, 1) := by decide +kernel
theorem dX6_doPlay_92 : decode cX6_doPlay 92 = .ok (.iaload, 1) := by decide +kernel
theorem dX6_doPlay_93 : decode cX6_doPlay 93 = .ok (.iload_n 3, 1) := by decide +kernel
theorem dX6_doPlay_94 : decode cX6_doPlay 94 = .ok (.bipush 6, 2) := by decide +kernel
theorem dX6_doPlay_96 : decode cX6_doPlay 96 = .ok (.if_icmp .ne 7, 3) := by decide +kernel
theorem dX6_doPlay_99 : decode cX6_doPlay 99 = .ok (.iconst 1, 1) := by decide +kernel
theorem dX6_doPlay_100 : decode cX6_doPlay 100 = .ok (.goto 4, 3) := by decide +kernel
theorem dX6_doPlay_103 : decode cX6_doPlay 103 = .ok (.iconst 0, 1) := by decide +kernel
theorem dX6_doPlay_104 : decode cX6_doPlay 104 = .ok (.iadd, 1) := by decide +kernel
theorem dX6_doPlay_105 : decode cX6_doPlay 105 = .ok (.iastore, 1) := by decide +kernel
theorem dX6_doPlay_106 : decode cX6_doPlay 106 = .ok (.iload_n 3, 1) := by decide +kernel
theorem dX6_doPlay_107 : decode cX6_doPlay 107 = .ok (.ireturn, 1) := by decide +kernel
theorem dX6_play_0 : decode cX6_play 0 = .ok (.aload_n 0, 1) := by decide +kernel
theorem dX6_play_1 : decode cX6_play 1 = .ok (.invokevirtual 80, 3) := by decide +kernel
theorem dX6_play_4 : decode cX6_play 4 = .ok (.aload_n 0, 1) := by decide +kernel
theorem dX6_play_5 : decode cX6_play 5 = .ok (.aload_n 0, 1) := by decide +kernel
theorem dX6_play_6 : decode cX6_play 6 = .ok (.iload_n 1, 1) := by decide +kernel
theorem dX6_play_7 : decode cX6_play 7 = .ok (.iload_n 2, 1) := by decide +kernel
theorem dX6_play_8 : decode cX6_play 8 = .ok (.invokevirtual 165, 3) := by decide +kernel
theorem dX6_play_11 : decode cX6_play 11 = .ok (.invokevirtual 86, 3) := by decide +kernel
theorem dX6_play_14 : decode cX6_play 14 = .ok (.ireturn, 1) := by decide +kernel
theorem dX6_doTurn_0 : decode cX6_doTurn 0 = .ok (.iconst 0, 1) := by decide +kernel
theorem dX6_doTurn_1 : decode cX6_doTurn 1 = .ok (.istore_n 2, 1) := by decide +kernel
theorem dX6_doTurn_2 : decode cX6_doTurn 2 = .ok (.iload_n 2, 1) := by decide +kernel
theorem dX6_doTurn_3 : decode cX6_doTurn 3 = .ok (.bipush 25, 2) := by decide +kernel
theorem dX6_doTurn_5 : decode cX6_doTurn 5 = .ok (.if_icmp .ge 54, 3) := by decide +kernel
theorem dX6_doTurn_8 : decode cX6_doTurn 8 = .ok (.iload_n 2, 1) := by decide +kernel
theorem dX6_doTurn_9 : decode cX6_doTurn 9 = .ok (.iconst 5, 1) := by decide +kernel
theorem dX6_doTurn_10 : decode cX6_doTurn 10 = .ok (.irem, 1) := by decide +kernel
theorem dX6_doTurn_11 : decode cX6_doTurn 11 = .ok (.istore_n 3, 1) := by decide +kernel
theorem dX6_doTurn_12 : decode cX6_doTurn 12 = .ok (.iload_n 2, 1) := by decide +kernel
theorem dX6_doTurn_13 : decode cX6_doTurn 13 = .ok (.iconst 5, 1) := by decide +kernel
theorem dX6_doTurn_14 : decode cX6_doTurn 14 = .ok (.idiv, 1) := by decide +kernel
theorem dX6_doTurn_15 : decode cX6_doTurn 15 = .ok (.istore 4, 2) := by decide +kernel
theorem dX6_doTurn_17 : decode cX6_doTurn 17 = .ok (.aload_n 0, 1) := by decide +kernel
theorem dX6_doTurn_18 : decode cX6_doTurn 18 = .ok (.getfield 32, 3) := by decide +kernel
theorem dX6_doTurn_21 : decode cX6_doTurn 21 = .ok (.iload_n 1, 1) := by decide +kernel
theorem dX6_doTurn_22 : decode cX6_doTurn 22 = .ok (.ifCond .eq 16, 3) := by decide +kernel
theorem dX6_doTurn_25 : decode cX6_doTurn 25 = .ok (.iconst 5, 1) := by decide +kernel
theorem dX6_doTurn_26 : decode cX6_doTurn 26 = .ok (.iload 4, 2) := by decide +kernel
theorem dX6_doTurn_28 : decode cX6_doTurn 28 = .ok (.imul, 1) := by decide +kernel
theorem dX6_doTurn_29 : decode cX6_doTurn 29 = .ok (.iconst 5, 1) := by decide +kernel
theorem dX6_doTurn_30 : decode cX6_doTurn 30 = .ok (.iadd, 1) := by decide +kernel
theorem dX6_doTurn_31 : decode cX6_doTurn 31 = .ok (.iconst 1, 1) := by decide +kernel
theorem dX6_doTurn_32 : decode cX6_doTurn 32 = .ok (.isub, 1) := by decide +kernel
theorem dX6_doTurn_33 : decode cX6_doTurn 33 = .ok (.iload_n 3, 1) := by decide +kernel
theorem dX6_doTurn_34 : decode cX6_doTurn 34 = .ok (.isub, 1) := by decide +kernel
theorem dX6_doTurn_35 : decode cX6_doTurn 35 = .ok (.goto 11, 3) := by decide +kernel
theorem dX6_doTurn_38 : decode cX6_doTurn 38 = .ok (.iconst 5, 1) := by decide +kernel
theorem dX6_doTurn_39 : decode cX6_doTurn 39 = .ok (.iconst 4, 1) := by decide +kernel
theorem dX6_doTurn_40 : decode cX6_doTurn 40 = .ok (.iload_n 3, 1) := by decide +kernel
theorem dX6_doTurn_41 : decode cX6_doTurn 41 = .ok (.isub, 1) := by decide +kernel
theorem dX6_doTurn_42 : decode cX6_doTurn 42 = .ok (.imul, 1) := by decide +kernel
theorem dX6_doTurn_43 : decode cX6_doTurn 43 = .ok (.iload 4, 2) := by decide +kernel
theorem dX6_doTurn_45 : decode cX6_doTurn 45 = .ok (.iadd, 1) := by decide +kernel
theorem dX6_doTurn_46 : decode cX6_doTurn 46 = .ok (.aload_n 0, 1) := by decide +kernel
theorem dX6_doTurn_47 : decode cX6_doTurn 47 = .ok (.getfield 9, 3) := by decide +kernel
theorem dX6_doTurn_50 : decode cX6_doTurn 50 = .ok (.iload_n 2, 1) := by decide +kernel
theorem dX6_doTurn_51 : decode cX6_doTurn 51 = .ok (.iaload, 1) := by decide +kernel
theorem dX6_doTurn_52 : decode cX6_doTurn 52 = .ok (.iastore, 1) := by decide +kernel
theorem dX6_doTurn_53 : decode cX6_doTurn 53 = .ok (.iinc 2 1, 3) := by decide +kernel
theorem dX6_doTurn_56 : decode cX6_doTurn 56 = .ok (.goto (-54), 3) := by decide +kernel
theorem dX6_doTurn_59 : decode cX6_doTurn 59 = .ok (.aload_n 0, 1) := by decide +kernel
theorem dX6_doTurn_60 : decode cX6_doTurn 60 = .ok (.getfield 32, 3) := by decide +kernel
theorem dX6_doTurn_63 : decode cX6_doTurn 63 = .ok (.iconst 0, 1) := by decide +kernel
theorem dX6_doTurn_64 : decode cX6_doTurn 64 = .ok (.aload_n 0, 1) := by decide +kernel
theorem dX6_doTurn_65 : decode cX6_doTurn 65 = .ok (.getfield 9, 3) := by decide +kernel
theorem dX6_doTurn_68 : decode cX6_doTurn 68 = .ok (.iconst 0, 1) := by decide +kernel
theorem dX6_doTurn_69 : decode cX6_doTurn 69 = .ok (.bipush 25, 2) := by decide +kernel
theorem dX6_doTurn_71 : decode cX6_doTurn 71 = .ok (.invokestatic 45, 3) := by decide +kernel
theorem dX6_doTurn_74 : decode cX6_doTurn 74 = .ok (.aload_n 0, 1) := by decide +kernel
theorem dX6_doTurn_75 : decode cX6_doTurn 75 = .ok (.getfield 9, 3) := by decide +kernel
theorem dX6_doTurn_78 : decode cX6_doTurn 78 = .ok (.bipush 28, 2) := by decide +kernel
theorem dX6_doTurn_80 : decode cX6_doTurn 80 = .ok (.dup2, 1) := by decide +kernel
theorem dX6_doTurn_81 : decode cX6_doTurn 81 = .ok (.iaload, 1) := by decide +kernel
theorem dX6_doTurn_82 : decode cX6_doTurn 82 = .ok (.iconst 1, 1) := by decide +kernel
theorem dX6_doTurn_83 : decode cX6_doTurn 83 = .ok (.iadd, 1) := by decide +kernel
theorem dX6_doTurn_84 : decode cX6_doTurn 84 = .ok (.iastore, 1) := by decide +kernel
theorem dX6_doTurn_85 : decode cX6_doTurn 85 = .ok (.aload_n 0, 1) := by decide +kernel
theorem dX6_doTurn_86 : decode cX6_doTurn 86 = .ok (.invokevirtual 76, 3) := by decide +kernel
theorem dX6_doTurn_89 : decode cX6_doTurn 89 = .ok (.ireturn, 1) := by decide +kernel
theorem dX6_turn_0 : decode cX6_turn 0 = .ok (.aload_n 0, 1) := by decide +kernel
theorem dX6_turn_1 : decode cX6_turn 1 = .ok (.invokevirtual 80, 3) := by decide +kernel
theorem dX6_turn_4 : decode cX6_turn 4 = .ok (.aload_n 0, 1) := by decide +kernel
theorem dX6_turn_5 : decode cX6_turn 5 = .ok (.aload_n 0, 1) := by decide +kernel
theorem dX6_turn_6 : decode cX6_turn 6 = .ok (.iconst 0, 1) := by decide +kernel
theorem dX6_turn_7 : decode cX6_turn 7 = .ok (.invokevirtual 168, 3) := by decide +kernel
theorem dX6_turn_10 : decode cX6_turn 10 = .ok (.invokevirtual 86, 3) := by decide +kernel
theorem dX6_turn_13 : decode cX6_turn 13 = .ok (.ireturn, 1) := by decide +kernel
theorem dX6_mirror_0 : decode cX6_mirror 0 = .ok (.aload_n 0, 1) := by decide +kernel
theorem dX6_mirror_1 : decode cX6_mirror 1 = .ok (.invokevirtual 80, 3) := by decide +kernel
theorem dX6_mirror_4 : decode cX6_mirror 4 = .ok (.aload_n 0, 1) := by decide +kernel
theorem dX6_mirror_5 : decode cX6_mirror 5 = .ok (.aload_n 0, 1) := by decide +kernel
theorem dX6_mirror_6 : decode cX6_mirror 6 = .ok (.iconst 1, 1) := by decide +kernel
theorem dX6_mirror_7 : decode cX6_mirror 7 = .ok (.invokevirtual 168, 3) := by decide +kernel
theorem dX6_mirror_10 : decode cX6_mirror 10 = .ok (.invokevirtual 86, 3) := by decide +kernel
theorem dX6_mirror_13 : decode cX6_mirror 13 = .ok (.ireturn, 1) := by decide +kernel
theorem dX6_says_0 : decode cX6_says 0 = .ok (.aload_n 0, 1) := by decide +kernel
theorem dX6_says_1 : decode cX6_says 1 = .ok (.getfield 35, 3) := by decide +kernel
theorem dX6_says_4 : decode cX6_says 4 = .ok (.aload_n 0, 1) := by decide +kernel
theorem dX6_says_5 : decode cX6_says 5 = .ok (.getfield 172, 3) := by decide +kernel
theorem dX6_says_8 : decode cX6_says 8 = .ok (.iload_n 1, 1) := by decide +kernel
theorem dX6_says_9 : decode cX6_says 9 = .ok (.castore, 1) := by decide +kernel
theorem dX6_says_10 : decode cX6_says 10 = .ok (.aload_n 0, 1) := by decide +kernel
theorem dX6_says_11 : decode cX6_says 11 = .ok (.dup, 1) := by decide +kernel
theorem dX6_says_12 : decode cX6_says 12 = .ok (.getfield 172, 3) := by decide +kernel
theorem dX6_says_15 : decode cX6_says 15 = .ok (.iconst 1, 1) := by decide +kernel
theorem dX6_says_16 : decode cX6_says 16 = .ok (.iadd, 1) := by decide +kernel
theorem dX6_says_17 : decode cX6_says 17 = .ok (.putfield 172, 3) := by decide +kernel
theorem dX6_says_20 : decode cX6_says 20 = .ok (.return_, 1) := by decide +kernel
theorem dX6_show_0 : decode cX6_show 0 = .ok (.aload_n 0, 1) := by decide +kernel
theorem dX6_show_1 : decode cX6_show 1 = .ok (.iconst 0, 1) := by decide +kernel
theorem dX6_show_2 : decode cX6_show 2 = .ok (.putfield 172, 3) := by decide +kernel
theorem dX6_show_5 : decode cX6_show 5 = .ok (.iconst 4, 1) := by decide +kernel
theorem dX6_show_6 : decode cX6_show 6 = .ok (.istore_n 1, 1) := by decide +kernel
theorem dX6_show_7 : decode cX6_show 7 = .ok (.iload_n 1, 1) := by decide +kernel
theorem dX6_show_8 : decode cX6_show 8 = .ok (.ifCond .lt 51, 3) := by decide +kernel
theorem dX6_show_11 : decode cX6_show 11 = .ok (.iconst 0, 1) := by decide +kernel
theorem dX6_show_12 : decode cX6_show 12 = .ok (.istore_n 2, 1) := by decide +kernel
theorem dX6_show_13 : decode cX6_show 13 = .ok (.iload_n 2, 1) := by decide +kernel
theorem dX6_show_14 : decode cX6_show 14 = .ok (.iconst 5, 1) := by decide +kernel
theorem dX6_show_15 : decode cX6_show 15 = .ok (.if_icmp .ge 28, 3) := by decide +kernel
theorem dX6_show_18 : decode cX6_show 18 = .ok (.aload_n 0, 1) := by decide +kernel
theorem dX6_show_19 : decode cX6_show 19 = .ok (.ldc 175, 2) := by decide +kernel
theorem dX6_show_21 : decode cX6_show 21 = .ok (.aload_n 0, 1) := by decide +kernel
theorem dX6_show_22 : decode cX6_show 22 = .ok (.getfield 9, 3) := by decide +kernel
theorem dX6_show_25 : decode cX6_show 25 = .ok (.iconst 5, 1) := by decide +kernel
theorem dX6_show_26 : decode cX6_show 26 = .ok (.iload_n 1, 1) := by decide +kernel
theorem dX6_show_27 : decode cX6_show 27 = .ok (.imul, 1) := by decide +kernel
theorem dX6_show_28 : decode cX6_show 28 = .ok (.iload_n 2, 1) := by decide +kernel
theorem dX6_show_29 : decode cX6_show 29 = .ok (.iadd, 1) := by decide +kernel
theorem dX6_show_30 : decode cX6_show 30 = .ok (.iaload, 1) := by decide +kernel
theorem dX6_show_31 : decode cX6_show 31 = .ok (.invokevirtual 177, 3) := by decide +kernel
theorem dX6_show_34 : decode cX6_show 34 = .ok (.invokevirtual 183, 3) := by decide +kernel
theorem dX6_show_37 : decode cX6_show 37 = .ok (.iinc 2 1, 3) := by decide +kernel
theorem dX6_show_40 : decode cX6_show 40 = .ok (.goto (-27), 3) := by decide +kernel
theorem dX6_show_43 : decode cX6_show 43 = .ok (.iload_n 1, 1) := by decide +kernel
theorem dX6_show_44 : decode cX6_show 44 = .ok (.ifCond .le 9, 3) := by decide +kernel
theorem dX6_show_47 : decode cX6_show 47 = .ok (.aload_n 0, 1) := by decide +kernel
theorem dX6_show_48 : decode cX6_show 48 = .ok (.bipush 47, 2) := by decide +kernel
theorem dX6_show_50 : decode cX6_show 50 = .ok (.invokevirtual 183, 3) := by decide +kernel
theorem dX6_show_53 : decode cX6_show 53 = .ok (.iinc 1 (-1), 3) := by decide +kernel
theorem dX6_show_56 : decode cX6_show 56 = .ok (.goto (-49), 3) := by decide +kernel
theorem dX6_show_59 : decode cX6_show 59 = .ok (.aload_n 0, 1) := by decide +kernel
theorem dX6_show_60 : decode cX6_show 60 = .ok (.getfield 172, 3) := by decide +kernel
theorem dX6_show_63 : decode cX6_show 63 = .ok (.ireturn, 1) := by decide +kernel
theorem dX6_saysSquare_0 : decode cX6_saysSquare 0 = .ok (.aload_n 0, 1) := by decide +kernel
theorem dX6_saysSquare_1 : decode cX6_saysSquare 1 = .ok (.bipush 97, 2) := by decide +kernel
theorem dX6_saysSquare_3 : decode cX6_saysSquare 3 = .ok (.iload_n 1, 1) := by decide +kernel
theorem dX6_saysSquare_4 : decode cX6_saysSquare 4 = .ok (.iconst 5, 1) := by decide +kernel
theorem dX6_saysSquare_5 : decode cX6_saysSquare 5 = .ok (.irem, 1) := by decide +kernel
theorem dX6_saysSquare_6 : decode cX6_saysSquare 6 = .ok (.iadd, 1) := by decide +kernel
theorem dX6_saysSquare_7 : decode cX6_saysSquare 7 = .ok (.i2c, 1) := by decide +kernel
theorem dX6_saysSquare_8 : decode cX6_saysSquare 8 = .ok (.invokevirtual 183, 3) := by decide +kernel
theorem dX6_saysSquare_11 : decode cX6_saysSquare 11 = .ok (.aload_n 0, 1) := by decide +kernel
theorem dX6_saysSquare_12 : decode cX6_saysSquare 12 = .ok (.bipush 49, 2) := by decide +kernel
theorem dX6_saysSquare_14 : decode cX6_saysSquare 14 = .ok (.iload_n 1, 1) := by decide +kernel
theorem dX6_saysSquare_15 : decode cX6_saysSquare 15 = .ok (.iconst 5, 1) := by decide +kernel
theorem dX6_saysSquare_16 : decode cX6_saysSquare 16 = .ok (.idiv, 1) := by decide +kernel
theorem dX6_saysSquare_17 : decode cX6_saysSquare 17 = .ok (.iadd, 1) := by decide +kernel
theorem dX6_saysSquare_18 : decode cX6_saysSquare 18 = .ok (.i2c, 1) := by decide +kernel
theorem dX6_saysSquare_19 : decode cX6_saysSquare 19 = .ok (.invokevirtual 183, 3) := by decide +kernel
theorem dX6_saysSquare_22 : decode cX6_saysSquare 22 = .ok (.return_, 1) := by decide +kernel
theorem dX6_tell_0 : decode cX6_tell 0 = .ok (.aload_n 0, 1) := by decide +kernel
theorem dX6_tell_1 : decode cX6_tell 1 = .ok (.iload_n 1, 1) := by decide +kernel
theorem dX6_tell_2 : decode cX6_tell 2 = .ok (.iload_n 2, 1) := by decide +kernel
theorem dX6_tell_3 : decode cX6_tell 3 = .ok (.invokevirtual 187, 3) := by decide +kernel
theorem dX6_tell_6 : decode cX6_tell 6 = .ok (.istore_n 3, 1) := by decide +kernel
theorem dX6_tell_7 : decode cX6_tell 7 = .ok (.iload_n 3, 1) := by decide +kernel
theorem dX6_tell_8 : decode cX6_tell 8 = .ok (.ifCond .ge 5, 3) := by decide +kernel
theorem dX6_tell_11 : decode cX6_tell 11 = .ok (.iload_n 3, 1) := by decide +kernel
theorem dX6_tell_12 : decode cX6_tell 12 = .ok (.ireturn, 1) := by decide +kernel
theorem dX6_tell_13 : decode cX6_tell 13 = .ok (.aload_n 0, 1) := by decide +kernel
theorem dX6_tell_14 : decode cX6_tell 14 = .ok (.iconst 0, 1) := by decide +kernel
theorem dX6_tell_15 : decode cX6_tell 15 = .ok (.putfield 172, 3) := by decide +kernel
theorem dX6_tell_18 : decode cX6_tell 18 = .ok (.aload_n 0, 1) := by decide +kernel
theorem dX6_tell_19 : decode cX6_tell 19 = .ok (.ldc 175, 2) := by decide +kernel
theorem dX6_tell_21 : decode cX6_tell 21 = .ok (.aload_n 0, 1) := by decide +kernel
theorem dX6_tell_22 : decode cX6_tell 22 = .ok (.getfield 9, 3) := by decide +kernel
theorem dX6_tell_25 : decode cX6_tell 25 = .ok (.iload_n 1, 1) := by decide +kernel
theorem dX6_tell_26 : decode cX6_tell 26 = .ok (.iaload, 1) := by decide +kernel
theorem dX6_tell_27 : decode cX6_tell 27 = .ok (.invokevirtual 177, 3) := by decide +kernel
theorem dX6_tell_30 : decode cX6_tell 30 = .ok (.invokevirtual 183, 3) := by decide +kernel
theorem dX6_tell_33 : decode cX6_tell 33 = .ok (.aload_n 0, 1) := by decide +kernel
theorem dX6_tell_34 : decode cX6_tell 34 = .ok (.iload_n 1, 1) := by decide +kernel
theorem dX6_tell_35 : decode cX6_tell 35 = .ok (.invokevirtual 190, 3) := by decide +kernel
theorem dX6_tell_38 : decode cX6_tell 38 = .ok (.aload_n 0, 1) := by decide +kernel
theorem dX6_tell_39 : decode cX6_tell 39 = .ok (.aload_n 0, 1) := by decide +kernel
theorem dX6_tell_40 : decode cX6_tell 40 = .ok (.getfield 9, 3) := by decide +kernel
theorem dX6_tell_43 : decode cX6_tell 43 = .ok (.iload_n 2, 1) := by decide +kernel
theorem dX6_tell_44 : decode cX6_tell 44 = .ok (.iaload, 1) := by decide +kernel
theorem dX6_tell_45 : decode cX6_tell 45 = .ok (.bipush 6, 2) := by decide +kernel
theorem dX6_tell_47 : decode cX6_tell 47 = .ok (.if_icmp .ne 8, 3) := by decide +kernel
theorem dX6_tell_50 : decode cX6_tell 50 = .ok (.bipush 120, 2) := by decide +kernel
theorem dX6_tell_52 : decode cX6_tell 52 = .ok (.goto 5, 3) := by decide +kernel
theorem dX6_tell_55 : decode cX6_tell 55 = .ok (.bipush 45, 2) := by decide +kernel
theorem dX6_tell_57 : decode cX6_tell 57 = .ok (.invokevirtual 183, 3) := by decide +kernel
theorem dX6_tell_60 : decode cX6_tell 60 = .ok (.aload_n 0, 1) := by decide +kernel
theorem dX6_tell_61 : decode cX6_tell 61 = .ok (.iload_n 2, 1) := by decide +kernel
theorem dX6_tell_62 : decode cX6_tell 62 = .ok (.invokevirtual 190, 3) := by decide +kernel
theorem dX6_tell_65 : decode cX6_tell 65 = .ok (.iload_n 3, 1) := by decide +kernel
theorem dX6_tell_66 : decode cX6_tell 66 = .ok (.ifCond .le 29, 3) := by decide +kernel
theorem dX6_tell_69 : decode cX6_tell 69 = .ok (.aload_n 0, 1) := by decide +kernel
theorem dX6_tell_70 : decode cX6_tell 70 = .ok (.iload_n 3, 1) := by decide +kernel
theorem dX6_tell_71 : decode cX6_tell 71 = .ok (.iconst 3, 1) := by decide +kernel
theorem dX6_tell_72 : decode cX6_tell 72 = .ok (.if_icmp .ne 8, 3) := by decide +kernel
theorem dX6_tell_75 : decode cX6_tell 75 = .ok (.bipush 35, 2) := by decide +kernel
theorem dX6_tell_77 : decode cX6_tell 77 = .ok (.goto 15, 3) := by decide +kernel
theorem dX6_tell_80 : decode cX6_tell 80 = .ok (.iload_n 3, 1) := by decide +kernel
theorem dX6_tell_81 : decode cX6_tell 81 = .ok (.iconst 2, 1) := by decide +kernel
theorem dX6_tell_82 : decode cX6_tell 82 = .ok (.if_icmp .ne 8, 3) := by decide +kernel
theorem dX6_tell_85 : decode cX6_tell 85 = .ok (.bipush 43, 2) := by decide +kernel
theorem dX6_tell_87 : decode cX6_tell 87 = .ok (.goto 5, 3) := by decide +kernel
theorem dX6_tell_90 : decode cX6_tell 90 = .ok (.bipush 61, 2) := by decide +kernel
theorem dX6_tell_92 : decode cX6_tell 92 = .ok (.invokevirtual 183, 3) := by decide +kernel
theorem dX6_tell_95 : decode cX6_tell 95 = .ok (.aload_n 0, 1) := by decide +kernel
theorem dX6_tell_96 : decode cX6_tell 96 = .ok (.getfield 172, 3) := by decide +kernel
theorem dX6_tell_99 : decode cX6_tell 99 = .ok (.ireturn, 1) := by decide +kernel
theorem dX6_sign_0 : decode cX6_sign 0 = .ok (.iload_n 1, 1) := by decide +kernel
theorem dX6_sign_1 : decode cX6_sign 1 = .ok (.iconst 0, 1) := by decide +kernel
theorem dX6_sign_2 : decode cX6_sign 2 = .ok (.aload_n 0, 1) := by decide +kernel
theorem dX6_sign_3 : decode cX6_sign 3 = .ok (.getfield 172, 3) := by decide +kernel
theorem dX6_sign_6 : decode cX6_sign 6 = .ok (.iconst 1, 1) := by decide +kernel
theorem dX6_sign_7 : decode cX6_sign 7 = .ok (.isub, 1) := by decide +kernel
theorem dX6_sign_8 : decode cX6_sign 8 = .ok (.invokestatic 60, 3) := by decide +kernel
theorem dX6_sign_11 : decode cX6_sign 11 = .ok (.ifCond .eq 12, 3) := by decide +kernel
theorem dX6_sign_14 : decode cX6_sign 14 = .ok (.aload_n 0, 1) := by decide +kernel
theorem dX6_sign_15 : decode cX6_sign 15 = .ok (.getfield 35, 3) := by decide +kernel
theorem dX6_sign_18 : decode cX6_sign 18 = .ok (.iload_n 1, 1) := by decide +kernel
theorem dX6_sign_19 : decode cX6_sign 19 = .ok (.caload, 1) := by decide +kernel
theorem dX6_sign_20 : decode cX6_sign 20 = .ok (.goto 4, 3) := by decide +kernel
theorem dX6_sign_23 : decode cX6_sign 23 = .ok (.iconst (-1), 1) := by decide +kernel
theorem dX6_sign_24 : decode cX6_sign 24 = .ok (.ireturn, 1) := by decide +kernel
theorem dX6_append_0 : decode cX6_append 0 = .ok (.iload_n 1, 1) := by decide +kernel
theorem dX6_append_1 : decode cX6_append 1 = .ok (.bipush 32, 2) := by decide +kernel
theorem dX6_append_3 : decode cX6_append 3 = .ok (.bipush 126, 2) := by decide +kernel
theorem dX6_append_5 : decode cX6_append 5 = .ok (.invokestatic 60, 3) := by decide +kernel
theorem dX6_append_8 : decode cX6_append 8 = .ok (.ifCond .eq 12, 3) := by decide +kernel
theorem dX6_append_11 : decode cX6_append 11 = .ok (.aload_n 0, 1) := by decide +kernel
theorem dX6_append_12 : decode cX6_append 12 = .ok (.getfield 194, 3) := by decide +kernel
theorem dX6_append_15 : decode cX6_append 15 = .ok (.bipush 70, 2) := by decide +kernel
theorem dX6_append_17 : decode cX6_append 17 = .ok (.if_icmp .ne 6, 3) := by decide +kernel
theorem dX6_append_20 : decode cX6_append 20 = .ok (.bipush (-2), 2) := by decide +kernel
theorem dX6_append_22 : decode cX6_append 22 = .ok (.ireturn, 1) := by decide +kernel
theorem dX6_append_23 : decode cX6_append 23 = .ok (.aload_n 0, 1) := by decide +kernel
theorem dX6_append_24 : decode cX6_append 24 = .ok (.getfield 39, 3) := by decide +kernel
theorem dX6_append_27 : decode cX6_append 27 = .ok (.aload_n 0, 1) := by decide +kernel
theorem dX6_append_28 : decode cX6_append 28 = .ok (.getfield 194, 3) := by decide +kernel
theorem dX6_append_31 : decode cX6_append 31 = .ok (.iload_n 1, 1) := by decide +kernel
theorem dX6_append_32 : decode cX6_append 32 = .ok (.i2c, 1) := by decide +kernel
theorem dX6_append_33 : decode cX6_append 33 = .ok (.castore, 1) := by decide +kernel
theorem dX6_append_34 : decode cX6_append 34 = .ok (.aload_n 0, 1) := by decide +kernel
theorem dX6_append_35 : decode cX6_append 35 = .ok (.dup, 1) := by decide +kernel
theorem dX6_append_36 : decode cX6_append 36 = .ok (.getfield 194, 3) := by decide +kernel
theorem dX6_append_39 : decode cX6_append 39 = .ok (.iconst 1, 1) := by decide +kernel
theorem dX6_append_40 : decode cX6_append 40 = .ok (.iadd, 1) := by decide +kernel
theorem dX6_append_41 : decode cX6_append 41 = .ok (.putfield 194, 3) := by decide +kernel
theorem dX6_append_44 : decode cX6_append 44 = .ok (.aload_n 0, 1) := by decide +kernel
theorem dX6_append_45 : decode cX6_append 45 = .ok (.getfield 194, 3) := by decide +kernel
theorem dX6_append_48 : decode cX6_append 48 = .ok (.ireturn, 1) := by decide +kernel
theorem dX6_isHere_0 : decode cX6_isHere 0 = .ok (.aload_n 0, 1) := by decide +kernel
theorem dX6_isHere_1 : decode cX6_isHere 1 = .ok (.getfield 197, 3) := by decide +kernel
theorem dX6_isHere_4 : decode cX6_isHere 4 = .ok (.ifCond .ne 35, 3) := by decide +kernel
theorem dX6_isHere_7 : decode cX6_isHere 7 = .ok (.aload_n 0, 1) := by decide +kernel
theorem dX6_isHere_8 : decode cX6_isHere 8 = .ok (.getfield 201, 3) := by decide +kernel
theorem dX6_isHere_11 : decode cX6_isHere 11 = .ok (.aload_n 0, 1) := by decide +kernel
theorem dX6_isHere_12 : decode cX6_isHere 12 = .ok (.getfield 194, 3) := by decide +kernel
theorem dX6_isHere_15 : decode cX6_isHere 15 = .ok (.if_icmp .ge 24, 3) := by decide +kernel
theorem dX6_isHere_18 : decode cX6_isHere 18 = .ok (.aload_n 0, 1) := by decide +kernel
theorem dX6_isHere_19 : decode cX6_isHere 19 = .ok (.getfield 39, 3) := by decide +kernel
theorem dX6_isHere_22 : decode cX6_isHere 22 = .ok (.aload_n 0, 1) := by decide +kernel
theorem dX6_isHere_23 : decode cX6_isHere 23 = .ok (.getfield 201, 3) := by decide +kernel
theorem dX6_isHere_26 : decode cX6_isHere 26 = .ok (.caload, 1) := by decide +kernel
theorem dX6_isHere_27 : decode cX6_isHere 27 = .ok (.iload_n 1, 1) := by decide +kernel
theorem dX6_isHere_28 : decode cX6_isHere 28 = .ok (.iload_n 2, 1) := by decide +kernel
theorem dX6_isHere_29 : decode cX6_isHere 29 = .ok (.invokestatic 60, 3) := by decide +kernel
theorem dX6_isHere_32 : decode cX6_isHere 32 = .ok (.ifCond .eq 7, 3) := by decide +kernel
theorem dX6_isHere_35 : decode cX6_isHere 35 = .ok (.iconst 1, 1) := by decide +kernel
theorem dX6_isHere_36 : decode cX6_isHere 36 = .ok (.goto 4, 3) := by decide +kernel
theorem dX6_isHere_39 : decode cX6_isHere 39 = .ok (.iconst 0, 1) := by decide +kernel
theorem dX6_isHere_40 : decode cX6_isHere 40 = .ok (.ireturn, 1) := by decide +kernel
theorem dX6_signAt_0 : decode cX6_signAt 0 = .ok (.aload_n 0, 1) := by decide +kernel
theorem dX6_signAt_1 : decode cX6_signAt 1 = .ok (.aload_n 0, 1) := by decide +kernel
theorem dX6_signAt_2 : decode cX6_signAt 2 = .ok (.getfield 197, 3) := by decide +kernel
theorem dX6_signAt_5 : decode cX6_signAt 5 = .ok (.ifCond .ne 12, 3) := by decide +kernel
theorem dX6_signAt_8 : decode cX6_signAt 8 = .ok (.aload_n 0, 1) := by decide +kernel
theorem dX6_signAt_9 : decode cX6_signAt 9 = .ok (.iload_n 1, 1) := by decide +kernel
theorem dX6_signAt_10 : decode cX6_signAt 10 = .ok (.iload_n 2, 1) := by decide +kernel
theorem dX6_signAt_11 : decode cX6_signAt 11 = .ok (.invokevirtual 204, 3) := by decide +kernel
theorem dX6_signAt_14 : decode cX6_signAt 14 = .ok (.ifCond .ne 7, 3) := by decide +kernel
theorem dX6_signAt_17 : decode cX6_signAt 17 = .ok (.iconst 1, 1) := by decide +kernel
theorem dX6_signAt_18 : decode cX6_signAt 18 = .ok (.goto 4, 3) := by decide +kernel
theorem dX6_signAt_21 : decode cX6_signAt 21 = .ok (.iconst 0, 1) := by decide +kernel
theorem dX6_signAt_22 : decode cX6_signAt 22 = .ok (.putfield 197, 3) := by decide +kernel
theorem dX6_signAt_25 : decode cX6_signAt 25 = .ok (.aload_n 0, 1) := by decide +kernel
theorem dX6_signAt_26 : decode cX6_signAt 26 = .ok (.getfield 197, 3) := by decide +kernel
theorem dX6_signAt_29 : decode cX6_signAt 29 = .ok (.ifCond .eq 5, 3) := by decide +kernel
theorem dX6_signAt_32 : decode cX6_signAt 32 = .ok (.iconst 0, 1) := by decide +kernel
theorem dX6_signAt_33 : decode cX6_signAt 33 = .ok (.ireturn, 1) := by decide +kernel
theorem dX6_signAt_34 : decode cX6_signAt 34 = .ok (.aload_n 0, 1) := by decide +kernel
theorem dX6_signAt_35 : decode cX6_signAt 35 = .ok (.dup, 1) := by decide +kernel
theorem dX6_signAt_36 : decode cX6_signAt 36 = .ok (.getfield 201, 3) := by decide +kernel
theorem dX6_signAt_39 : decode cX6_signAt 39 = .ok (.iconst 1, 1) := by decide +kernel
theorem dX6_signAt_40 : decode cX6_signAt 40 = .ok (.iadd, 1) := by decide +kernel
theorem dX6_signAt_41 : decode cX6_signAt 41 = .ok (.putfield 201, 3) := by decide +kernel
theorem dX6_signAt_44 : decode cX6_signAt 44 = .ok (.aload_n 0, 1) := by decide +kernel
theorem dX6_signAt_45 : decode cX6_signAt 45 = .ok (.getfield 39, 3) := by decide +kernel
theorem dX6_signAt_48 : decode cX6_signAt 48 = .ok (.aload_n 0, 1) := by decide +kernel
theorem dX6_signAt_49 : decode cX6_signAt 49 = .ok (.getfield 201, 3) := by decide +kernel
theorem dX6_signAt_52 : decode cX6_signAt 52 = .ok (.iconst 1, 1) := by decide +kernel
theorem dX6_signAt_53 : decode cX6_signAt 53 = .ok (.isub, 1) := by decide +kernel
theorem dX6_signAt_54 : decode cX6_signAt 54 = .ok (.caload, 1) := by decide +kernel
theorem dX6_signAt_55 : decode cX6_signAt 55 = .ok (.iload_n 1, 1) := by decide +kernel
theorem dX6_signAt_56 : decode cX6_signAt 56 = .ok (.isub, 1) := by decide +kernel
theorem dX6_signAt_57 : decode cX6_signAt 57 = .ok (.ireturn, 1) := by decide +kernel
theorem dX6_square_0 : decode cX6_square 0 = .ok (.aload_n 0, 1) := by decide +kernel
theorem dX6_square_1 : decode cX6_square 1 = .ok (.bipush 97, 2) := by decide +kernel
theorem dX6_square_3 : decode cX6_square 3 = .ok (.bipush 101, 2) := by decide +kernel
theorem dX6_square_5 : decode cX6_square 5 = .ok (.invokevirtual 208, 3) := by decide +kernel
theorem dX6_square_8 : decode cX6_square 8 = .ok (.istore_n 1, 1) := by decide +kernel
theorem dX6_square_9 : decode cX6_square 9 = .ok (.iconst 5, 1) := by decide +kernel
theorem dX6_square_10 : decode cX6_square 10 = .ok (.aload_n 0, 1) := by decide +kernel
theorem dX6_square_11 : decode cX6_square 11 = .ok (.bipush 49, 2) := by decide +kernel
theorem dX6_square_13 : decode cX6_square 13 = .ok (.bipush 53, 2) := by decide +kernel
theorem dX6_square_15 : decode cX6_square 15 = .ok (.invokevirtual 208, 3) := by decide +kernel
theorem dX6_square_18 : decode cX6_square 18 = .ok (.imul, 1) := by decide +kernel
theorem dX6_square_19 : decode cX6_square 19 = .ok (.iload_n 1, 1) := by decide +kernel
theorem dX6_square_20 : decode cX6_square 20 = .ok (.iadd, 1) := by decide +kernel
theorem dX6_square_21 : decode cX6_square 21 = .ok (.ireturn, 1) := by decide +kernel
theorem dX6_order_0 : decode cX6_order 0 = .ok (.aload_n 0, 1) := by decide +kernel
theorem dX6_order_1 : decode cX6_order 1 = .ok (.getfield 42, 3) := by decide +kernel
theorem dX6_order_4 : decode cX6_order 4 = .ok (.iconst 3, 1) := by decide +kernel
theorem dX6_order_5 : decode cX6_order 5 = .ok (.aload_n 0, 1) := by decide +kernel
theorem dX6_order_6 : decode cX6_order 6 = .ok (.getfield 212, 3) := by decide +kernel
theorem dX6_order_9 : decode cX6_order 9 = .ok (.imul, 1) := by decide +kernel
theorem dX6_order_10 : decode cX6_order 10 = .ok (.iload_n 1, 1) := by decide +kernel
theorem dX6_order_11 : decode cX6_order 11 = .ok (.iastore, 1) := by decide +kernel
theorem dX6_order_12 : decode cX6_order 12 = .ok (.aload_n 0, 1) := by decide +kernel
theorem dX6_order_13 : decode cX6_order 13 = .ok (.getfield 42, 3) := by decide +kernel
theorem dX6_order_16 : decode cX6_order 16 = .ok (.iconst 3, 1) := by decide +kernel
theorem dX6_order_17 : decode cX6_order 17 = .ok (.aload_n 0, 1) := by decide +kernel
theorem dX6_order_18 : decode cX6_order 18 = .ok (.getfield 212, 3) := by decide +kernel
theorem dX6_order_21 : decode cX6_order 21 = .ok (.imul, 1) := by decide +kernel
theorem dX6_order_22 : decode cX6_order 22 = .ok (.iconst 1, 1) := by decide +kernel
theorem dX6_order_23 : decode cX6_order 23 = .ok (.iadd, 1) := by decide +kernel
theorem dX6_order_24 : decode cX6_order 24 = .ok (.iload_n 2, 1) := by decide +kernel
theorem dX6_order_25 : decode cX6_order 25 = .ok (.iastore, 1) := by decide +kernel
theorem dX6_order_26 : decode cX6_order 26 = .ok (.aload_n 0, 1) := by decide +kernel
theorem dX6_order_27 : decode cX6_order 27 = .ok (.getfield 42, 3) := by decide +kernel
theorem dX6_order_30 : decode cX6_order 30 = .ok (.iconst 3, 1) := by decide +kernel
theorem dX6_order_31 : decode cX6_order 31 = .ok (.aload_n 0, 1) := by decide +kernel
theorem dX6_order_32 : decode cX6_order 32 = .ok (.getfield 212, 3) := by decide +kernel
theorem dX6_order_35 : decode cX6_order 35 = .ok (.imul, 1) := by decide +kernel
theorem dX6_order_36 : decode cX6_order 36 = .ok (.iconst 2, 1) := by decide +kernel
theorem dX6_order_37 : decode cX6_order 37 = .ok (.iadd, 1) := by decide +kernel
theorem dX6_order_38 : decode cX6_order 38 = .ok (.iload_n 3, 1) := by decide +kernel
theorem dX6_order_39 : decode cX6_order 39 = .ok (.iastore, 1) := by decide +kernel
theorem dX6_order_40 : decode cX6_order 40 = .ok (.aload_n 0, 1) := by decide +kernel
theorem dX6_order_41 : decode cX6_order 41 = .ok (.dup, 1) := by decide +kernel
theorem dX6_order_42 : decode cX6_order 42 = .ok (.getfield 212, 3) := by decide +kernel
theorem dX6_order_45 : decode cX6_order 45 = .ok (.iconst 1, 1) := by decide +kernel
theorem dX6_order_46 : decode cX6_order 46 = .ok (.iadd, 1) := by decide +kernel
theorem dX6_order_47 : decode cX6_order 47 = .ok (.putfield 212, 3) := by decide +kernel
theorem dX6_order_50 : decode cX6_order 50 = .ok (.return_, 1) := by decide +kernel
theorem dX6_readOrder_0 : decode cX6_readOrder 0 = .ok (.aload_n 0, 1) := by decide +kernel
theorem dX6_readOrder_1 : decode cX6_readOrder 1 = .ok (.getfield 197, 3) := by decide +kernel
theorem dX6_readOrder_4 : decode cX6_readOrder 4 = .ok (.ifCond .eq 4, 3) := by decide +kernel
theorem dX6_readOrder_7 : decode cX6_readOrder 7 = .ok (.return_, 1) := by decide +kernel
theorem dX6_readOrder_8 : decode cX6_readOrder 8 = .ok (.aload_n 0, 1) := by decide +kernel
theorem dX6_readOrder_9 : decode cX6_readOrder 9 = .ok (.getfield 201, 3) := by decide +kernel
theorem dX6_readOrder_12 : decode cX6_readOrder 12 = .ok (.aload_n 0, 1) := by decide +kernel
theorem dX6_readOrder_13 : decode cX6_readOrder 13 = .ok (.getfield 194, 3) := by decide +kernel
theorem dX6_readOrder_16 : decode cX6_readOrder 16 = .ok (.if_icmp .ge 15, 3) := by decide +kernel
theorem dX6_readOrder_19 : decode cX6_readOrder 19 = .ok (.aload_n 0, 1) := by decide +kernel
theorem dX6_readOrder_20 : decode cX6_readOrder 20 = .ok (.getfield 39, 3) := by decide +kernel
theorem dX6_readOrder_23 : decode cX6_readOrder 23 = .ok (.aload_n 0, 1) := by decide +kernel
theorem dX6_readOrder_24 : decode cX6_readOrder 24 = .ok (.getfield 201, 3) := by decide +kernel
theorem dX6_readOrder_27 : decode cX6_readOrder 27 = .ok (.caload, 1) := by decide +kernel
theorem dX6_readOrder_28 : decode cX6_readOrder 28 = .ok (.goto 4, 3) := by decide +kernel
theorem dX6_readOrder_31 : decode cX6_readOrder 31 = .ok (.iconst 0, 1) := by decide +kernel
theorem dX6_readOrder_32 : decode cX6_readOrder 32 = .ok (.istore_n 1, 1) := by decide +kernel
theorem dX6_readOrder_33 : decode cX6_readOrder 33 = .ok (.ldc 175, 2) := by decide +kernel
theorem dX6_readOrder_35 : decode cX6_readOrder 35 = .ok (.iload_n 1, 1) := by decide +kernel
theorem dX6_readOrder_36 : decode cX6_readOrder 36 = .ok (.invokevirtual 215, 3) := by decide +kernel
theorem dX6_readOrder_39 : decode cX6_readOrder 39 = .ok (.istore_n 2, 1) := by decide +kernel
theorem dX6_readOrder_40 : decode cX6_readOrder 40 = .ok (.iload_n 2, 1) := by decide +kernel
theorem dX6_readOrder_41 : decode cX6_readOrder 41 = .ok (.ifCond .le 26, 3) := by decide +kernel
theorem dX6_readOrder_44 : decode cX6_readOrder 44 = .ok (.aload_n 0, 1) := by decide +kernel
theorem dX6_readOrder_45 : decode cX6_readOrder 45 = .ok (.dup, 1) := by decide +kernel
theorem dX6_readOrder_46 : decode cX6_readOrder 46 = .ok (.getfield 201, 3) := by decide +kernel
theorem dX6_readOrder_49 : decode cX6_readOrder 49 = .ok (.iconst 1, 1) := by decide +kernel
theorem dX6_readOrder_50 : decode cX6_readOrder 50 = .ok (.iadd, 1) := by decide +kernel
theorem dX6_readOrder_51 : decode cX6_readOrder 51 = .ok (.putfield 201, 3) := by decide +kernel
theorem dX6_readOrder_54 : decode cX6_readOrder 54 = .ok (.aload_n 0, 1) := by decide +kernel
theorem dX6_readOrder_55 : decode cX6_readOrder 55 = .ok (.iload_n 2, 1) := by decide +kernel
theorem dX6_readOrder_56 : decode cX6_readOrder 56 = .ok (.aload_n 0, 1) := by decide +kernel
theorem dX6_readOrder_57 : decode cX6_readOrder 57 = .ok (.invokevirtual 218, 3) := by decide +kernel
theorem dX6_readOrder_60 : decode cX6_readOrder 60 = .ok (.iconst 0, 1) := by decide +kernel
theorem dX6_readOrder_61 : decode cX6_readOrder 61 = .ok (.invokevirtual 221, 3) := by decide +kernel
theorem dX6_readOrder_64 : decode cX6_readOrder 64 = .ok (.goto 139, 3) := by decide +kernel
theorem dX6_readOrder_67 : decode cX6_readOrder 67 = .ok (.iload_n 1, 1) := by decide +kernel
theorem dX6_readOrder_68 : decode cX6_readOrder 68 = .ok (.bipush 45, 2) := by decide +kernel
theorem dX6_readOrder_70 : decode cX6_readOrder 70 = .ok (.if_icmp .ne 27, 3) := by decide +kernel
theorem dX6_readOrder_73 : decode cX6_readOrder 73 = .ok (.aload_n 0, 1) := by decide +kernel
theorem dX6_readOrder_74 : decode cX6_readOrder 74 = .ok (.dup, 1) := by decide +kernel
theorem dX6_readOrder_75 : decode cX6_readOrder 75 = .ok (.getfield 201, 3) := by decide +kernel
theorem dX6_readOrder_78 : decode cX6_readOrder 78 = .ok (.iconst 1, 1) := by decide +kernel
theorem dX6_readOrder_79 : decode cX6_readOrder 79 = .ok (.iadd, 1) := by decide +kernel
theorem dX6_readOrder_80 : decode cX6_readOrder 80 = .ok (.putfield 201, 3) := by decide +kernel
theorem dX6_readOrder_83 : decode cX6_readOrder 83 = .ok (.aload_n 0, 1) := by decide +kernel
theorem dX6_readOrder_84 : decode cX6_readOrder 84 = .ok (.bipush 8, 2) := by decide +kernel
theorem dX6_readOrder_86 : decode cX6_readOrder 86 = .ok (.aload_n 0, 1) := by decide +kernel
theorem dX6_readOrder_87 : decode cX6_readOrder 87 = .ok (.invokevirtual 218, 3) := by decide +kernel
theorem dX6_readOrder_90 : decode cX6_readOrder 90 = .ok (.iconst 0, 1) := by decide +kernel
theorem dX6_readOrder_91 : decode cX6_readOrder 91 = .ok (.invokevirtual 221, 3) := by decide +kernel
theorem dX6_readOrder_94 : decode cX6_readOrder 94 = .ok (.goto 109, 3) := by decide +kernel
theorem dX6_readOrder_97 : decode cX6_readOrder 97 = .ok (.iload_n 1, 1) := by decide +kernel
theorem dX6_readOrder_98 : decode cX6_readOrder 98 = .ok (.bipush 97, 2) := by decide +kernel
theorem dX6_readOrder_100 : decode cX6_readOrder 100 = .ok (.bipush 101, 2) := by decide +kernel
theorem dX6_readOrder_102 : decode cX6_readOrder 102 = .ok (.invokestatic 60, 3) := by decide +kernel
theorem dX6_readOrder_105 : decode cX6_readOrder 105 = .ok (.ifCond .eq 32, 3) := by decide +kernel
theorem dX6_readOrder_108 : decode cX6_readOrder 108 = .ok (.aload_n 0, 1) := by decide +kernel
theorem dX6_readOrder_109 : decode cX6_readOrder 109 = .ok (.invokevirtual 218, 3) := by decide +kernel
theorem dX6_readOrder_112 : decode cX6_readOrder 112 = .ok (.istore_n 3, 1) := by decide +kernel
theorem dX6_readOrder_113 : decode cX6_readOrder 113 = .ok (.aload_n 0, 1) := by decide +kernel
theorem dX6_readOrder_114 : decode cX6_readOrder 114 = .ok (.bipush 45, 2) := by decide +kernel
theorem dX6_readOrder_116 : decode cX6_readOrder 116 = .ok (.bipush 45, 2) := by decide +kernel
theorem dX6_readOrder_118 : decode cX6_readOrder 118 = .ok (.invokevirtual 208, 3) := by decide +kernel
theorem dX6_readOrder_121 : decode cX6_readOrder 121 = .ok (.istore 4, 2) := by decide +kernel
theorem dX6_readOrder_123 : decode cX6_readOrder 123 = .ok (.aload_n 0, 1) := by decide +kernel
theorem dX6_readOrder_124 : decode cX6_readOrder 124 = .ok (.bipush 9, 2) := by decide +kernel
theorem dX6_readOrder_126 : decode cX6_readOrder 126 = .ok (.iload_n 3, 1) := by decide +kernel
theorem dX6_readOrder_127 : decode cX6_readOrder 127 = .ok (.aload_n 0, 1) := by decide +kernel
theorem dX6_readOrder_128 : decode cX6_readOrder 128 = .ok (.invokevirtual 218, 3) := by decide +kernel
theorem dX6_readOrder_131 : decode cX6_readOrder 131 = .ok (.invokevirtual 221, 3) := by decide +kernel
theorem dX6_readOrder_134 : decode cX6_readOrder 134 = .ok (.goto 69, 3) := by decide +kernel
theorem dX6_readOrder_137 : decode cX6_readOrder 137 = .ok (.iload_n 1, 1) := by decide +kernel
theorem dX6_readOrder_138 : decode cX6_readOrder 138 = .ok (.bipush 116, 2) := by decide +kernel
theorem dX6_readOrder_140 : decode cX6_readOrder 140 = .ok (.if_icmp .eq 15, 3) := by decide +kernel
theorem dX6_readOrder_143 : decode cX6_readOrder 143 = .ok (.iload_n 1, 1) := by decide +kernel
theorem dX6_readOrder_144 : decode cX6_readOrder 144 = .ok (.bipush 109, 2) := by decide +kernel
theorem dX6_readOrder_146 : decode cX6_readOrder 146 = .ok (.if_icmp .eq 9, 3) := by decide +kernel
theorem dX6_readOrder_149 : decode cX6_readOrder 149 = .ok (.iload_n 1, 1) := by decide +kernel
theorem dX6_readOrder_150 : decode cX6_readOrder 150 = .ok (.bipush 115, 2) := by decide +kernel
theorem dX6_readOrder_152 : decode cX6_readOrder 152 = .ok (.if_icmp .ne 46, 3) := by decide +kernel
theorem dX6_readOrder_155 : decode cX6_readOrder 155 = .ok (.aload_n 0, 1) := by decide +kernel
theorem dX6_readOrder_156 : decode cX6_readOrder 156 = .ok (.dup, 1) := by decide +kernel
theorem dX6_readOrder_157 : decode cX6_readOrder 157 = .ok (.getfield 201, 3) := by decide +kernel
theorem dX6_readOrder_160 : decode cX6_readOrder 160 = .ok (.iconst 1, 1) := by decide +kernel
theorem dX6_readOrder_161 : decode cX6_readOrder 161 = .ok (.iadd, 1) := by decide +kernel
theorem dX6_readOrder_162 : decode cX6_readOrder 162 = .ok (.putfield 201, 3) := by decide +kernel
theorem dX6_readOrder_165 : decode cX6_readOrder 165 = .ok (.aload_n 0, 1) := by decide +kernel
theorem dX6_readOrder_166 : decode cX6_readOrder 166 = .ok (.iload_n 1, 1) := by decide +kernel
theorem dX6_readOrder_167 : decode cX6_readOrder 167 = .ok (.bipush 116, 2) := by decide +kernel
theorem dX6_readOrder_169 : decode cX6_readOrder 169 = .ok (.if_icmp .ne 8, 3) := by decide +kernel
theorem dX6_readOrder_172 : decode cX6_readOrder 172 = .ok (.bipush 10, 2) := by decide +kernel
theorem dX6_readOrder_174 : decode cX6_readOrder 174 = .ok (.goto 16, 3) := by decide +kernel
theorem dX6_readOrder_177 : decode cX6_readOrder 177 = .ok (.iload_n 1, 1) := by decide +kernel
theorem dX6_readOrder_178 : decode cX6_readOrder 178 = .ok (.bipush 109, 2) := by decide +kernel
theorem dX6_readOrder_180 : decode cX6_readOrder 180 = .ok (.if_icmp .ne 8, 3) := by decide +kernel
theorem dX6_readOrder_183 : decode cX6_readOrder 183 = .ok (.bipush 11, 2) := by decide +kernel
theorem dX6_readOrder_185 : decode cX6_readOrder 185 = .ok (.goto 5, 3) := by decide +kernel
theorem dX6_readOrder_188 : decode cX6_readOrder 188 = .ok (.bipush 12, 2) := by decide +kernel
theorem dX6_readOrder_190 : decode cX6_readOrder 190 = .ok (.iconst 0, 1) := by decide +kernel
theorem dX6_readOrder_191 : decode cX6_readOrder 191 = .ok (.iconst 0, 1) := by decide +kernel
theorem dX6_readOrder_192 : decode cX6_readOrder 192 = .ok (.invokevirtual 221, 3) := by decide +kernel
theorem dX6_readOrder_195 : decode cX6_readOrder 195 = .ok (.goto 8, 3) := by decide +kernel
theorem dX6_readOrder_198 : decode cX6_readOrder 198 = .ok (.aload_n 0, 1) := by decide +kernel
theorem dX6_readOrder_199 : decode cX6_readOrder 199 = .ok (.iconst 1, 1) := by decide +kernel
theorem dX6_readOrder_200 : decode cX6_readOrder 200 = .ok (.putfield 197, 3) := by decide +kernel
theorem dX6_readOrder_203 : decode cX6_readOrder 203 = .ok (.return_, 1) := by decide +kernel
theorem dX6_does_0 : decode cX6_does 0 = .ok (.aload_n 0, 1) := by decide +kernel
theorem dX6_does_1 : decode cX6_does 1 = .ok (.getfield 42, 3) := by decide +kernel
theorem dX6_does_4 : decode cX6_does 4 = .ok (.iconst 3, 1) := by decide +kernel
theorem dX6_does_5 : decode cX6_does 5 = .ok (.iload_n 1, 1) := by decide +kernel
theorem dX6_does_6 : decode cX6_does 6 = .ok (.imul, 1) := by decide +kernel
theorem dX6_does_7 : decode cX6_does 7 = .ok (.iaload, 1) := by decide +kernel
theorem dX6_does_8 : decode cX6_does 8 = .ok (.istore_n 2, 1) := by decide +kernel
theorem dX6_does_9 : decode cX6_does 9 = .ok (.aload_n 0, 1) := by decide +kernel
theorem dX6_does_10 : decode cX6_does 10 = .ok (.getfield 42, 3) := by decide +kernel
theorem dX6_does_13 : decode cX6_does 13 = .ok (.iconst 3, 1) := by decide +kernel
theorem dX6_does_14 : decode cX6_does 14 = .ok (.iload_n 1, 1) := by decide +kernel
theorem dX6_does_15 : decode cX6_does 15 = .ok (.imul, 1) := by decide +kernel
theorem dX6_does_16 : decode cX6_does 16 = .ok (.iconst 1, 1) := by decide +kernel
theorem dX6_does_17 : decode cX6_does 17 = .ok (.iadd, 1) := by decide +kernel
theorem dX6_does_18 : decode cX6_does 18 = .ok (.iaload, 1) := by decide +kernel
theorem dX6_does_19 : decode cX6_does 19 = .ok (.istore_n 3, 1) := by decide +kernel
theorem dX6_does_20 : decode cX6_does 20 = .ok (.iload_n 2, 1) := by decide +kernel
theorem dX6_does_21 : decode cX6_does 21 = .ok (.bipush 8, 2) := by decide +kernel
theorem dX6_does_23 : decode cX6_does 23 = .ok (.if_icmp .ge 10, 3) := by decide +kernel
theorem dX6_does_26 : decode cX6_does 26 = .ok (.aload_n 0, 1) := by decide +kernel
theorem dX6_does_27 : decode cX6_does 27 = .ok (.iload_n 2, 1) := by decide +kernel
theorem dX6_does_28 : decode cX6_does 28 = .ok (.iload_n 3, 1) := by decide +kernel
theorem dX6_does_29 : decode cX6_does 29 = .ok (.invokevirtual 83, 3) := by decide +kernel
theorem dX6_does_32 : decode cX6_does 32 = .ok (.ireturn, 1) := by decide +kernel
theorem dX6_does_33 : decode cX6_does 33 = .ok (.iload_n 2, 1) := by decide +kernel
theorem dX6_does_34 : decode cX6_does 34 = .ok (.tableswitch 61 8 12 #[34, 40, 61, 61, 56], 34) := by decide +kernel
theorem dX6_does_68 : decode cX6_does 68 = .ok (.aload_n 0, 1) := by decide +kernel
theorem dX6_does_69 : decode cX6_does 69 = .ok (.iload_n 3, 1) := by decide +kernel
theorem dX6_does_70 : decode cX6_does 70 = .ok (.invokevirtual 89, 3) := by decide +kernel
theorem dX6_does_73 : decode cX6_does 73 = .ok (.ireturn, 1) := by decide +kernel
theorem dX6_does_74 : decode cX6_does 74 = .ok (.aload_n 0, 1) := by decide +kernel
theorem dX6_does_75 : decode cX6_does 75 = .ok (.iload_n 3, 1) := by decide +kernel
theorem dX6_does_76 : decode cX6_does 76 = .ok (.aload_n 0, 1) := by decide +kernel
theorem dX6_does_77 : decode cX6_does 77 = .ok (.getfield 42, 3) := by decide +kernel
theorem dX6_does_80 : decode cX6_does 80 = .ok (.iconst 3, 1) := by decide +kernel
theorem dX6_does_81 : decode cX6_does 81 = .ok (.iload_n 1, 1) := by decide +kernel
theorem dX6_does_82 : decode cX6_does 82 = .ok (.imul, 1) := by decide +kernel
theorem dX6_does_83 : decode cX6_does 83 = .ok (.iconst 2, 1) := by decide +kernel
theorem dX6_does_84 : decode cX6_does 84 = .ok (.iadd, 1) := by decide +kernel
theorem dX6_does_85 : decode cX6_does 85 = .ok (.iaload, 1) := by decide +kernel
theorem dX6_does_86 : decode cX6_does 86 = .ok (.invokevirtual 165, 3) := by decide +kernel
theorem dX6_does_89 : decode cX6_does 89 = .ok (.ireturn, 1) := by decide +kernel
theorem dX6_does_90 : decode cX6_does 90 = .ok (.aload_n 0, 1) := by decide +kernel
theorem dX6_does_91 : decode cX6_does 91 = .ok (.invokevirtual 158, 3) := by decide +kernel
theorem dX6_does_94 : decode cX6_does 94 = .ok (.ireturn, 1) := by decide +kernel
theorem dX6_does_95 : decode cX6_does 95 = .ok (.aload_n 0, 1) := by decide +kernel
theorem dX6_does_96 : decode cX6_does 96 = .ok (.iload_n 2, 1) := by decide +kernel
theorem dX6_does_97 : decode cX6_does 97 = .ok (.bipush 11, 2) := by decide +kernel
theorem dX6_does_99 : decode cX6_does 99 = .ok (.if_icmp .ne 7, 3) := by decide +kernel
theorem dX6_does_102 : decode cX6_does 102 = .ok (.iconst 1, 1) := by decide +kernel
theorem dX6_does_103 : decode cX6_does 103 = .ok (.goto 4, 3) := by decide +kernel
theorem dX6_does_106 : decode cX6_does 106 = .ok (.iconst 0, 1) := by decide +kernel
theorem dX6_does_107 : decode cX6_does 107 = .ok (.invokevirtual 168, 3) := by decide +kernel
theorem dX6_does_110 : decode cX6_does 110 = .ok (.ireturn, 1) := by decide +kernel
theorem dX6_read_0 : decode cX6_read 0 = .ok (.aload_n 0, 1) := by decide +kernel
theorem dX6_read_1 : decode cX6_read 1 = .ok (.iconst 0, 1) := by decide +kernel
theorem dX6_read_2 : decode cX6_read 2 = .ok (.putfield 201, 3) := by decide +kernel
theorem dX6_read_5 : decode cX6_read 5 = .ok (.aload_n 0, 1) := by decide +kernel
theorem dX6_read_6 : decode cX6_read 6 = .ok (.iconst 0, 1) := by decide +kernel
theorem dX6_read_7 : decode cX6_read 7 = .ok (.putfield 197, 3) := by decide +kernel
theorem dX6_read_10 : decode cX6_read 10 = .ok (.aload_n 0, 1) := by decide +kernel
theorem dX6_read_11 : decode cX6_read 11 = .ok (.iconst 0, 1) := by decide +kernel
theorem dX6_read_12 : decode cX6_read 12 = .ok (.putfield 212, 3) := by decide +kernel
theorem dX6_read_15 : decode cX6_read 15 = .ok (.aload_n 0, 1) := by decide +kernel
theorem dX6_read_16 : decode cX6_read 16 = .ok (.invokevirtual 225, 3) := by decide +kernel
theorem dX6_read_19 : decode cX6_read 19 = .ok (.aload_n 0, 1) := by decide +kernel
theorem dX6_read_20 : decode cX6_read 20 = .ok (.bipush 59, 2) := by decide +kernel
theorem dX6_read_22 : decode cX6_read 22 = .ok (.bipush 59, 2) := by decide +kernel
theorem dX6_read_24 : decode cX6_read 24 = .ok (.invokevirtual 204, 3) := by decide +kernel
theorem dX6_read_27 : decode cX6_read 27 = .ok (.ifCond .eq 20, 3) := by decide +kernel
theorem dX6_read_30 : decode cX6_read 30 = .ok (.aload_n 0, 1) := by decide +kernel
theorem dX6_read_31 : decode cX6_read 31 = .ok (.dup, 1) := by decide +kernel
theorem dX6_read_32 : decode cX6_read 32 = .ok (.getfield 201, 3) := by decide +kernel
theorem dX6_read_35 : decode cX6_read 35 = .ok (.iconst 1, 1) := by decide +kernel
theorem dX6_read_36 : decode cX6_read 36 = .ok (.iadd, 1) := by decide +kernel
theorem dX6_read_37 : decode cX6_read 37 = .ok (.putfield 201, 3) := by decide +kernel
theorem dX6_read_40 : decode cX6_read 40 = .ok (.aload_n 0, 1) := by decide +kernel
theorem dX6_read_41 : decode cX6_read 41 = .ok (.invokevirtual 225, 3) := by decide +kernel
theorem dX6_read_44 : decode cX6_read 44 = .ok (.goto (-25), 3) := by decide +kernel
theorem dX6_read_47 : decode cX6_read 47 = .ok (.aload_n 0, 1) := by decide +kernel
theorem dX6_read_48 : decode cX6_read 48 = .ok (.getfield 197, 3) := by decide +kernel
theorem dX6_read_51 : decode cX6_read 51 = .ok (.ifCond .ne 14, 3) := by decide +kernel
theorem dX6_read_54 : decode cX6_read 54 = .ok (.aload_n 0, 1) := by decide +kernel
theorem dX6_read_55 : decode cX6_read 55 = .ok (.getfield 201, 3) := by decide +kernel
theorem dX6_read_58 : decode cX6_read 58 = .ok (.aload_n 0, 1) := by decide +kernel
theorem dX6_read_59 : decode cX6_read 59 = .ok (.getfield 194, 3) := by decide +kernel
theorem dX6_read_62 : decode cX6_read 62 = .ok (.if_icmp .ge 7, 3) := by decide +kernel
theorem dX6_read_65 : decode cX6_read 65 = .ok (.iconst 1, 1) := by decide +kernel
theorem dX6_read_66 : decode cX6_read 66 = .ok (.goto 4, 3) := by decide +kernel
theorem dX6_read_69 : decode cX6_read 69 = .ok (.iconst 0, 1) := by decide +kernel
theorem dX6_read_70 : decode cX6_read 70 = .ok (.istore_n 1, 1) := by decide +kernel
theorem dX6_read_71 : decode cX6_read 71 = .ok (.aload_n 0, 1) := by decide +kernel
theorem dX6_read_72 : decode cX6_read 72 = .ok (.iconst 0, 1) := by decide +kernel
theorem dX6_read_73 : decode cX6_read 73 = .ok (.putfield 194, 3) := by decide +kernel
theorem dX6_read_76 : decode cX6_read 76 = .ok (.iload_n 1, 1) := by decide +kernel
theorem dX6_read_77 : decode cX6_read 77 = .ok (.ifCond .eq 11, 3) := by decide +kernel
theorem dX6_read_80 : decode cX6_read 80 = .ok (.bipush (-100), 2) := by decide +kernel
theorem dX6_read_82 : decode cX6_read 82 = .ok (.aload_n 0, 1) := by decide +kernel
theorem dX6_read_83 : decode cX6_read 83 = .ok (.getfield 201, 3) := by decide +kernel
theorem dX6_read_86 : decode cX6_read 86 = .ok (.isub, 1) := by decide +kernel
theorem dX6_read_87 : decode cX6_read 87 = .ok (.ireturn, 1) := by decide +kernel
theorem dX6_read_88 : decode cX6_read 88 = .ok (.aload_n 0, 1) := by decide +kernel
theorem dX6_read_89 : decode cX6_read 89 = .ok (.invokevirtual 80, 3) := by decide +kernel
theorem dX6_read_92 : decode cX6_read 92 = .ok (.iconst 0, 1) := by decide +kernel
theorem dX6_read_93 : decode cX6_read 93 = .ok (.istore_n 2, 1) := by decide +kernel
theorem dX6_read_94 : decode cX6_read 94 = .ok (.iload_n 2, 1) := by decide +kernel
theorem dX6_read_95 : decode cX6_read 95 = .ok (.aload_n 0, 1) := by decide +kernel
theorem dX6_read_96 : decode cX6_read 96 = .ok (.getfield 212, 3) := by decide +kernel
theorem dX6_read_99 : decode cX6_read 99 = .ok (.if_icmp .ge 31, 3) := by decide +kernel
theorem dX6_read_102 : decode cX6_read 102 = .ok (.aload_n 0, 1) := by decide +kernel
theorem dX6_read_103 : decode cX6_read 103 = .ok (.iload_n 2, 1) := by decide +kernel
theorem dX6_read_104 : decode cX6_read 104 = .ok (.invokevirtual 228, 3) := by decide +kernel
theorem dX6_read_107 : decode cX6_read 107 = .ok (.istore_n 3, 1) := by decide +kernel
theorem dX6_read_108 : decode cX6_read 108 = .ok (.iload_n 3, 1) := by decide +kernel
theorem dX6_read_109 : decode cX6_read 109 = .ok (.ifCond .ge 15, 3) := by decide +kernel
theorem dX6_read_112 : decode cX6_read 112 = .ok (.aload_n 0, 1) := by decide +kernel
theorem dX6_read_113 : decode cX6_read 113 = .ok (.iload_n 2, 1) := by decide +kernel
theorem dX6_read_114 : decode cX6_read 114 = .ok (.putfield 22, 3) := by decide +kernel
theorem dX6_read_117 : decode cX6_read 117 = .ok (.aload_n 0, 1) := by decide +kernel
theorem dX6_read_118 : decode cX6_read 118 = .ok (.bipush (-3), 2) := by decide +kernel
theorem dX6_read_120 : decode cX6_read 120 = .ok (.invokevirtual 86, 3) := by decide +kernel
theorem dX6_read_123 : decode cX6_read 123 = .ok (.ireturn, 1) := by decide +kernel
theorem dX6_read_124 : decode cX6_read 124 = .ok (.iinc 2 1, 3) := by decide +kernel
theorem dX6_read_127 : decode cX6_read 127 = .ok (.goto (-33), 3) := by decide +kernel
theorem dX6_read_130 : decode cX6_read 130 = .ok (.aload_n 0, 1) := by decide +kernel
theorem dX6_read_131 : decode cX6_read 131 = .ok (.aload_n 0, 1) := by decide +kernel
theorem dX6_read_132 : decode cX6_read 132 = .ok (.getfield 212, 3) := by decide +kernel
theorem dX6_read_135 : decode cX6_read 135 = .ok (.invokevirtual 86, 3) := by decide +kernel
theorem dX6_read_138 : decode cX6_read 138 = .ok (.ireturn, 1) := by decide +kernel
theorem dX6_attacked_0 : decode cX6_attacked 0 = .ok (.iconst 0, 1) := by decide +kernel
theorem dX6_attacked_1 : decode cX6_attacked 1 = .ok (.istore_n 1, 1) := by decide +kernel
theorem dX6_attacked_2 : decode cX6_attacked 2 = .ok (.iconst 0, 1) := by decide +kernel
theorem dX6_attacked_3 : decode cX6_attacked 3 = .ok (.istore_n 2, 1) := by decide +kernel
theorem dX6_attacked_4 : decode cX6_attacked 4 = .ok (.iload_n 2, 1) := by decide +kernel
theorem dX6_attacked_5 : decode cX6_attacked 5 = .ok (.bipush 25, 2) := by decide +kernel
theorem dX6_attacked_7 : decode cX6_attacked 7 = .ok (.if_icmp .ge 25, 3) := by decide +kernel
theorem dX6_attacked_10 : decode cX6_attacked 10 = .ok (.iload_n 1, 1) := by decide +kernel
theorem dX6_attacked_11 : decode cX6_attacked 11 = .ok (.aload_n 0, 1) := by decide +kernel
theorem dX6_attacked_12 : decode cX6_attacked 12 = .ok (.iload_n 2, 1) := by decide +kernel
theorem dX6_attacked_13 : decode cX6_attacked 13 = .ok (.invokevirtual 120, 3) := by decide +kernel
theorem dX6_attacked_16 : decode cX6_attacked 16 = .ok (.ifCond .le 7, 3) := by decide +kernel
theorem dX6_attacked_19 : decode cX6_attacked 19 = .ok (.iconst 1, 1) := by decide +kernel
theorem dX6_attacked_20 : decode cX6_attacked 20 = .ok (.goto 4, 3) := by decide +kernel
theorem dX6_attacked_23 : decode cX6_attacked 23 = .ok (.iconst 0, 1) := by decide +kernel
theorem dX6_attacked_24 : decode cX6_attacked 24 = .ok (.iadd, 1) := by decide +kernel
theorem dX6_attacked_25 : decode cX6_attacked 25 = .ok (.istore_n 1, 1) := by decide +kernel
theorem dX6_attacked_26 : decode cX6_attacked 26 = .ok (.iinc 2 1, 3) := by decide +kernel
theorem dX6_attacked_29 : decode cX6_attacked 29 = .ok (.goto (-25), 3) := by decide +kernel
theorem dX6_attacked_32 : decode cX6_attacked 32 = .ok (.iload_n 1, 1) := by decide +kernel
theorem dX6_attacked_33 : decode cX6_attacked 33 = .ok (.ireturn, 1) := by decide +kernel
theorem dX6_count_0 : decode cX6_count 0 = .ok (.iconst 0, 1) := by decide +kernel
theorem dX6_count_1 : decode cX6_count 1 = .ok (.istore_n 2, 1) := by decide +kernel
theorem dX6_count_2 : decode cX6_count 2 = .ok (.iconst 0, 1) := by decide +kernel
theorem dX6_count_3 : decode cX6_count 3 = .ok (.istore_n 3, 1) := by decide +kernel
theorem dX6_count_4 : decode cX6_count 4 = .ok (.iload_n 3, 1) := by decide +kernel
theorem dX6_count_5 : decode cX6_count 5 = .ok (.bipush 25, 2) := by decide +kernel
theorem dX6_count_7 : decode cX6_count 7 = .ok (.if_icmp .ge 47, 3) := by decide +kernel
theorem dX6_count_10 : decode cX6_count 10 = .ok (.iload_n 2, 1) := by decide +kernel
theorem dX6_count_11 : decode cX6_count 11 = .ok (.iload_n 1, 1) := by decide +kernel
theorem dX6_count_12 : decode cX6_count 12 = .ok (.ifCond .eq 17, 3) := by decide +kernel
theorem dX6_count_15 : decode cX6_count 15 = .ok (.aload_n 0, 1) := by decide +kernel
theorem dX6_count_16 : decode cX6_count 16 = .ok (.getfield 9, 3) := by decide +kernel
theorem dX6_count_19 : decode cX6_count 19 = .ok (.iload_n 3, 1) := by decide +kernel
theorem dX6_count_20 : decode cX6_count 20 = .ok (.iaload, 1) := by decide +kernel
theorem dX6_count_21 : decode cX6_count 21 = .ok (.bipush 6, 2) := by decide +kernel
theorem dX6_count_23 : decode cX6_count 23 = .ok (.if_icmp .ne 22, 3) := by decide +kernel
theorem dX6_count_26 : decode cX6_count 26 = .ok (.goto 15, 3) := by decide +kernel
theorem dX6_count_29 : decode cX6_count 29 = .ok (.aload_n 0, 1) := by decide +kernel
theorem dX6_count_30 : decode cX6_count 30 = .ok (.getfield 9, 3) := by decide +kernel
theorem dX6_count_33 : decode cX6_count 33 = .ok (.iload_n 3, 1) := by decide +kernel
theorem dX6_count_34 : decode cX6_count 34 = .ok (.iaload, 1) := by decide +kernel
theorem dX6_count_35 : decode cX6_count 35 = .ok (.invokestatic 107, 3) := by decide +kernel
theorem dX6_count_38 : decode cX6_count 38 = .ok (.ifCond .eq 7, 3) := by decide +kernel
theorem dX6_count_41 : decode cX6_count 41 = .ok (.iconst 1, 1) := by decide +kernel
theorem dX6_count_42 : decode cX6_count 42 = .ok (.goto 4, 3) := by decide +kernel
theorem dX6_count_45 : decode cX6_count 45 = .ok (.iconst 0, 1) := by decide +kernel
theorem dX6_count_46 : decode cX6_count 46 = .ok (.iadd, 1) := by decide +kernel
theorem dX6_count_47 : decode cX6_count 47 = .ok (.istore_n 2, 1) := by decide +kernel
theorem dX6_count_48 : decode cX6_count 48 = .ok (.iinc 3 1, 3) := by decide +kernel
theorem dX6_count_51 : decode cX6_count 51 = .ok (.goto (-47), 3) := by decide +kernel
theorem dX6_count_54 : decode cX6_count 54 = .ok (.iload_n 2, 1) := by decide +kernel
theorem dX6_count_55 : decode cX6_count 55 = .ok (.ireturn, 1) := by decide +kernel
theorem dX6_account_0 : decode cX6_account 0 = .ok (.iload_n 1, 1) := by decide +kernel
theorem dX6_account_1 : decode cX6_account 1 = .ok (.tableswitch 135 0 11 #[63, 68, 74, 80, 101, 107, 112, 112, 112, 112, 125, 130], 63) := by decide +kernel
theorem dX6_account_64 : decode cX6_account 64 = .ok (.aload_n 0, 1) := by decide +kernel
theorem dX6_account_65 : decode cX6_account 65 = .ok (.invokevirtual 76, 3) := by decide +kernel
theorem dX6_account_68 : decode cX6_account 68 = .ok (.ireturn, 1) := by decide +kernel
theorem dX6_account_69 : decode cX6_account 69 = .ok (.aload_n 0, 1) := by decide +kernel
theorem dX6_account_70 : decode cX6_account 70 = .ok (.iconst 0, 1) := by decide +kernel
theorem dX6_account_71 : decode cX6_account 71 = .ok (.invokevirtual 231, 3) := by decide +kernel
theorem dX6_account_74 : decode cX6_account 74 = .ok (.ireturn, 1) := by decide +kernel
theorem dX6_account_75 : decode cX6_account 75 = .ok (.aload_n 0, 1) := by decide +kernel
theorem dX6_account_76 : decode cX6_account 76 = .ok (.iconst 1, 1) := by decide +kernel
theorem dX6_account_77 : decode cX6_account 77 = .ok (.invokevirtual 231, 3) := by decide +kernel
theorem dX6_account_80 : decode cX6_account 80 = .ok (.ireturn, 1) := by decide +kernel
theorem dX6_account_81 : decode cX6_account 81 = .ok (.aload_n 0, 1) := by decide +kernel
theorem dX6_account_82 : decode cX6_account 82 = .ok (.bipush 7, 2) := by decide +kernel
theorem dX6_account_84 : decode cX6_account 84 = .ok (.invokevirtual 72, 3) := by decide +kernel
theorem dX6_account_87 : decode cX6_account 87 = .ok (.ifCond .ge 8, 3) := by decide +kernel
theorem dX6_account_90 : decode cX6_account 90 = .ok (.bipush (-4), 2) := by decide +kernel
theorem dX6_account_92 : decode cX6_account 92 = .ok (.goto 9, 3) := by decide +kernel
theorem dX6_account_95 : decode cX6_account 95 = .ok (.aload_n 0, 1) := by decide +kernel
theorem dX6_account_96 : decode cX6_account 96 = .ok (.bipush 7, 2) := by decide +kernel
theorem dX6_account_98 : decode cX6_account 98 = .ok (.invokevirtual 72, 3) := by decide +kernel
theorem dX6_account_101 : decode cX6_account 101 = .ok (.ireturn, 1) := by decide +kernel
theorem dX6_account_102 : decode cX6_account 102 = .ok (.aload_n 0, 1) := by decide +kernel
theorem dX6_account_103 : decode cX6_account 103 = .ok (.iconst (-1), 1) := by decide +kernel
theorem dX6_account_104 : decode cX6_account 104 = .ok (.invokevirtual 152, 3) := by decide +kernel
theorem dX6_account_107 : decode cX6_account 107 = .ok (.ireturn, 1) := by decide +kernel
theorem dX6_account_108 : decode cX6_account 108 = .ok (.aload_n 0, 1) := by decide +kernel
theorem dX6_account_109 : decode cX6_account 109 = .ok (.invokevirtual 234, 3) := by decide +kernel
theorem dX6_account_112 : decode cX6_account 112 = .ok (.ireturn, 1) := by decide +kernel
theorem dX6_account_113 : decode cX6_account 113 = .ok (.aload_n 0, 1) := by decide +kernel
theorem dX6_account_114 : decode cX6_account 114 = .ok (.getfield 9, 3) := by decide +kernel
theorem dX6_account_117 : decode cX6_account 117 = .ok (.bipush 25, 2) := by decide +kernel
theorem dX6_account_119 : decode cX6_account 119 = .ok (.iload_n 1, 1) := by decide +kernel
theorem dX6_account_120 : decode cX6_account 120 = .ok (.iadd, 1) := by decide +kernel
theorem dX6_account_121 : decode cX6_account 121 = .ok (.bipush 6, 2) := by decide +kernel
theorem dX6_account_123 : decode cX6_account 123 = .ok (.isub, 1) := by decide +kernel
theorem dX6_account_124 : decode cX6_account 124 = .ok (.iaload, 1) := by decide +kernel
theorem dX6_account_125 : decode cX6_account 125 = .ok (.ireturn, 1) := by decide +kernel
theorem dX6_account_126 : decode cX6_account 126 = .ok (.aload_n 0, 1) := by decide +kernel
theorem dX6_account_127 : decode cX6_account 127 = .ok (.getfield 194, 3) := by decide +kernel
theorem dX6_account_130 : decode cX6_account 130 = .ok (.ireturn, 1) := by decide +kernel
theorem dX6_account_131 : decode cX6_account 131 = .ok (.aload_n 0, 1) := by decide +kernel
theorem dX6_account_132 : decode cX6_account 132 = .ok (.getfield 51, 3) := by decide +kernel
theorem dX6_account_135 : decode cX6_account 135 = .ok (.ireturn, 1) := by decide +kernel
theorem dX6_account_136 : decode cX6_account 136 = .ok (.bipush (-2), 2) := by decide +kernel
theorem dX6_account_138 : decode cX6_account 138 = .ok (.ireturn, 1) := by decide +kernel
theorem dX6_isWell_0 : decode cX6_isWell 0 = .ok (.iconst 1, 1) := by decide +kernel
theorem dX6_isWell_1 : decode cX6_isWell 1 = .ok (.ireturn, 1) := by decide +kernel
theorem dX6_share_0 : decode cX6_share 0 = .ok (.aload_n 0, 1) := by decide +kernel
theorem dX6_share_1 : decode cX6_share 1 = .ok (.invokevirtual 234, 3) := by decide +kernel
theorem dX6_share_4 : decode cX6_share 4 = .ok (.i2f, 1) := by decide +kernel
theorem dX6_share_5 : decode cX6_share 5 = .ok (.ldc 237, 2) := by decide +kernel
theorem dX6_share_7 : decode cX6_share 7 = .ok (.fdiv, 1) := by decide +kernel
theorem dX6_share_8 : decode cX6_share 8 = .ok (.invokestatic 238, 3) := by decide +kernel
theorem dX6_share_11 : decode cX6_share 11 = .ok (.ireturn, 1) := by decide +kernel
theorem dX6_undo_0 : decode cX6_undo 0 = .ok (.aload_n 0, 1) := by decide +kernel
theorem dX6_undo_1 : decode cX6_undo 1 = .ok (.getfield 51, 3) := by decide +kernel
theorem dX6_undo_4 : decode cX6_undo 4 = .ok (.ifCond .ne 6, 3) := by decide +kernel
theorem dX6_undo_7 : decode cX6_undo 7 = .ok (.bipush (-4), 2) := by decide +kernel
theorem dX6_undo_9 : decode cX6_undo 9 = .ok (.ireturn, 1) := by decide +kernel
theorem dX6_undo_10 : decode cX6_undo 10 = .ok (.aload_n 0, 1) := by decide +kernel
theorem dX6_undo_11 : decode cX6_undo 11 = .ok (.dup, 1) := by decide +kernel
theorem dX6_undo_12 : decode cX6_undo 12 = .ok (.getfield 51, 3) := by decide +kernel
theorem dX6_undo_15 : decode cX6_undo 15 = .ok (.iconst 1, 1) := by decide +kernel
theorem dX6_undo_16 : decode cX6_undo 16 = .ok (.isub, 1) := by decide +kernel
theorem dX6_undo_17 : decode cX6_undo 17 = .ok (.putfield 51, 3) := by decide +kernel
theorem dX6_undo_20 : decode cX6_undo 20 = .ok (.aload_n 0, 1) := by decide +kernel
theorem dX6_undo_21 : decode cX6_undo 21 = .ok (.getfield 19, 3) := by decide +kernel
theorem dX6_undo_24 : decode cX6_undo 24 = .ok (.bipush 29, 2) := by decide +kernel
theorem dX6_undo_26 : decode cX6_undo 26 = .ok (.aload_n 0, 1) := by decide +kernel
theorem dX6_undo_27 : decode cX6_undo 27 = .ok (.getfield 51, 3) := by decide +kernel
theorem dX6_undo_30 : decode cX6_undo 30 = .ok (.imul, 1) := by decide +kernel
theorem dX6_undo_31 : decode cX6_undo 31 = .ok (.aload_n 0, 1) := by decide +kernel
theorem dX6_undo_32 : decode cX6_undo 32 = .ok (.getfield 9, 3) := by decide +kernel
theorem dX6_undo_35 : decode cX6_undo 35 = .ok (.iconst 0, 1) := by decide +kernel
theorem dX6_undo_36 : decode cX6_undo 36 = .ok (.bipush 29, 2) := by decide +kernel
theorem dX6_undo_38 : decode cX6_undo 38 = .ok (.invokestatic 45, 3) := by decide +kernel
theorem dX6_undo_41 : decode cX6_undo 41 = .ok (.aload_n 0, 1) := by decide +kernel
theorem dX6_undo_42 : decode cX6_undo 42 = .ok (.getfield 51, 3) := by decide +kernel
theorem dX6_undo_45 : decode cX6_undo 45 = .ok (.ireturn, 1) := by decide +kernel
theorem dX6_save_0 : decode cX6_save 0 = .ok (.aload_n 0, 1) := by decide +kernel
theorem dX6_save_1 : decode cX6_save 1 = .ok (.getfield 9, 3) := by decide +kernel
theorem dX6_save_4 : decode cX6_save 4 = .ok (.iconst 0, 1) := by decide +kernel
theorem dX6_save_5 : decode cX6_save 5 = .ok (.aload_n 0, 1) := by decide +kernel
theorem dX6_save_6 : decode cX6_save 6 = .ok (.getfield 16, 3) := by decide +kernel
theorem dX6_save_9 : decode cX6_save 9 = .ok (.iconst 0, 1) := by decide +kernel
theorem dX6_save_10 : decode cX6_save 10 = .ok (.bipush 29, 2) := by decide +kernel
theorem dX6_save_12 : decode cX6_save 12 = .ok (.invokestatic 45, 3) := by decide +kernel
theorem dX6_save_15 : decode cX6_save 15 = .ok (.aload_n 0, 1) := by decide +kernel
theorem dX6_save_16 : decode cX6_save 16 = .ok (.iconst 1, 1) := by decide +kernel
theorem dX6_save_17 : decode cX6_save 17 = .ok (.putfield 244, 3) := by decide +kernel
theorem dX6_save_20 : decode cX6_save 20 = .ok (.aload_n 0, 1) := by decide +kernel
theorem dX6_save_21 : decode cX6_save 21 = .ok (.invokevirtual 76, 3) := by decide +kernel
theorem dX6_save_24 : decode cX6_save 24 = .ok (.ireturn, 1) := by decide +kernel
theorem dX6_restore_0 : decode cX6_restore 0 = .ok (.aload_n 0, 1) := by decide +kernel
theorem dX6_restore_1 : decode cX6_restore 1 = .ok (.getfield 244, 3) := by decide +kernel
theorem dX6_restore_4 : decode cX6_restore 4 = .ok (.ifCond .ne 6, 3) := by decide +kernel
theorem dX6_restore_7 : decode cX6_restore 7 = .ok (.bipush (-4), 2) := by decide +kernel
theorem dX6_restore_9 : decode cX6_restore 9 = .ok (.ireturn, 1) := by decide +kernel
theorem dX6_restore_10 : decode cX6_restore 10 = .ok (.aload_n 0, 1) := by decide +kernel
theorem dX6_restore_11 : decode cX6_restore 11 = .ok (.getfield 16, 3) := by decide +kernel
theorem dX6_restore_14 : decode cX6_restore 14 = .ok (.iconst 0, 1) := by decide +kernel
theorem dX6_restore_15 : decode cX6_restore 15 = .ok (.aload_n 0, 1) := by decide +kernel
theorem dX6_restore_16 : decode cX6_restore 16 = .ok (.getfield 9, 3) := by decide +kernel
theorem dX6_restore_19 : decode cX6_restore 19 = .ok (.iconst 0, 1) := by decide +kernel
theorem dX6_restore_20 : decode cX6_restore 20 = .ok (.bipush 29, 2) := by decide +kernel
theorem dX6_restore_22 : decode cX6_restore 22 = .ok (.invokestatic 45, 3) := by decide +kernel
theorem dX6_restore_25 : decode cX6_restore 25 = .ok (.aload_n 0, 1) := by decide +kernel
theorem dX6_restore_26 : decode cX6_restore 26 = .ok (.iconst 0, 1) := by decide +kernel
theorem dX6_restore_27 : decode cX6_restore 27 = .ok (.putfield 51, 3) := by decide +kernel
theorem dX6_restore_30 : decode cX6_restore 30 = .ok (.aload_n 0, 1) := by decide +kernel
theorem dX6_restore_31 : decode cX6_restore 31 = .ok (.invokevirtual 76, 3) := by decide +kernel
theorem dX6_restore_34 : decode cX6_restore 34 = .ok (.ireturn, 1) := by decide +kernel
