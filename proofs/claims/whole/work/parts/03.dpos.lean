theorem dX0_init_0 : decode cX0_init 0 = .ok (.aload_n 0, 1) := by decide +kernel
theorem dX0_init_1 : decode cX0_init 1 = .ok (.invokespecial 3, 3) := by decide +kernel
theorem dX0_init_4 : decode cX0_init 4 = .ok (.aload_n 0, 1) := by decide +kernel
theorem dX0_init_5 : decode cX0_init 5 = .ok (.bipush 8, 2) := by decide +kernel
theorem dX0_init_7 : decode cX0_init 7 = .ok (.anewarray 9, 3) := by decide +kernel
theorem dX0_init_10 : decode cX0_init 10 = .ok (.putfield 11, 3) := by decide +kernel
theorem dX0_init_13 : decode cX0_init 13 = .ok (.iconst 0, 1) := by decide +kernel
theorem dX0_init_14 : decode cX0_init 14 = .ok (.istore_n 1, 1) := by decide +kernel
theorem dX0_init_15 : decode cX0_init 15 = .ok (.iload_n 1, 1) := by decide +kernel
theorem dX0_init_16 : decode cX0_init 16 = .ok (.bipush 8, 2) := by decide +kernel
theorem dX0_init_18 : decode cX0_init 18 = .ok (.if_icmp .ge 22, 3) := by decide +kernel
theorem dX0_init_21 : decode cX0_init 21 = .ok (.aload_n 0, 1) := by decide +kernel
theorem dX0_init_22 : decode cX0_init 22 = .ok (.getfield 11, 3) := by decide +kernel
theorem dX0_init_25 : decode cX0_init 25 = .ok (.iload_n 1, 1) := by decide +kernel
theorem dX0_init_26 : decode cX0_init 26 = .ok (.new 9, 3) := by decide +kernel
theorem dX0_init_29 : decode cX0_init 29 = .ok (.dup, 1) := by decide +kernel
theorem dX0_init_30 : decode cX0_init 30 = .ok (.invokespecial 17, 3) := by decide +kernel
theorem dX0_init_33 : decode cX0_init 33 = .ok (.aastore, 1) := by decide +kernel
theorem dX0_init_34 : decode cX0_init 34 = .ok (.iinc 1 1, 3) := by decide +kernel
theorem dX0_init_37 : decode cX0_init 37 = .ok (.goto (-22), 3) := by decide +kernel
theorem dX0_init_40 : decode cX0_init 40 = .ok (.return_, 1) := by decide +kernel
theorem dX0_push_0 : decode cX0_push 0 = .ok (.aload_n 0, 1) := by decide +kernel
theorem dX0_push_1 : decode cX0_push 1 = .ok (.aload_n 0, 1) := by decide +kernel
theorem dX0_push_2 : decode cX0_push 2 = .ok (.getfield 18, 3) := by decide +kernel
theorem dX0_push_5 : decode cX0_push 5 = .ok (.invokevirtual 22, 3) := by decide +kernel
theorem dX0_push_8 : decode cX0_push 8 = .ok (.astore_n 2, 1) := by decide +kernel
theorem dX0_push_9 : decode cX0_push 9 = .ok (.aload_n 2, 1) := by decide +kernel
theorem dX0_push_10 : decode cX0_push 10 = .ok (.ifnonnull 4, 3) := by decide +kernel
theorem dX0_push_13 : decode cX0_push 13 = .ok (.return_, 1) := by decide +kernel
theorem dX0_push_14 : decode cX0_push 14 = .ok (.aload_n 2, 1) := by decide +kernel
theorem dX0_push_15 : decode cX0_push 15 = .ok (.aload_n 1, 1) := by decide +kernel
theorem dX0_push_16 : decode cX0_push 16 = .ok (.invokevirtual 26, 3) := by decide +kernel
theorem dX0_push_19 : decode cX0_push 19 = .ok (.aload_n 0, 1) := by decide +kernel
theorem dX0_push_20 : decode cX0_push 20 = .ok (.aload_n 0, 1) := by decide +kernel
theorem dX0_push_21 : decode cX0_push 21 = .ok (.getfield 18, 3) := by decide +kernel
theorem dX0_push_24 : decode cX0_push 24 = .ok (.iconst 1, 1) := by decide +kernel
theorem dX0_push_25 : decode cX0_push 25 = .ok (.iadd, 1) := by decide +kernel
theorem dX0_push_26 : decode cX0_push 26 = .ok (.bipush 8, 2) := by decide +kernel
theorem dX0_push_28 : decode cX0_push 28 = .ok (.if_icmp .ge 12, 3) := by decide +kernel
theorem dX0_push_31 : decode cX0_push 31 = .ok (.aload_n 0, 1) := by decide +kernel
theorem dX0_push_32 : decode cX0_push 32 = .ok (.getfield 18, 3) := by decide +kernel
theorem dX0_push_35 : decode cX0_push 35 = .ok (.iconst 1, 1) := by decide +kernel
theorem dX0_push_36 : decode cX0_push 36 = .ok (.iadd, 1) := by decide +kernel
theorem dX0_push_37 : decode cX0_push 37 = .ok (.goto 4, 3) := by decide +kernel
theorem dX0_push_40 : decode cX0_push 40 = .ok (.iconst 0, 1) := by decide +kernel
theorem dX0_push_41 : decode cX0_push 41 = .ok (.putfield 18, 3) := by decide +kernel
theorem dX0_push_44 : decode cX0_push 44 = .ok (.aload_n 0, 1) := by decide +kernel
theorem dX0_push_45 : decode cX0_push 45 = .ok (.getfield 30, 3) := by decide +kernel
theorem dX0_push_48 : decode cX0_push 48 = .ok (.bipush 8, 2) := by decide +kernel
theorem dX0_push_50 : decode cX0_push 50 = .ok (.if_icmp .ge 13, 3) := by decide +kernel
theorem dX0_push_53 : decode cX0_push 53 = .ok (.aload_n 0, 1) := by decide +kernel
theorem dX0_push_54 : decode cX0_push 54 = .ok (.dup, 1) := by decide +kernel
theorem dX0_push_55 : decode cX0_push 55 = .ok (.getfield 30, 3) := by decide +kernel
theorem dX0_push_58 : decode cX0_push 58 = .ok (.iconst 1, 1) := by decide +kernel
theorem dX0_push_59 : decode cX0_push 59 = .ok (.iadd, 1) := by decide +kernel
theorem dX0_push_60 : decode cX0_push 60 = .ok (.putfield 30, 3) := by decide +kernel
theorem dX0_push_63 : decode cX0_push 63 = .ok (.return_, 1) := by decide +kernel
theorem dX0_pop_0 : decode cX0_pop 0 = .ok (.aload_n 0, 1) := by decide +kernel
theorem dX0_pop_1 : decode cX0_pop 1 = .ok (.getfield 18, 3) := by decide +kernel
theorem dX0_pop_4 : decode cX0_pop 4 = .ok (.ifCond .le 12, 3) := by decide +kernel
theorem dX0_pop_7 : decode cX0_pop 7 = .ok (.aload_n 0, 1) := by decide +kernel
theorem dX0_pop_8 : decode cX0_pop 8 = .ok (.getfield 18, 3) := by decide +kernel
theorem dX0_pop_11 : decode cX0_pop 11 = .ok (.iconst 1, 1) := by decide +kernel
theorem dX0_pop_12 : decode cX0_pop 12 = .ok (.isub, 1) := by decide +kernel
theorem dX0_pop_13 : decode cX0_pop 13 = .ok (.goto 5, 3) := by decide +kernel
theorem dX0_pop_16 : decode cX0_pop 16 = .ok (.bipush 7, 2) := by decide +kernel
theorem dX0_pop_18 : decode cX0_pop 18 = .ok (.istore_n 2, 1) := by decide +kernel
theorem dX0_pop_19 : decode cX0_pop 19 = .ok (.aload_n 0, 1) := by decide +kernel
theorem dX0_pop_20 : decode cX0_pop 20 = .ok (.iload_n 2, 1) := by decide +kernel
theorem dX0_pop_21 : decode cX0_pop 21 = .ok (.invokevirtual 22, 3) := by decide +kernel
theorem dX0_pop_24 : decode cX0_pop 24 = .ok (.astore_n 3, 1) := by decide +kernel
theorem dX0_pop_25 : decode cX0_pop 25 = .ok (.aload_n 3, 1) := by decide +kernel
theorem dX0_pop_26 : decode cX0_pop 26 = .ok (.ifnull 10, 3) := by decide +kernel
theorem dX0_pop_29 : decode cX0_pop 29 = .ok (.aload_n 0, 1) := by decide +kernel
theorem dX0_pop_30 : decode cX0_pop 30 = .ok (.getfield 30, 3) := by decide +kernel
theorem dX0_pop_33 : decode cX0_pop 33 = .ok (.ifCond .ne 4, 3) := by decide +kernel
theorem dX0_pop_36 : decode cX0_pop 36 = .ok (.return_, 1) := by decide +kernel
theorem dX0_pop_37 : decode cX0_pop 37 = .ok (.aload_n 1, 1) := by decide +kernel
theorem dX0_pop_38 : decode cX0_pop 38 = .ok (.aload_n 3, 1) := by decide +kernel
theorem dX0_pop_39 : decode cX0_pop 39 = .ok (.invokevirtual 26, 3) := by decide +kernel
theorem dX0_pop_42 : decode cX0_pop 42 = .ok (.aload_n 0, 1) := by decide +kernel
theorem dX0_pop_43 : decode cX0_pop 43 = .ok (.iload_n 2, 1) := by decide +kernel
theorem dX0_pop_44 : decode cX0_pop 44 = .ok (.putfield 18, 3) := by decide +kernel
theorem dX0_pop_47 : decode cX0_pop 47 = .ok (.aload_n 0, 1) := by decide +kernel
theorem dX0_pop_48 : decode cX0_pop 48 = .ok (.dup, 1) := by decide +kernel
theorem dX0_pop_49 : decode cX0_pop 49 = .ok (.getfield 30, 3) := by decide +kernel
theorem dX0_pop_52 : decode cX0_pop 52 = .ok (.iconst 1, 1) := by decide +kernel
theorem dX0_pop_53 : decode cX0_pop 53 = .ok (.isub, 1) := by decide +kernel
theorem dX0_pop_54 : decode cX0_pop 54 = .ok (.putfield 30, 3) := by decide +kernel
theorem dX0_pop_57 : decode cX0_pop 57 = .ok (.return_, 1) := by decide +kernel
theorem dX0_clear_0 : decode cX0_clear 0 = .ok (.aload_n 0, 1) := by decide +kernel
theorem dX0_clear_1 : decode cX0_clear 1 = .ok (.iconst 0, 1) := by decide +kernel
theorem dX0_clear_2 : decode cX0_clear 2 = .ok (.putfield 18, 3) := by decide +kernel
theorem dX0_clear_5 : decode cX0_clear 5 = .ok (.aload_n 0, 1) := by decide +kernel
theorem dX0_clear_6 : decode cX0_clear 6 = .ok (.iconst 0, 1) := by decide +kernel
theorem dX0_clear_7 : decode cX0_clear 7 = .ok (.putfield 30, 3) := by decide +kernel
theorem dX0_clear_10 : decode cX0_clear 10 = .ok (.return_, 1) := by decide +kernel
theorem dX0_rowAt_0 : decode cX0_rowAt 0 = .ok (.iload_n 1, 1) := by decide +kernel
theorem dX0_rowAt_1 : decode cX0_rowAt 1 = .ok (.ifCond .lt 18, 3) := by decide +kernel
theorem dX0_rowAt_4 : decode cX0_rowAt 4 = .ok (.iload_n 1, 1) := by decide +kernel
theorem dX0_rowAt_5 : decode cX0_rowAt 5 = .ok (.bipush 8, 2) := by decide +kernel
theorem dX0_rowAt_7 : decode cX0_rowAt 7 = .ok (.if_icmp .ge 12, 3) := by decide +kernel
theorem dX0_rowAt_10 : decode cX0_rowAt 10 = .ok (.aload_n 0, 1) := by decide +kernel
theorem dX0_rowAt_11 : decode cX0_rowAt 11 = .ok (.getfield 11, 3) := by decide +kernel
theorem dX0_rowAt_14 : decode cX0_rowAt 14 = .ok (.iload_n 1, 1) := by decide +kernel
theorem dX0_rowAt_15 : decode cX0_rowAt 15 = .ok (.aaload, 1) := by decide +kernel
theorem dX0_rowAt_16 : decode cX0_rowAt 16 = .ok (.goto 4, 3) := by decide +kernel
theorem dX0_rowAt_19 : decode cX0_rowAt 19 = .ok (.aconst_null, 1) := by decide +kernel
theorem dX0_rowAt_20 : decode cX0_rowAt 20 = .ok (.areturn, 1) := by decide +kernel
theorem dX1_init_0 : decode cX1_init 0 = .ok (.aload_n 0, 1) := by decide +kernel
theorem dX1_init_1 : decode cX1_init 1 = .ok (.invokespecial 3, 3) := by decide +kernel
theorem dX1_init_4 : decode cX1_init 4 = .ok (.aload_n 0, 1) := by decide +kernel
theorem dX1_init_5 : decode cX1_init 5 = .ok (.bipush 29, 2) := by decide +kernel
theorem dX1_init_7 : decode cX1_init 7 = .ok (.newarray .int, 2) := by decide +kernel
theorem dX1_init_9 : decode cX1_init 9 = .ok (.putfield 9, 3) := by decide +kernel
theorem dX1_init_12 : decode cX1_init 12 = .ok (.return_, 1) := by decide +kernel
theorem dX1_clear_0 : decode cX1_clear 0 = .ok (.aload_n 0, 1) := by decide +kernel
theorem dX1_clear_1 : decode cX1_clear 1 = .ok (.iconst 0, 1) := by decide +kernel
theorem dX1_clear_2 : decode cX1_clear 2 = .ok (.putfield 15, 3) := by decide +kernel
theorem dX1_clear_5 : decode cX1_clear 5 = .ok (.return_, 1) := by decide +kernel
theorem dX1_write_0 : decode cX1_write 0 = .ok (.aload_n 0, 1) := by decide +kernel
theorem dX1_write_1 : decode cX1_write 1 = .ok (.getfield 15, 3) := by decide +kernel
theorem dX1_write_4 : decode cX1_write 4 = .ok (.ifCond .lt 32, 3) := by decide +kernel
theorem dX1_write_7 : decode cX1_write 7 = .ok (.aload_n 0, 1) := by decide +kernel
theorem dX1_write_8 : decode cX1_write 8 = .ok (.getfield 15, 3) := by decide +kernel
theorem dX1_write_11 : decode cX1_write 11 = .ok (.bipush 29, 2) := by decide +kernel
theorem dX1_write_13 : decode cX1_write 13 = .ok (.if_icmp .ge 23, 3) := by decide +kernel
theorem dX1_write_16 : decode cX1_write 16 = .ok (.aload_n 0, 1) := by decide +kernel
theorem dX1_write_17 : decode cX1_write 17 = .ok (.getfield 9, 3) := by decide +kernel
theorem dX1_write_20 : decode cX1_write 20 = .ok (.aload_n 0, 1) := by decide +kernel
theorem dX1_write_21 : decode cX1_write 21 = .ok (.getfield 15, 3) := by decide +kernel
theorem dX1_write_24 : decode cX1_write 24 = .ok (.iload_n 1, 1) := by decide +kernel
theorem dX1_write_25 : decode cX1_write 25 = .ok (.iastore, 1) := by decide +kernel
theorem dX1_write_26 : decode cX1_write 26 = .ok (.aload_n 0, 1) := by decide +kernel
theorem dX1_write_27 : decode cX1_write 27 = .ok (.dup, 1) := by decide +kernel
theorem dX1_write_28 : decode cX1_write 28 = .ok (.getfield 15, 3) := by decide +kernel
theorem dX1_write_31 : decode cX1_write 31 = .ok (.iconst 1, 1) := by decide +kernel
theorem dX1_write_32 : decode cX1_write 32 = .ok (.iadd, 1) := by decide +kernel
theorem dX1_write_33 : decode cX1_write 33 = .ok (.putfield 15, 3) := by decide +kernel
theorem dX1_write_36 : decode cX1_write 36 = .ok (.return_, 1) := by decide +kernel
theorem dX1_writeMan_0 : decode cX1_writeMan 0 = .ok (.iload_n 1, 1) := by decide +kernel
theorem dX1_writeMan_1 : decode cX1_writeMan 1 = .ok (.ifCond .lt 22, 3) := by decide +kernel
theorem dX1_writeMan_4 : decode cX1_writeMan 4 = .ok (.iload_n 1, 1) := by decide +kernel
theorem dX1_writeMan_5 : decode cX1_writeMan 5 = .ok (.ldc 19, 2) := by decide +kernel
theorem dX1_writeMan_7 : decode cX1_writeMan 7 = .ok (.invokevirtual 21, 3) := by decide +kernel
theorem dX1_writeMan_10 : decode cX1_writeMan 10 = .ok (.if_icmp .ge 13, 3) := by decide +kernel
theorem dX1_writeMan_13 : decode cX1_writeMan 13 = .ok (.aload_n 0, 1) := by decide +kernel
theorem dX1_writeMan_14 : decode cX1_writeMan 14 = .ok (.ldc 19, 2) := by decide +kernel
theorem dX1_writeMan_16 : decode cX1_writeMan 16 = .ok (.iload_n 1, 1) := by decide +kernel
theorem dX1_writeMan_17 : decode cX1_writeMan 17 = .ok (.invokevirtual 26, 3) := by decide +kernel
theorem dX1_writeMan_20 : decode cX1_writeMan 20 = .ok (.invokevirtual 30, 3) := by decide +kernel
theorem dX1_writeMan_23 : decode cX1_writeMan 23 = .ok (.return_, 1) := by decide +kernel
theorem dX1_writeSquare_0 : decode cX1_writeSquare 0 = .ok (.aload_n 0, 1) := by decide +kernel
theorem dX1_writeSquare_1 : decode cX1_writeSquare 1 = .ok (.bipush 97, 2) := by decide +kernel
theorem dX1_writeSquare_3 : decode cX1_writeSquare 3 = .ok (.iload_n 1, 1) := by decide +kernel
theorem dX1_writeSquare_4 : decode cX1_writeSquare 4 = .ok (.iconst 5, 1) := by decide +kernel
theorem dX1_writeSquare_5 : decode cX1_writeSquare 5 = .ok (.irem, 1) := by decide +kernel
theorem dX1_writeSquare_6 : decode cX1_writeSquare 6 = .ok (.iadd, 1) := by decide +kernel
theorem dX1_writeSquare_7 : decode cX1_writeSquare 7 = .ok (.invokevirtual 30, 3) := by decide +kernel
theorem dX1_writeSquare_10 : decode cX1_writeSquare 10 = .ok (.aload_n 0, 1) := by decide +kernel
theorem dX1_writeSquare_11 : decode cX1_writeSquare 11 = .ok (.bipush 49, 2) := by decide +kernel
theorem dX1_writeSquare_13 : decode cX1_writeSquare 13 = .ok (.iload_n 1, 1) := by decide +kernel
theorem dX1_writeSquare_14 : decode cX1_writeSquare 14 = .ok (.iconst 5, 1) := by decide +kernel
theorem dX1_writeSquare_15 : decode cX1_writeSquare 15 = .ok (.idiv, 1) := by decide +kernel
theorem dX1_writeSquare_16 : decode cX1_writeSquare 16 = .ok (.iadd, 1) := by decide +kernel
theorem dX1_writeSquare_17 : decode cX1_writeSquare 17 = .ok (.invokevirtual 30, 3) := by decide +kernel
theorem dX1_writeSquare_20 : decode cX1_writeSquare 20 = .ok (.return_, 1) := by decide +kernel
theorem dX1_writeMoveSign_0 : decode cX1_writeMoveSign 0 = .ok (.iload_n 1, 1) := by decide +kernel
theorem dX1_writeMoveSign_1 : decode cX1_writeMoveSign 1 = .ok (.ifCond .le 22, 3) := by decide +kernel
theorem dX1_writeMoveSign_4 : decode cX1_writeMoveSign 4 = .ok (.iload_n 1, 1) := by decide +kernel
theorem dX1_writeMoveSign_5 : decode cX1_writeMoveSign 5 = .ok (.ldc 34, 2) := by decide +kernel
theorem dX1_writeMoveSign_7 : decode cX1_writeMoveSign 7 = .ok (.invokevirtual 21, 3) := by decide +kernel
theorem dX1_writeMoveSign_10 : decode cX1_writeMoveSign 10 = .ok (.if_icmp .ge 13, 3) := by decide +kernel
theorem dX1_writeMoveSign_13 : decode cX1_writeMoveSign 13 = .ok (.aload_n 0, 1) := by decide +kernel
theorem dX1_writeMoveSign_14 : decode cX1_writeMoveSign 14 = .ok (.ldc 34, 2) := by decide +kernel
theorem dX1_writeMoveSign_16 : decode cX1_writeMoveSign 16 = .ok (.iload_n 1, 1) := by decide +kernel
theorem dX1_writeMoveSign_17 : decode cX1_writeMoveSign 17 = .ok (.invokevirtual 26, 3) := by decide +kernel
theorem dX1_writeMoveSign_20 : decode cX1_writeMoveSign 20 = .ok (.invokevirtual 30, 3) := by decide +kernel
theorem dX1_writeMoveSign_23 : decode cX1_writeMoveSign 23 = .ok (.return_, 1) := by decide +kernel
theorem dX1_codeAt_0 : decode cX1_codeAt 0 = .ok (.iload_n 1, 1) := by decide +kernel
theorem dX1_codeAt_1 : decode cX1_codeAt 1 = .ok (.ifCond .lt 26, 3) := by decide +kernel
theorem dX1_codeAt_4 : decode cX1_codeAt 4 = .ok (.iload_n 1, 1) := by decide +kernel
theorem dX1_codeAt_5 : decode cX1_codeAt 5 = .ok (.aload_n 0, 1) := by decide +kernel
theorem dX1_codeAt_6 : decode cX1_codeAt 6 = .ok (.getfield 15, 3) := by decide +kernel
theorem dX1_codeAt_9 : decode cX1_codeAt 9 = .ok (.if_icmp .ge 18, 3) := by decide +kernel
theorem dX1_codeAt_12 : decode cX1_codeAt 12 = .ok (.iload_n 1, 1) := by decide +kernel
theorem dX1_codeAt_13 : decode cX1_codeAt 13 = .ok (.bipush 29, 2) := by decide +kernel
theorem dX1_codeAt_15 : decode cX1_codeAt 15 = .ok (.if_icmp .ge 12, 3) := by decide +kernel
theorem dX1_codeAt_18 : decode cX1_codeAt 18 = .ok (.aload_n 0, 1) := by decide +kernel
theorem dX1_codeAt_19 : decode cX1_codeAt 19 = .ok (.getfield 9, 3) := by decide +kernel
theorem dX1_codeAt_22 : decode cX1_codeAt 22 = .ok (.iload_n 1, 1) := by decide +kernel
theorem dX1_codeAt_23 : decode cX1_codeAt 23 = .ok (.iaload, 1) := by decide +kernel
theorem dX1_codeAt_24 : decode cX1_codeAt 24 = .ok (.goto 4, 3) := by decide +kernel
theorem dX1_codeAt_27 : decode cX1_codeAt 27 = .ok (.iconst (-1), 1) := by decide +kernel
theorem dX1_codeAt_28 : decode cX1_codeAt 28 = .ok (.ireturn, 1) := by decide +kernel
theorem dX2_init_0 : decode cX2_init 0 = .ok (.aload_n 0, 1) := by decide +kernel
theorem dX2_init_1 : decode cX2_init 1 = .ok (.invokespecial 3, 3) := by decide +kernel
theorem dX2_init_4 : decode cX2_init 4 = .ok (.aload_n 0, 1) := by decide +kernel
theorem dX2_init_5 : decode cX2_init 5 = .ok (.bipush 25, 2) := by decide +kernel
theorem dX2_init_7 : decode cX2_init 7 = .ok (.newarray .int, 2) := by decide +kernel
theorem dX2_init_9 : decode cX2_init 9 = .ok (.putfield 9, 3) := by decide +kernel
theorem dX2_init_12 : decode cX2_init 12 = .ok (.return_, 1) := by decide +kernel
theorem dX2_fillWithMoves_0 : decode cX2_fillWithMoves 0 = .ok (.iconst 0, 1) := by decide +kernel
theorem dX2_fillWithMoves_1 : decode cX2_fillWithMoves 1 = .ok (.istore_n 2, 1) := by decide +kernel
theorem dX2_fillWithMoves_2 : decode cX2_fillWithMoves 2 = .ok (.iload_n 2, 1) := by decide +kernel
theorem dX2_fillWithMoves_3 : decode cX2_fillWithMoves 3 = .ok (.bipush 25, 2) := by decide +kernel
theorem dX2_fillWithMoves_5 : decode cX2_fillWithMoves 5 = .ok (.if_icmp .ge 20, 3) := by decide +kernel
theorem dX2_fillWithMoves_8 : decode cX2_fillWithMoves 8 = .ok (.aload_n 0, 1) := by decide +kernel
theorem dX2_fillWithMoves_9 : decode cX2_fillWithMoves 9 = .ok (.getfield 9, 3) := by decide +kernel
theorem dX2_fillWithMoves_12 : decode cX2_fillWithMoves 12 = .ok (.iload_n 2, 1) := by decide +kernel
theorem dX2_fillWithMoves_13 : decode cX2_fillWithMoves 13 = .ok (.aload_n 1, 1) := by decide +kernel
theorem dX2_fillWithMoves_14 : decode cX2_fillWithMoves 14 = .ok (.iload_n 2, 1) := by decide +kernel
theorem dX2_fillWithMoves_15 : decode cX2_fillWithMoves 15 = .ok (.invokevirtual 15, 3) := by decide +kernel
theorem dX2_fillWithMoves_18 : decode cX2_fillWithMoves 18 = .ok (.iastore, 1) := by decide +kernel
theorem dX2_fillWithMoves_19 : decode cX2_fillWithMoves 19 = .ok (.iinc 2 1, 3) := by decide +kernel
theorem dX2_fillWithMoves_22 : decode cX2_fillWithMoves 22 = .ok (.goto (-20), 3) := by decide +kernel
theorem dX2_fillWithMoves_25 : decode cX2_fillWithMoves 25 = .ok (.return_, 1) := by decide +kernel
theorem dX2_fillWithKeys_0 : decode cX2_fillWithKeys 0 = .ok (.iconst 0, 1) := by decide +kernel
theorem dX2_fillWithKeys_1 : decode cX2_fillWithKeys 1 = .ok (.istore_n 2, 1) := by decide +kernel
theorem dX2_fillWithKeys_2 : decode cX2_fillWithKeys 2 = .ok (.iload_n 2, 1) := by decide +kernel
theorem dX2_fillWithKeys_3 : decode cX2_fillWithKeys 3 = .ok (.bipush 25, 2) := by decide +kernel
theorem dX2_fillWithKeys_5 : decode cX2_fillWithKeys 5 = .ok (.if_icmp .ge 20, 3) := by decide +kernel
theorem dX2_fillWithKeys_8 : decode cX2_fillWithKeys 8 = .ok (.aload_n 0, 1) := by decide +kernel
theorem dX2_fillWithKeys_9 : decode cX2_fillWithKeys 9 = .ok (.getfield 9, 3) := by decide +kernel
theorem dX2_fillWithKeys_12 : decode cX2_fillWithKeys 12 = .ok (.iload_n 2, 1) := by decide +kernel
theorem dX2_fillWithKeys_13 : decode cX2_fillWithKeys 13 = .ok (.aload_n 1, 1) := by decide +kernel
theorem dX2_fillWithKeys_14 : decode cX2_fillWithKeys 14 = .ok (.iload_n 2, 1) := by decide +kernel
theorem dX2_fillWithKeys_15 : decode cX2_fillWithKeys 15 = .ok (.invokevirtual 21, 3) := by decide +kernel
theorem dX2_fillWithKeys_18 : decode cX2_fillWithKeys 18 = .ok (.iastore, 1) := by decide +kernel
theorem dX2_fillWithKeys_19 : decode cX2_fillWithKeys 19 = .ok (.iinc 2 1, 3) := by decide +kernel
theorem dX2_fillWithKeys_22 : decode cX2_fillWithKeys 22 = .ok (.goto (-20), 3) := by decide +kernel
theorem dX2_fillWithKeys_25 : decode cX2_fillWithKeys 25 = .ok (.return_, 1) := by decide +kernel
theorem dX2_count_0 : decode cX2_count 0 = .ok (.iconst 0, 1) := by decide +kernel
theorem dX2_count_1 : decode cX2_count 1 = .ok (.istore_n 1, 1) := by decide +kernel
theorem dX2_count_2 : decode cX2_count 2 = .ok (.iconst 0, 1) := by decide +kernel
theorem dX2_count_3 : decode cX2_count 3 = .ok (.istore_n 2, 1) := by decide +kernel
theorem dX2_count_4 : decode cX2_count 4 = .ok (.iload_n 2, 1) := by decide +kernel
theorem dX2_count_5 : decode cX2_count 5 = .ok (.bipush 25, 2) := by decide +kernel
theorem dX2_count_7 : decode cX2_count 7 = .ok (.if_icmp .ge 21, 3) := by decide +kernel
theorem dX2_count_10 : decode cX2_count 10 = .ok (.iload_n 1, 1) := by decide +kernel
theorem dX2_count_11 : decode cX2_count 11 = .ok (.aload_n 0, 1) := by decide +kernel
theorem dX2_count_12 : decode cX2_count 12 = .ok (.getfield 9, 3) := by decide +kernel
theorem dX2_count_15 : decode cX2_count 15 = .ok (.iload_n 2, 1) := by decide +kernel
theorem dX2_count_16 : decode cX2_count 16 = .ok (.iaload, 1) := by decide +kernel
theorem dX2_count_17 : decode cX2_count 17 = .ok (.invokestatic 24, 3) := by decide +kernel
theorem dX2_count_20 : decode cX2_count 20 = .ok (.iadd, 1) := by decide +kernel
theorem dX2_count_21 : decode cX2_count 21 = .ok (.istore_n 1, 1) := by decide +kernel
theorem dX2_count_22 : decode cX2_count 22 = .ok (.iinc 2 1, 3) := by decide +kernel
theorem dX2_count_25 : decode cX2_count 25 = .ok (.goto (-21), 3) := by decide +kernel
theorem dX2_count_28 : decode cX2_count 28 = .ok (.iload_n 1, 1) := by decide +kernel
theorem dX2_count_29 : decode cX2_count 29 = .ok (.ireturn, 1) := by decide +kernel
theorem dX2_pick_0 : decode cX2_pick 0 = .ok (.iconst 0, 1) := by decide +kernel
theorem dX2_pick_1 : decode cX2_pick 1 = .ok (.istore_n 2, 1) := by decide +kernel
theorem dX2_pick_2 : decode cX2_pick 2 = .ok (.iconst 0, 1) := by decide +kernel
theorem dX2_pick_3 : decode cX2_pick 3 = .ok (.istore_n 3, 1) := by decide +kernel
theorem dX2_pick_4 : decode cX2_pick 4 = .ok (.iload_n 3, 1) := by decide +kernel
theorem dX2_pick_5 : decode cX2_pick 5 = .ok (.bipush 25, 2) := by decide +kernel
theorem dX2_pick_7 : decode cX2_pick 7 = .ok (.if_icmp .ge 55, 3) := by decide +kernel
theorem dX2_pick_10 : decode cX2_pick 10 = .ok (.iconst 0, 1) := by decide +kernel
theorem dX2_pick_11 : decode cX2_pick 11 = .ok (.istore 4, 2) := by decide +kernel
theorem dX2_pick_13 : decode cX2_pick 13 = .ok (.iload 4, 2) := by decide +kernel
theorem dX2_pick_15 : decode cX2_pick 15 = .ok (.bipush 25, 2) := by decide +kernel
theorem dX2_pick_17 : decode cX2_pick 17 = .ok (.if_icmp .ge 39, 3) := by decide +kernel
theorem dX2_pick_20 : decode cX2_pick 20 = .ok (.aload_n 0, 1) := by decide +kernel
theorem dX2_pick_21 : decode cX2_pick 21 = .ok (.getfield 9, 3) := by decide +kernel
theorem dX2_pick_24 : decode cX2_pick 24 = .ok (.iload_n 3, 1) := by decide +kernel
theorem dX2_pick_25 : decode cX2_pick 25 = .ok (.iaload, 1) := by decide +kernel
theorem dX2_pick_26 : decode cX2_pick 26 = .ok (.iload 4, 2) := by decide +kernel
theorem dX2_pick_28 : decode cX2_pick 28 = .ok (.invokestatic 27, 3) := by decide +kernel
theorem dX2_pick_31 : decode cX2_pick 31 = .ok (.ifCond .eq 19, 3) := by decide +kernel
theorem dX2_pick_34 : decode cX2_pick 34 = .ok (.iload_n 2, 1) := by decide +kernel
theorem dX2_pick_35 : decode cX2_pick 35 = .ok (.iload_n 1, 1) := by decide +kernel
theorem dX2_pick_36 : decode cX2_pick 36 = .ok (.if_icmp .ne 11, 3) := by decide +kernel
theorem dX2_pick_39 : decode cX2_pick 39 = .ok (.bipush 100, 2) := by decide +kernel
theorem dX2_pick_41 : decode cX2_pick 41 = .ok (.iload_n 3, 1) := by decide +kernel
theorem dX2_pick_42 : decode cX2_pick 42 = .ok (.imul, 1) := by decide +kernel
theorem dX2_pick_43 : decode cX2_pick 43 = .ok (.iload 4, 2) := by decide +kernel
theorem dX2_pick_45 : decode cX2_pick 45 = .ok (.iadd, 1) := by decide +kernel
theorem dX2_pick_46 : decode cX2_pick 46 = .ok (.ireturn, 1) := by decide +kernel
theorem dX2_pick_47 : decode cX2_pick 47 = .ok (.iinc 2 1, 3) := by decide +kernel
theorem dX2_pick_50 : decode cX2_pick 50 = .ok (.iinc 4 1, 3) := by decide +kernel
theorem dX2_pick_53 : decode cX2_pick 53 = .ok (.goto (-40), 3) := by decide +kernel
theorem dX2_pick_56 : decode cX2_pick 56 = .ok (.iinc 3 1, 3) := by decide +kernel
theorem dX2_pick_59 : decode cX2_pick 59 = .ok (.goto (-55), 3) := by decide +kernel
theorem dX2_pick_62 : decode cX2_pick 62 = .ok (.iconst (-1), 1) := by decide +kernel
theorem dX2_pick_63 : decode cX2_pick 63 = .ok (.ireturn, 1) := by decide +kernel
theorem dX3_init_0 : decode cX3_init 0 = .ok (.aload_n 0, 1) := by decide +kernel
theorem dX3_init_1 : decode cX3_init 1 = .ok (.invokespecial 3, 3) := by decide +kernel
theorem dX3_init_4 : decode cX3_init 4 = .ok (.aload_n 0, 1) := by decide +kernel
theorem dX3_init_5 : decode cX3_init 5 = .ok (.bipush 25, 2) := by decide +kernel
theorem dX3_init_7 : decode cX3_init 7 = .ok (.newarray .int, 2) := by decide +kernel
theorem dX3_init_9 : decode cX3_init 9 = .ok (.putfield 9, 3) := by decide +kernel
theorem dX3_init_12 : decode cX3_init 12 = .ok (.return_, 1) := by decide +kernel
theorem dX3_copyFrom_0 : decode cX3_copyFrom 0 = .ok (.iconst 0, 1) := by decide +kernel
theorem dX3_copyFrom_1 : decode cX3_copyFrom 1 = .ok (.istore_n 2, 1) := by decide +kernel
theorem dX3_copyFrom_2 : decode cX3_copyFrom 2 = .ok (.iload_n 2, 1) := by decide +kernel
theorem dX3_copyFrom_3 : decode cX3_copyFrom 3 = .ok (.bipush 25, 2) := by decide +kernel
theorem dX3_copyFrom_5 : decode cX3_copyFrom 5 = .ok (.if_icmp .ge 21, 3) := by decide +kernel
theorem dX3_copyFrom_8 : decode cX3_copyFrom 8 = .ok (.aload_n 0, 1) := by decide +kernel
theorem dX3_copyFrom_9 : decode cX3_copyFrom 9 = .ok (.getfield 9, 3) := by decide +kernel
theorem dX3_copyFrom_12 : decode cX3_copyFrom 12 = .ok (.iload_n 2, 1) := by decide +kernel
theorem dX3_copyFrom_13 : decode cX3_copyFrom 13 = .ok (.aload_n 1, 1) := by decide +kernel
theorem dX3_copyFrom_14 : decode cX3_copyFrom 14 = .ok (.getfield 9, 3) := by decide +kernel
theorem dX3_copyFrom_17 : decode cX3_copyFrom 17 = .ok (.iload_n 2, 1) := by decide +kernel
theorem dX3_copyFrom_18 : decode cX3_copyFrom 18 = .ok (.iaload, 1) := by decide +kernel
theorem dX3_copyFrom_19 : decode cX3_copyFrom 19 = .ok (.iastore, 1) := by decide +kernel
theorem dX3_copyFrom_20 : decode cX3_copyFrom 20 = .ok (.iinc 2 1, 3) := by decide +kernel
theorem dX3_copyFrom_23 : decode cX3_copyFrom 23 = .ok (.goto (-21), 3) := by decide +kernel
theorem dX3_copyFrom_26 : decode cX3_copyFrom 26 = .ok (.aload_n 0, 1) := by decide +kernel
theorem dX3_copyFrom_27 : decode cX3_copyFrom 27 = .ok (.aload_n 1, 1) := by decide +kernel
theorem dX3_copyFrom_28 : decode cX3_copyFrom 28 = .ok (.getfield 15, 3) := by decide +kernel
theorem dX3_copyFrom_31 : decode cX3_copyFrom 31 = .ok (.putfield 15, 3) := by decide +kernel
theorem dX3_copyFrom_34 : decode cX3_copyFrom 34 = .ok (.aload_n 0, 1) := by decide +kernel
theorem dX3_copyFrom_35 : decode cX3_copyFrom 35 = .ok (.aload_n 1, 1) := by decide +kernel
theorem dX3_copyFrom_36 : decode cX3_copyFrom 36 = .ok (.getfield 19, 3) := by decide +kernel
theorem dX3_copyFrom_39 : decode cX3_copyFrom 39 = .ok (.putfield 19, 3) := by decide +kernel
theorem dX3_copyFrom_42 : decode cX3_copyFrom 42 = .ok (.aload_n 0, 1) := by decide +kernel
theorem dX3_copyFrom_43 : decode cX3_copyFrom 43 = .ok (.aload_n 1, 1) := by decide +kernel
theorem dX3_copyFrom_44 : decode cX3_copyFrom 44 = .ok (.getfield 22, 3) := by decide +kernel
theorem dX3_copyFrom_47 : decode cX3_copyFrom 47 = .ok (.putfield 22, 3) := by decide +kernel
theorem dX3_copyFrom_50 : decode cX3_copyFrom 50 = .ok (.aload_n 0, 1) := by decide +kernel
theorem dX3_copyFrom_51 : decode cX3_copyFrom 51 = .ok (.aload_n 1, 1) := by decide +kernel
theorem dX3_copyFrom_52 : decode cX3_copyFrom 52 = .ok (.getfield 25, 3) := by decide +kernel
theorem dX3_copyFrom_55 : decode cX3_copyFrom 55 = .ok (.putfield 25, 3) := by decide +kernel
theorem dX3_copyFrom_58 : decode cX3_copyFrom 58 = .ok (.return_, 1) := by decide +kernel
theorem dX3_manOn_0 : decode cX3_manOn 0 = .ok (.iload_n 1, 1) := by decide +kernel
theorem dX3_manOn_1 : decode cX3_manOn 1 = .ok (.invokestatic 28, 3) := by decide +kernel
theorem dX3_manOn_4 : decode cX3_manOn 4 = .ok (.ifCond .eq 12, 3) := by decide +kernel
theorem dX3_manOn_7 : decode cX3_manOn 7 = .ok (.aload_n 0, 1) := by decide +kernel
theorem dX3_manOn_8 : decode cX3_manOn 8 = .ok (.getfield 9, 3) := by decide +kernel
theorem dX3_manOn_11 : decode cX3_manOn 11 = .ok (.iload_n 1, 1) := by decide +kernel
theorem dX3_manOn_12 : decode cX3_manOn 12 = .ok (.iaload, 1) := by decide +kernel
theorem dX3_manOn_13 : decode cX3_manOn 13 = .ok (.goto 4, 3) := by decide +kernel
theorem dX3_manOn_16 : decode cX3_manOn 16 = .ok (.iconst 0, 1) := by decide +kernel
theorem dX3_manOn_17 : decode cX3_manOn 17 = .ok (.ireturn, 1) := by decide +kernel
theorem dX3_setMan_0 : decode cX3_setMan 0 = .ok (.iload_n 1, 1) := by decide +kernel
theorem dX3_setMan_1 : decode cX3_setMan 1 = .ok (.invokestatic 28, 3) := by decide +kernel
theorem dX3_setMan_4 : decode cX3_setMan 4 = .ok (.ifCond .eq 10, 3) := by decide +kernel
theorem dX3_setMan_7 : decode cX3_setMan 7 = .ok (.aload_n 0, 1) := by decide +kernel
theorem dX3_setMan_8 : decode cX3_setMan 8 = .ok (.getfield 9, 3) := by decide +kernel
theorem dX3_setMan_11 : decode cX3_setMan 11 = .ok (.iload_n 1, 1) := by decide +kernel
theorem dX3_setMan_12 : decode cX3_setMan 12 = .ok (.iload_n 2, 1) := by decide +kernel
theorem dX3_setMan_13 : decode cX3_setMan 13 = .ok (.iastore, 1) := by decide +kernel
theorem dX3_setMan_14 : decode cX3_setMan 14 = .ok (.return_, 1) := by decide +kernel
theorem dX3_countAll_0 : decode cX3_countAll 0 = .ok (.aload_n 0, 1) := by decide +kernel
theorem dX3_countAll_1 : decode cX3_countAll 1 = .ok (.iconst 1, 1) := by decide +kernel
theorem dX3_countAll_2 : decode cX3_countAll 2 = .ok (.bipush 7, 2) := by decide +kernel
theorem dX3_countAll_4 : decode cX3_countAll 4 = .ok (.invokevirtual 32, 3) := by decide +kernel
theorem dX3_countAll_7 : decode cX3_countAll 7 = .ok (.ireturn, 1) := by decide +kernel
theorem dX3_countKinds_0 : decode cX3_countKinds 0 = .ok (.iconst 0, 1) := by decide +kernel
theorem dX3_countKinds_1 : decode cX3_countKinds 1 = .ok (.istore_n 3, 1) := by decide +kernel
theorem dX3_countKinds_2 : decode cX3_countKinds 2 = .ok (.iconst 0, 1) := by decide +kernel
theorem dX3_countKinds_3 : decode cX3_countKinds 3 = .ok (.istore 4, 2) := by decide +kernel
theorem dX3_countKinds_5 : decode cX3_countKinds 5 = .ok (.iload 4, 2) := by decide +kernel
theorem dX3_countKinds_7 : decode cX3_countKinds 7 = .ok (.bipush 25, 2) := by decide +kernel
theorem dX3_countKinds_9 : decode cX3_countKinds 9 = .ok (.if_icmp .ge 34, 3) := by decide +kernel
theorem dX3_countKinds_12 : decode cX3_countKinds 12 = .ok (.aload_n 0, 1) := by decide +kernel
theorem dX3_countKinds_13 : decode cX3_countKinds 13 = .ok (.getfield 9, 3) := by decide +kernel
theorem dX3_countKinds_16 : decode cX3_countKinds 16 = .ok (.iload 4, 2) := by decide +kernel
theorem dX3_countKinds_18 : decode cX3_countKinds 18 = .ok (.iaload, 1) := by decide +kernel
theorem dX3_countKinds_19 : decode cX3_countKinds 19 = .ok (.iload_n 1, 1) := by decide +kernel
theorem dX3_countKinds_20 : decode cX3_countKinds 20 = .ok (.if_icmp .lt 17, 3) := by decide +kernel
theorem dX3_countKinds_23 : decode cX3_countKinds 23 = .ok (.aload_n 0, 1) := by decide +kernel
theorem dX3_countKinds_24 : decode cX3_countKinds 24 = .ok (.getfield 9, 3) := by decide +kernel
theorem dX3_countKinds_27 : decode cX3_countKinds 27 = .ok (.iload 4, 2) := by decide +kernel
theorem dX3_countKinds_29 : decode cX3_countKinds 29 = .ok (.iaload, 1) := by decide +kernel
theorem dX3_countKinds_30 : decode cX3_countKinds 30 = .ok (.iload_n 2, 1) := by decide +kernel
theorem dX3_countKinds_31 : decode cX3_countKinds 31 = .ok (.if_icmp .gt 6, 3) := by decide +kernel
theorem dX3_countKinds_34 : decode cX3_countKinds 34 = .ok (.iinc 3 1, 3) := by decide +kernel
theorem dX3_countKinds_37 : decode cX3_countKinds 37 = .ok (.iinc 4 1, 3) := by decide +kernel
theorem dX3_countKinds_40 : decode cX3_countKinds 40 = .ok (.goto (-35), 3) := by decide +kernel
theorem dX3_countKinds_43 : decode cX3_countKinds 43 = .ok (.iload_n 3, 1) := by decide +kernel
theorem dX3_countKinds_44 : decode cX3_countKinds 44 = .ok (.ireturn, 1) := by decide +kernel
theorem dX3_squareOf_0 : decode cX3_squareOf 0 = .ok (.iconst 0, 1) := by decide +kernel
theorem dX3_squareOf_1 : decode cX3_squareOf 1 = .ok (.istore_n 2, 1) := by decide +kernel
theorem dX3_squareOf_2 : decode cX3_squareOf 2 = .ok (.iload_n 2, 1) := by decide +kernel
theorem dX3_squareOf_3 : decode cX3_squareOf 3 = .ok (.bipush 25, 2) := by decide +kernel
theorem dX3_squareOf_5 : decode cX3_squareOf 5 = .ok (.if_icmp .ge 21, 3) := by decide +kernel
theorem dX3_squareOf_8 : decode cX3_squareOf 8 = .ok (.aload_n 0, 1) := by decide +kernel
theorem dX3_squareOf_9 : decode cX3_squareOf 9 = .ok (.getfield 9, 3) := by decide +kernel
theorem dX3_squareOf_12 : decode cX3_squareOf 12 = .ok (.iload_n 2, 1) := by decide +kernel
theorem dX3_squareOf_13 : decode cX3_squareOf 13 = .ok (.iaload, 1) := by decide +kernel
theorem dX3_squareOf_14 : decode cX3_squareOf 14 = .ok (.iload_n 1, 1) := by decide +kernel
theorem dX3_squareOf_15 : decode cX3_squareOf 15 = .ok (.if_icmp .ne 5, 3) := by decide +kernel
theorem dX3_squareOf_18 : decode cX3_squareOf 18 = .ok (.iload_n 2, 1) := by decide +kernel
theorem dX3_squareOf_19 : decode cX3_squareOf 19 = .ok (.ireturn, 1) := by decide +kernel
theorem dX3_squareOf_20 : decode cX3_squareOf 20 = .ok (.iinc 2 1, 3) := by decide +kernel
theorem dX3_squareOf_23 : decode cX3_squareOf 23 = .ok (.goto (-21), 3) := by decide +kernel
theorem dX3_squareOf_26 : decode cX3_squareOf 26 = .ok (.iconst (-1), 1) := by decide +kernel
theorem dX3_squareOf_27 : decode cX3_squareOf 27 = .ok (.ireturn, 1) := by decide +kernel
theorem dX3_fits_0 : decode cX3_fits 0 = .ok (.aload_n 0, 1) := by decide +kernel
theorem dX3_fits_1 : decode cX3_fits 1 = .ok (.bipush 7, 2) := by decide +kernel
theorem dX3_fits_3 : decode cX3_fits 3 = .ok (.invokevirtual 36, 3) := by decide +kernel
theorem dX3_fits_6 : decode cX3_fits 6 = .ok (.istore_n 1, 1) := by decide +kernel
theorem dX3_fits_7 : decode cX3_fits 7 = .ok (.iload_n 1, 1) := by decide +kernel
theorem dX3_fits_8 : decode cX3_fits 8 = .ok (.ifCond .lt 15, 3) := by decide +kernel
theorem dX3_fits_11 : decode cX3_fits 11 = .ok (.aload_n 0, 1) := by decide +kernel
theorem dX3_fits_12 : decode cX3_fits 12 = .ok (.iload_n 1, 1) := by decide +kernel
theorem dX3_fits_13 : decode cX3_fits 13 = .ok (.invokevirtual 40, 3) := by decide +kernel
theorem dX3_fits_16 : decode cX3_fits 16 = .ok (.ifCond .ne 7, 3) := by decide +kernel
theorem dX3_fits_19 : decode cX3_fits 19 = .ok (.iconst 1, 1) := by decide +kernel
theorem dX3_fits_20 : decode cX3_fits 20 = .ok (.goto 4, 3) := by decide +kernel
theorem dX3_fits_23 : decode cX3_fits 23 = .ok (.iconst 0, 1) := by decide +kernel
theorem dX3_fits_24 : decode cX3_fits 24 = .ok (.ireturn, 1) := by decide +kernel
theorem dX3_reach_0 : decode cX3_reach 0 = .ok (.iload_n 1, 1) := by decide +kernel
theorem dX3_reach_1 : decode cX3_reach 1 = .ok (.ifCond .lt 29, 3) := by decide +kernel
theorem dX3_reach_4 : decode cX3_reach 4 = .ok (.iload_n 1, 1) := by decide +kernel
theorem dX3_reach_5 : decode cX3_reach 5 = .ok (.bipush 25, 2) := by decide +kernel
theorem dX3_reach_7 : decode cX3_reach 7 = .ok (.if_icmp .ge 23, 3) := by decide +kernel
theorem dX3_reach_10 : decode cX3_reach 10 = .ok (.aload_n 0, 1) := by decide +kernel
theorem dX3_reach_11 : decode cX3_reach 11 = .ok (.getfield 9, 3) := by decide +kernel
theorem dX3_reach_14 : decode cX3_reach 14 = .ok (.iload_n 1, 1) := by decide +kernel
theorem dX3_reach_15 : decode cX3_reach 15 = .ok (.iaload, 1) := by decide +kernel
theorem dX3_reach_16 : decode cX3_reach 16 = .ok (.ifCond .eq 14, 3) := by decide +kernel
theorem dX3_reach_19 : decode cX3_reach 19 = .ok (.aload_n 0, 1) := by decide +kernel
theorem dX3_reach_20 : decode cX3_reach 20 = .ok (.getfield 9, 3) := by decide +kernel
theorem dX3_reach_23 : decode cX3_reach 23 = .ok (.iload_n 1, 1) := by decide +kernel
theorem dX3_reach_24 : decode cX3_reach 24 = .ok (.iaload, 1) := by decide +kernel
theorem dX3_reach_25 : decode cX3_reach 25 = .ok (.bipush 6, 2) := by decide +kernel
theorem dX3_reach_27 : decode cX3_reach 27 = .ok (.if_icmp .ne 5, 3) := by decide +kernel
theorem dX3_reach_30 : decode cX3_reach 30 = .ok (.iconst 0, 1) := by decide +kernel
theorem dX3_reach_31 : decode cX3_reach 31 = .ok (.ireturn, 1) := by decide +kernel
theorem dX3_reach_32 : decode cX3_reach 32 = .ok (.aload_n 0, 1) := by decide +kernel
theorem dX3_reach_33 : decode cX3_reach 33 = .ok (.getfield 9, 3) := by decide +kernel
theorem dX3_reach_36 : decode cX3_reach 36 = .ok (.iload_n 1, 1) := by decide +kernel
theorem dX3_reach_37 : decode cX3_reach 37 = .ok (.iaload, 1) := by decide +kernel
theorem dX3_reach_38 : decode cX3_reach 38 = .ok (.istore_n 2, 1) := by decide +kernel
theorem dX3_reach_39 : decode cX3_reach 39 = .ok (.iload_n 2, 1) := by decide +kernel
theorem dX3_reach_40 : decode cX3_reach 40 = .ok (.iconst 5, 1) := by decide +kernel
theorem dX3_reach_41 : decode cX3_reach 41 = .ok (.if_icmp .ne 8, 3) := by decide +kernel
theorem dX3_reach_44 : decode cX3_reach 44 = .ok (.bipush 8, 2) := by decide +kernel
theorem dX3_reach_46 : decode cX3_reach 46 = .ok (.goto 13, 3) := by decide +kernel
theorem dX3_reach_49 : decode cX3_reach 49 = .ok (.iload_n 2, 1) := by decide +kernel
theorem dX3_reach_50 : decode cX3_reach 50 = .ok (.iconst 4, 1) := by decide +kernel
theorem dX3_reach_51 : decode cX3_reach 51 = .ok (.if_icmp .ne 7, 3) := by decide +kernel
theorem dX3_reach_54 : decode cX3_reach 54 = .ok (.iconst 4, 1) := by decide +kernel
theorem dX3_reach_55 : decode cX3_reach 55 = .ok (.goto 4, 3) := by decide +kernel
theorem dX3_reach_58 : decode cX3_reach 58 = .ok (.iconst 0, 1) := by decide +kernel
theorem dX3_reach_59 : decode cX3_reach 59 = .ok (.istore_n 3, 1) := by decide +kernel
theorem dX3_reach_60 : decode cX3_reach 60 = .ok (.iload_n 2, 1) := by decide +kernel
theorem dX3_reach_61 : decode cX3_reach 61 = .ok (.iconst 5, 1) := by decide +kernel
theorem dX3_reach_62 : decode cX3_reach 62 = .ok (.if_icmp .ne 8, 3) := by decide +kernel
theorem dX3_reach_65 : decode cX3_reach 65 = .ok (.bipush 16, 2) := by decide +kernel
theorem dX3_reach_67 : decode cX3_reach 67 = .ok (.goto 14, 3) := by decide +kernel
theorem dX3_reach_70 : decode cX3_reach 70 = .ok (.iload_n 2, 1) := by decide +kernel
theorem dX3_reach_71 : decode cX3_reach 71 = .ok (.iconst 3, 1) := by decide +kernel
theorem dX3_reach_72 : decode cX3_reach 72 = .ok (.if_icmp .ne 7, 3) := by decide +kernel
theorem dX3_reach_75 : decode cX3_reach 75 = .ok (.iconst 4, 1) := by decide +kernel
theorem dX3_reach_76 : decode cX3_reach 76 = .ok (.goto 5, 3) := by decide +kernel
theorem dX3_reach_79 : decode cX3_reach 79 = .ok (.bipush 8, 2) := by decide +kernel
theorem dX3_reach_81 : decode cX3_reach 81 = .ok (.istore 4, 2) := by decide +kernel
theorem dX3_reach_83 : decode cX3_reach 83 = .ok (.iload_n 2, 1) := by decide +kernel
theorem dX3_reach_84 : decode cX3_reach 84 = .ok (.iconst 2, 1) := by decide +kernel
theorem dX3_reach_85 : decode cX3_reach 85 = .ok (.if_icmp .eq 13, 3) := by decide +kernel
theorem dX3_reach_88 : decode cX3_reach 88 = .ok (.iload_n 2, 1) := by decide +kernel
theorem dX3_reach_89 : decode cX3_reach 89 = .ok (.iconst 3, 1) := by decide +kernel
theorem dX3_reach_90 : decode cX3_reach 90 = .ok (.if_icmp .eq 8, 3) := by decide +kernel
theorem dX3_reach_93 : decode cX3_reach 93 = .ok (.iload_n 2, 1) := by decide +kernel
theorem dX3_reach_94 : decode cX3_reach 94 = .ok (.iconst 4, 1) := by decide +kernel
theorem dX3_reach_95 : decode cX3_reach 95 = .ok (.if_icmp .ne 7, 3) := by decide +kernel
theorem dX3_reach_98 : decode cX3_reach 98 = .ok (.iconst 4, 1) := by decide +kernel
theorem dX3_reach_99 : decode cX3_reach 99 = .ok (.goto 4, 3) := by decide +kernel
theorem dX3_reach_102 : decode cX3_reach 102 = .ok (.iconst 1, 1) := by decide +kernel
theorem dX3_reach_103 : decode cX3_reach 103 = .ok (.istore 5, 2) := by decide +kernel
theorem dX3_reach_105 : decode cX3_reach 105 = .ok (.iconst 0, 1) := by decide +kernel
theorem dX3_reach_106 : decode cX3_reach 106 = .ok (.istore 6, 2) := by decide +kernel
theorem dX3_reach_108 : decode cX3_reach 108 = .ok (.iload_n 3, 1) := by decide +kernel
theorem dX3_reach_109 : decode cX3_reach 109 = .ok (.istore 7, 2) := by decide +kernel
theorem dX3_reach_111 : decode cX3_reach 111 = .ok (.iload 7, 2) := by decide +kernel
theorem dX3_reach_113 : decode cX3_reach 113 = .ok (.iload 4, 2) := by decide +kernel
theorem dX3_reach_115 : decode cX3_reach 115 = .ok (.if_icmp .ge 121, 3) := by decide +kernel
theorem dX3_reach_118 : decode cX3_reach 118 = .ok (.iload 7, 2) := by decide +kernel
theorem dX3_reach_120 : decode cX3_reach 120 = .ok (.bipush 16, 2) := by decide +kernel
theorem dX3_reach_122 : decode cX3_reach 122 = .ok (.if_icmp .ge 114, 3) := by decide +kernel
theorem dX3_reach_125 : decode cX3_reach 125 = .ok (.iload_n 1, 1) := by decide +kernel
theorem dX3_reach_126 : decode cX3_reach 126 = .ok (.iconst 5, 1) := by decide +kernel
theorem dX3_reach_127 : decode cX3_reach 127 = .ok (.irem, 1) := by decide +kernel
theorem dX3_reach_128 : decode cX3_reach 128 = .ok (.istore 8, 2) := by decide +kernel
theorem dX3_reach_130 : decode cX3_reach 130 = .ok (.iload_n 1, 1) := by decide +kernel
theorem dX3_reach_131 : decode cX3_reach 131 = .ok (.iconst 5, 1) := by decide +kernel
theorem dX3_reach_132 : decode cX3_reach 132 = .ok (.idiv, 1) := by decide +kernel
theorem dX3_reach_133 : decode cX3_reach 133 = .ok (.istore 9, 2) := by decide +kernel
theorem dX3_reach_135 : decode cX3_reach 135 = .ok (.iconst 0, 1) := by decide +kernel
theorem dX3_reach_136 : decode cX3_reach 136 = .ok (.istore 10, 2) := by decide +kernel
theorem dX3_reach_138 : decode cX3_reach 138 = .ok (.iload 10, 2) := by decide +kernel
theorem dX3_reach_140 : decode cX3_reach 140 = .ok (.iload 5, 2) := by decide +kernel
theorem dX3_reach_142 : decode cX3_reach 142 = .ok (.if_icmp .ge 88, 3) := by decide +kernel
theorem dX3_reach_145 : decode cX3_reach 145 = .ok (.iload 8, 2) := by decide +kernel
theorem dX3_reach_147 : decode cX3_reach 147 = .ok (.getstatic 43, 3) := by decide +kernel
theorem dX3_reach_150 : decode cX3_reach 150 = .ok (.iload 7, 2) := by decide +kernel
theorem dX3_reach_152 : decode cX3_reach 152 = .ok (.iaload, 1) := by decide +kernel
theorem dX3_reach_153 : decode cX3_reach 153 = .ok (.iadd, 1) := by decide +kernel
theorem dX3_reach_154 : decode cX3_reach 154 = .ok (.istore 8, 2) := by decide +kernel
theorem dX3_reach_156 : decode cX3_reach 156 = .ok (.iload 9, 2) := by decide +kernel
theorem dX3_reach_158 : decode cX3_reach 158 = .ok (.getstatic 46, 3) := by decide +kernel
theorem dX3_reach_161 : decode cX3_reach 161 = .ok (.iload 7, 2) := by decide +kernel
theorem dX3_reach_163 : decode cX3_reach 163 = .ok (.iaload, 1) := by decide +kernel
theorem dX3_reach_164 : decode cX3_reach 164 = .ok (.iadd, 1) := by decide +kernel
theorem dX3_reach_165 : decode cX3_reach 165 = .ok (.istore 9, 2) := by decide +kernel
theorem dX3_reach_167 : decode cX3_reach 167 = .ok (.iload 8, 2) := by decide +kernel
theorem dX3_reach_169 : decode cX3_reach 169 = .ok (.ifCond .lt 61, 3) := by decide +kernel
theorem dX3_reach_172 : decode cX3_reach 172 = .ok (.iload 8, 2) := by decide +kernel
theorem dX3_reach_174 : decode cX3_reach 174 = .ok (.iconst 5, 1) := by decide +kernel
theorem dX3_reach_175 : decode cX3_reach 175 = .ok (.if_icmp .ge 55, 3) := by decide +kernel
theorem dX3_reach_178 : decode cX3_reach 178 = .ok (.iload 9, 2) := by decide +kernel
theorem dX3_reach_180 : decode cX3_reach 180 = .ok (.ifCond .lt 50, 3) := by decide +kernel
theorem dX3_reach_183 : decode cX3_reach 183 = .ok (.iload 9, 2) := by decide +kernel
theorem dX3_reach_185 : decode cX3_reach 185 = .ok (.iconst 5, 1) := by decide +kernel
theorem dX3_reach_186 : decode cX3_reach 186 = .ok (.if_icmp .lt 6, 3) := by decide +kernel
theorem dX3_reach_189 : decode cX3_reach 189 = .ok (.goto 41, 3) := by decide +kernel
theorem dX3_reach_192 : decode cX3_reach 192 = .ok (.iload 6, 2) := by decide +kernel
theorem dX3_reach_194 : decode cX3_reach 194 = .ok (.iconst 1, 1) := by decide +kernel
theorem dX3_reach_195 : decode cX3_reach 195 = .ok (.iload 9, 2) := by decide +kernel
theorem dX3_reach_197 : decode cX3_reach 197 = .ok (.iconst 5, 1) := by decide +kernel
theorem dX3_reach_198 : decode cX3_reach 198 = .ok (.imul, 1) := by decide +kernel
theorem dX3_reach_199 : decode cX3_reach 199 = .ok (.iload 8, 2) := by decide +kernel
theorem dX3_reach_201 : decode cX3_reach 201 = .ok (.iadd, 1) := by decide +kernel
theorem dX3_reach_202 : decode cX3_reach 202 = .ok (.ishl, 1) := by decide +kernel
theorem dX3_reach_203 : decode cX3_reach 203 = .ok (.ior, 1) := by decide +kernel
theorem dX3_reach_204 : decode cX3_reach 204 = .ok (.istore 6, 2) := by decide +kernel
theorem dX3_reach_206 : decode cX3_reach 206 = .ok (.aload_n 0, 1) := by decide +kernel
theorem dX3_reach_207 : decode cX3_reach 207 = .ok (.getfield 9, 3) := by decide +kernel
theorem dX3_reach_210 : decode cX3_reach 210 = .ok (.iload 9, 2) := by decide +kernel
theorem dX3_reach_212 : decode cX3_reach 212 = .ok (.iconst 5, 1) := by decide +kernel
theorem dX3_reach_213 : decode cX3_reach 213 = .ok (.imul, 1) := by decide +kernel
theorem dX3_reach_214 : decode cX3_reach 214 = .ok (.iload 8, 2) := by decide +kernel
theorem dX3_reach_216 : decode cX3_reach 216 = .ok (.iadd, 1) := by decide +kernel
theorem dX3_reach_217 : decode cX3_reach 217 = .ok (.iaload, 1) := by decide +kernel
theorem dX3_reach_218 : decode cX3_reach 218 = .ok (.ifCond .eq 6, 3) := by decide +kernel
theorem dX3_reach_221 : decode cX3_reach 221 = .ok (.goto 9, 3) := by decide +kernel
theorem dX3_reach_224 : decode cX3_reach 224 = .ok (.iinc 10 1, 3) := by decide +kernel
theorem dX3_reach_227 : decode cX3_reach 227 = .ok (.goto (-89), 3) := by decide +kernel
theorem dX3_reach_230 : decode cX3_reach 230 = .ok (.iinc 7 1, 3) := by decide +kernel
theorem dX3_reach_233 : decode cX3_reach 233 = .ok (.goto (-122), 3) := by decide +kernel
theorem dX3_reach_236 : decode cX3_reach 236 = .ok (.iload 6, 2) := by decide +kernel
theorem dX3_reach_238 : decode cX3_reach 238 = .ok (.ireturn, 1) := by decide +kernel
theorem dX3_covered_0 : decode cX3_covered 0 = .ok (.iconst 0, 1) := by decide +kernel
theorem dX3_covered_1 : decode cX3_covered 1 = .ok (.istore_n 1, 1) := by decide +kernel
theorem dX3_covered_2 : decode cX3_covered 2 = .ok (.iconst 0, 1) := by decide +kernel
theorem dX3_covered_3 : decode cX3_covered 3 = .ok (.istore_n 2, 1) := by decide +kernel
theorem dX3_covered_4 : decode cX3_covered 4 = .ok (.iload_n 2, 1) := by decide +kernel
theorem dX3_covered_5 : decode cX3_covered 5 = .ok (.bipush 25, 2) := by decide +kernel
theorem dX3_covered_7 : decode cX3_covered 7 = .ok (.if_icmp .ge 29, 3) := by decide +kernel
theorem dX3_covered_10 : decode cX3_covered 10 = .ok (.aload_n 0, 1) := by decide +kernel
theorem dX3_covered_11 : decode cX3_covered 11 = .ok (.getfield 9, 3) := by decide +kernel
theorem dX3_covered_14 : decode cX3_covered 14 = .ok (.iload_n 2, 1) := by decide +kernel
theorem dX3_covered_15 : decode cX3_covered 15 = .ok (.iaload, 1) := by decide +kernel
theorem dX3_covered_16 : decode cX3_covered 16 = .ok (.invokestatic 49, 3) := by decide +kernel
theorem dX3_covered_19 : decode cX3_covered 19 = .ok (.ifCond .eq 11, 3) := by decide +kernel
theorem dX3_covered_22 : decode cX3_covered 22 = .ok (.iload_n 1, 1) := by decide +kernel
theorem dX3_covered_23 : decode cX3_covered 23 = .ok (.aload_n 0, 1) := by decide +kernel
theorem dX3_covered_24 : decode cX3_covered 24 = .ok (.iload_n 2, 1) := by decide +kernel
theorem dX3_covered_25 : decode cX3_covered 25 = .ok (.invokevirtual 52, 3) := by decide +kernel
theorem dX3_covered_28 : decode cX3_covered 28 = .ok (.ior, 1) := by decide +kernel
theorem dX3_covered_29 : decode cX3_covered 29 = .ok (.istore_n 1, 1) := by decide +kernel
theorem dX3_covered_30 : decode cX3_covered 30 = .ok (.iinc 2 1, 3) := by decide +kernel
theorem dX3_covered_33 : decode cX3_covered 33 = .ok (.goto (-29), 3) := by decide +kernel
theorem dX3_covered_36 : decode cX3_covered 36 = .ok (.iload_n 1, 1) := by decide +kernel
theorem dX3_covered_37 : decode cX3_covered 37 = .ok (.ireturn, 1) := by decide +kernel
theorem dX3_countManByMan_0 : decode cX3_countManByMan 0 = .ok (.iconst 0, 1) := by decide +kernel
theorem dX3_countManByMan_1 : decode cX3_countManByMan 1 = .ok (.istore_n 2, 1) := by decide +kernel
theorem dX3_countManByMan_2 : decode cX3_countManByMan 2 = .ok (.iconst 0, 1) := by decide +kernel
theorem dX3_countManByMan_3 : decode cX3_countManByMan 3 = .ok (.istore_n 3, 1) := by decide +kernel
theorem dX3_countManByMan_4 : decode cX3_countManByMan 4 = .ok (.iload_n 3, 1) := by decide +kernel
theorem dX3_countManByMan_5 : decode cX3_countManByMan 5 = .ok (.bipush 25, 2) := by decide +kernel
theorem dX3_countManByMan_7 : decode cX3_countManByMan 7 = .ok (.if_icmp .ge 36, 3) := by decide +kernel
theorem dX3_countManByMan_10 : decode cX3_countManByMan 10 = .ok (.aload_n 0, 1) := by decide +kernel
theorem dX3_countManByMan_11 : decode cX3_countManByMan 11 = .ok (.getfield 9, 3) := by decide +kernel
theorem dX3_countManByMan_14 : decode cX3_countManByMan 14 = .ok (.iload_n 3, 1) := by decide +kernel
theorem dX3_countManByMan_15 : decode cX3_countManByMan 15 = .ok (.iaload, 1) := by decide +kernel
theorem dX3_countManByMan_16 : decode cX3_countManByMan 16 = .ok (.invokestatic 49, 3) := by decide +kernel
theorem dX3_countManByMan_19 : decode cX3_countManByMan 19 = .ok (.ifCond .eq 18, 3) := by decide +kernel
theorem dX3_countManByMan_22 : decode cX3_countManByMan 22 = .ok (.aload_n 0, 1) := by decide +kernel
theorem dX3_countManByMan_23 : decode cX3_countManByMan 23 = .ok (.iload_n 3, 1) := by decide +kernel
theorem dX3_countManByMan_24 : decode cX3_countManByMan 24 = .ok (.invokevirtual 52, 3) := by decide +kernel
theorem dX3_countManByMan_27 : decode cX3_countManByMan 27 = .ok (.iload_n 1, 1) := by decide +kernel
theorem dX3_countManByMan_28 : decode cX3_countManByMan 28 = .ok (.invokestatic 55, 3) := by decide +kernel
theorem dX3_countManByMan_31 : decode cX3_countManByMan 31 = .ok (.ifCond .eq 6, 3) := by decide +kernel
theorem dX3_countManByMan_34 : decode cX3_countManByMan 34 = .ok (.iinc 2 1, 3) := by decide +kernel
theorem dX3_countManByMan_37 : decode cX3_countManByMan 37 = .ok (.iinc 3 1, 3) := by decide +kernel
theorem dX3_countManByMan_40 : decode cX3_countManByMan 40 = .ok (.goto (-36), 3) := by decide +kernel
theorem dX3_countManByMan_43 : decode cX3_countManByMan 43 = .ok (.iload_n 2, 1) := by decide +kernel
theorem dX3_countManByMan_44 : decode cX3_countManByMan 44 = .ok (.ireturn, 1) := by decide +kernel
theorem dX3_countLineByLine_0 : decode cX3_countLineByLine 0 = .ok (.iconst 0, 1) := by decide +kernel
theorem dX3_countLineByLine_1 : decode cX3_countLineByLine 1 = .ok (.istore_n 2, 1) := by decide +kernel
theorem dX3_countLineByLine_2 : decode cX3_countLineByLine 2 = .ok (.iconst 0, 1) := by decide +kernel
theorem dX3_countLineByLine_3 : decode cX3_countLineByLine 3 = .ok (.istore_n 3, 1) := by decide +kernel
theorem dX3_countLineByLine_4 : decode cX3_countLineByLine 4 = .ok (.iload_n 3, 1) := by decide +kernel
theorem dX3_countLineByLine_5 : decode cX3_countLineByLine 5 = .ok (.bipush 16, 2) := by decide +kernel
theorem dX3_countLineByLine_7 : decode cX3_countLineByLine 7 = .ok (.if_icmp .ge 21, 3) := by decide +kernel
theorem dX3_countLineByLine_10 : decode cX3_countLineByLine 10 = .ok (.aload_n 0, 1) := by decide +kernel
theorem dX3_countLineByLine_11 : decode cX3_countLineByLine 11 = .ok (.iload_n 1, 1) := by decide +kernel
theorem dX3_countLineByLine_12 : decode cX3_countLineByLine 12 = .ok (.iload_n 3, 1) := by decide +kernel
theorem dX3_countLineByLine_13 : decode cX3_countLineByLine 13 = .ok (.invokevirtual 59, 3) := by decide +kernel
theorem dX3_countLineByLine_16 : decode cX3_countLineByLine 16 = .ok (.ifCond .eq 6, 3) := by decide +kernel
theorem dX3_countLineByLine_19 : decode cX3_countLineByLine 19 = .ok (.iinc 2 1, 3) := by decide +kernel
theorem dX3_countLineByLine_22 : decode cX3_countLineByLine 22 = .ok (.iinc 3 1, 3) := by decide +kernel
theorem dX3_countLineByLine_25 : decode cX3_countLineByLine 25 = .ok (.goto (-21), 3) := by decide +kernel
theorem dX3_countLineByLine_28 : decode cX3_countLineByLine 28 = .ok (.iload_n 2, 1) := by decide +kernel
theorem dX3_countLineByLine_29 : decode cX3_countLineByLine 29 = .ok (.ireturn, 1) := by decide +kernel
theorem dX3_isMetIn_0 : decode cX3_isMetIn 0 = .ok (.iload_n 1, 1) := by decide +kernel
theorem dX3_isMetIn_1 : decode cX3_isMetIn 1 = .ok (.invokestatic 28, 3) := by decide +kernel
theorem dX3_isMetIn_4 : decode cX3_isMetIn 4 = .ok (.ifCond .eq 13, 3) := by decide +kernel
theorem dX3_isMetIn_7 : decode cX3_isMetIn 7 = .ok (.iload_n 2, 1) := by decide +kernel
theorem dX3_isMetIn_8 : decode cX3_isMetIn 8 = .ok (.ifCond .lt 9, 3) := by decide +kernel
theorem dX3_isMetIn_11 : decode cX3_isMetIn 11 = .ok (.iload_n 2, 1) := by decide +kernel
theorem dX3_isMetIn_12 : decode cX3_isMetIn 12 = .ok (.bipush 16, 2) := by decide +kernel
theorem dX3_isMetIn_14 : decode cX3_isMetIn 14 = .ok (.if_icmp .lt 5, 3) := by decide +kernel
theorem dX3_isMetIn_17 : decode cX3_isMetIn 17 = .ok (.iconst 0, 1) := by decide +kernel
theorem dX3_isMetIn_18 : decode cX3_isMetIn 18 = .ok (.ireturn, 1) := by decide +kernel
theorem dX3_isMetIn_19 : decode cX3_isMetIn 19 = .ok (.iload_n 1, 1) := by decide +kernel
theorem dX3_isMetIn_20 : decode cX3_isMetIn 20 = .ok (.iconst 5, 1) := by decide +kernel
theorem dX3_isMetIn_21 : decode cX3_isMetIn 21 = .ok (.irem, 1) := by decide +kernel
theorem dX3_isMetIn_22 : decode cX3_isMetIn 22 = .ok (.istore_n 3, 1) := by decide +kernel
theorem dX3_isMetIn_23 : decode cX3_isMetIn 23 = .ok (.iload_n 1, 1) := by decide +kernel
theorem dX3_isMetIn_24 : decode cX3_isMetIn 24 = .ok (.iconst 5, 1) := by decide +kernel
theorem dX3_isMetIn_25 : decode cX3_isMetIn 25 = .ok (.idiv, 1) := by decide +kernel
theorem dX3_isMetIn_26 : decode cX3_isMetIn 26 = .ok (.istore 4, 2) := by decide +kernel
theorem dX3_isMetIn_28 : decode cX3_isMetIn 28 = .ok (.iload_n 2, 1) := by decide +kernel
theorem dX3_isMetIn_29 : decode cX3_isMetIn 29 = .ok (.bipush 8, 2) := by decide +kernel
theorem dX3_isMetIn_31 : decode cX3_isMetIn 31 = .ok (.if_icmp .ge 7, 3) := by decide +kernel
theorem dX3_isMetIn_34 : decode cX3_isMetIn 34 = .ok (.iconst 4, 1) := by decide +kernel
theorem dX3_isMetIn_35 : decode cX3_isMetIn 35 = .ok (.goto 4, 3) := by decide +kernel
theorem dX3_isMetIn_38 : decode cX3_isMetIn 38 = .ok (.iconst 1, 1) := by decide +kernel
theorem dX3_isMetIn_39 : decode cX3_isMetIn 39 = .ok (.istore 5, 2) := by decide +kernel
theorem dX3_isMetIn_41 : decode cX3_isMetIn 41 = .ok (.iconst 0, 1) := by decide +kernel
theorem dX3_isMetIn_42 : decode cX3_isMetIn 42 = .ok (.istore 6, 2) := by decide +kernel
theorem dX3_isMetIn_44 : decode cX3_isMetIn 44 = .ok (.iload 6, 2) := by decide +kernel
theorem dX3_isMetIn_46 : decode cX3_isMetIn 46 = .ok (.iload 5, 2) := by decide +kernel
theorem dX3_isMetIn_48 : decode cX3_isMetIn 48 = .ok (.if_icmp .ge 76, 3) := by decide +kernel
theorem dX3_isMetIn_51 : decode cX3_isMetIn 51 = .ok (.iload_n 3, 1) := by decide +kernel
theorem dX3_isMetIn_52 : decode cX3_isMetIn 52 = .ok (.getstatic 43, 3) := by decide +kernel
theorem dX3_isMetIn_55 : decode cX3_isMetIn 55 = .ok (.iload_n 2, 1) := by decide +kernel
theorem dX3_isMetIn_56 : decode cX3_isMetIn 56 = .ok (.iaload, 1) := by decide +kernel
theorem dX3_isMetIn_57 : decode cX3_isMetIn 57 = .ok (.iadd, 1) := by decide +kernel
theorem dX3_isMetIn_58 : decode cX3_isMetIn 58 = .ok (.istore_n 3, 1) := by decide +kernel
theorem dX3_isMetIn_59 : decode cX3_isMetIn 59 = .ok (.iload 4, 2) := by decide +kernel
theorem dX3_isMetIn_61 : decode cX3_isMetIn 61 = .ok (.getstatic 46, 3) := by decide +kernel
theorem dX3_isMetIn_64 : decode cX3_isMetIn 64 = .ok (.iload_n 2, 1) := by decide +kernel
theorem dX3_isMetIn_65 : decode cX3_isMetIn 65 = .ok (.iaload, 1) := by decide +kernel
theorem dX3_isMetIn_66 : decode cX3_isMetIn 66 = .ok (.iadd, 1) := by decide +kernel
theorem dX3_isMetIn_67 : decode cX3_isMetIn 67 = .ok (.istore 4, 2) := by decide +kernel
theorem dX3_isMetIn_69 : decode cX3_isMetIn 69 = .ok (.iload_n 3, 1) := by decide +kernel
theorem dX3_isMetIn_70 : decode cX3_isMetIn 70 = .ok (.ifCond .lt 19, 3) := by decide +kernel
theorem dX3_isMetIn_73 : decode cX3_isMetIn 73 = .ok (.iload_n 3, 1) := by decide +kernel
theorem dX3_isMetIn_74 : decode cX3_isMetIn 74 = .ok (.iconst 5, 1) := by decide +kernel
theorem dX3_isMetIn_75 : decode cX3_isMetIn 75 = .ok (.if_icmp .ge 14, 3) := by decide +kernel
theorem dX3_isMetIn_78 : decode cX3_isMetIn 78 = .ok (.iload 4, 2) := by decide +kernel
theorem dX3_isMetIn_80 : decode cX3_isMetIn 80 = .ok (.ifCond .lt 9, 3) := by decide +kernel
theorem dX3_isMetIn_83 : decode cX3_isMetIn 83 = .ok (.iload 4, 2) := by decide +kernel
theorem dX3_isMetIn_85 : decode cX3_isMetIn 85 = .ok (.iconst 5, 1) := by decide +kernel
theorem dX3_isMetIn_86 : decode cX3_isMetIn 86 = .ok (.if_icmp .lt 5, 3) := by decide +kernel
theorem dX3_isMetIn_89 : decode cX3_isMetIn 89 = .ok (.iconst 0, 1) := by decide +kernel
theorem dX3_isMetIn_90 : decode cX3_isMetIn 90 = .ok (.ireturn, 1) := by decide +kernel
theorem dX3_isMetIn_91 : decode cX3_isMetIn 91 = .ok (.aload_n 0, 1) := by decide +kernel
theorem dX3_isMetIn_92 : decode cX3_isMetIn 92 = .ok (.getfield 9, 3) := by decide +kernel
theorem dX3_isMetIn_95 : decode cX3_isMetIn 95 = .ok (.iload 4, 2) := by decide +kernel
theorem dX3_isMetIn_97 : decode cX3_isMetIn 97 = .ok (.iconst 5, 1) := by decide +kernel
theorem dX3_isMetIn_98 : decode cX3_isMetIn 98 = .ok (.imul, 1) := by decide +kernel
theorem dX3_isMetIn_99 : decode cX3_isMetIn 99 = .ok (.iload_n 3, 1) := by decide +kernel
theorem dX3_isMetIn_100 : decode cX3_isMetIn 100 = .ok (.iadd, 1) := by decide +kernel
theorem dX3_isMetIn_101 : decode cX3_isMetIn 101 = .ok (.iaload, 1) := by decide +kernel
theorem dX3_isMetIn_102 : decode cX3_isMetIn 102 = .ok (.istore 7, 2) := by decide +kernel
theorem dX3_isMetIn_104 : decode cX3_isMetIn 104 = .ok (.iload 7, 2) := by decide +kernel
theorem dX3_isMetIn_106 : decode cX3_isMetIn 106 = .ok (.ifCond .eq 12, 3) := by decide +kernel
theorem dX3_isMetIn_109 : decode cX3_isMetIn 109 = .ok (.iload 7, 2) := by decide +kernel
theorem dX3_isMetIn_111 : decode cX3_isMetIn 111 = .ok (.iload_n 2, 1) := by decide +kernel
theorem dX3_isMetIn_112 : decode cX3_isMetIn 112 = .ok (.iload 6, 2) := by decide +kernel
theorem dX3_isMetIn_114 : decode cX3_isMetIn 114 = .ok (.invokestatic 62, 3) := by decide +kernel
theorem dX3_isMetIn_117 : decode cX3_isMetIn 117 = .ok (.ireturn, 1) := by decide +kernel
theorem dX3_isMetIn_118 : decode cX3_isMetIn 118 = .ok (.iinc 6 1, 3) := by decide +kernel
theorem dX3_isMetIn_121 : decode cX3_isMetIn 121 = .ok (.goto (-77), 3) := by decide +kernel
theorem dX3_isMetIn_124 : decode cX3_isMetIn 124 = .ok (.iconst 0, 1) := by decide +kernel
theorem dX3_isMetIn_125 : decode cX3_isMetIn 125 = .ok (.ireturn, 1) := by decide +kernel
theorem dX3_attacksAlong_0 : decode cX3_attacksAlong 0 = .ok (.iload_n 1, 1) := by decide +kernel
theorem dX3_attacksAlong_1 : decode cX3_attacksAlong 1 = .ok (.bipush 8, 2) := by decide +kernel
theorem dX3_attacksAlong_3 : decode cX3_attacksAlong 3 = .ok (.if_icmp .lt 14, 3) := by decide +kernel
theorem dX3_attacksAlong_6 : decode cX3_attacksAlong 6 = .ok (.iload_n 0, 1) := by decide +kernel
theorem dX3_attacksAlong_7 : decode cX3_attacksAlong 7 = .ok (.iconst 5, 1) := by decide +kernel
theorem dX3_attacksAlong_8 : decode cX3_attacksAlong 8 = .ok (.if_icmp .ne 7, 3) := by decide +kernel
theorem dX3_attacksAlong_11 : decode cX3_attacksAlong 11 = .ok (.iconst 1, 1) := by decide +kernel
theorem dX3_attacksAlong_12 : decode cX3_attacksAlong 12 = .ok (.goto 4, 3) := by decide +kernel
theorem dX3_attacksAlong_15 : decode cX3_attacksAlong 15 = .ok (.iconst 0, 1) := by decide +kernel
theorem dX3_attacksAlong_16 : decode cX3_attacksAlong 16 = .ok (.ireturn, 1) := by decide +kernel
theorem dX3_attacksAlong_17 : decode cX3_attacksAlong 17 = .ok (.iload_n 0, 1) := by decide +kernel
theorem dX3_attacksAlong_18 : decode cX3_attacksAlong 18 = .ok (.iconst 1, 1) := by decide +kernel
theorem dX3_attacksAlong_19 : decode cX3_attacksAlong 19 = .ok (.if_icmp .ne 13, 3) := by decide +kernel
theorem dX3_attacksAlong_22 : decode cX3_attacksAlong 22 = .ok (.iload_n 2, 1) := by decide +kernel
theorem dX3_attacksAlong_23 : decode cX3_attacksAlong 23 = .ok (.ifCond .ne 7, 3) := by decide +kernel
theorem dX3_attacksAlong_26 : decode cX3_attacksAlong 26 = .ok (.iconst 1, 1) := by decide +kernel
theorem dX3_attacksAlong_27 : decode cX3_attacksAlong 27 = .ok (.goto 4, 3) := by decide +kernel
theorem dX3_attacksAlong_30 : decode cX3_attacksAlong 30 = .ok (.iconst 0, 1) := by decide +kernel
theorem dX3_attacksAlong_31 : decode cX3_attacksAlong 31 = .ok (.ireturn, 1) := by decide +kernel
theorem dX3_attacksAlong_32 : decode cX3_attacksAlong 32 = .ok (.iload_n 0, 1) := by decide +kernel
theorem dX3_attacksAlong_33 : decode cX3_attacksAlong 33 = .ok (.iconst 2, 1) := by decide +kernel
theorem dX3_attacksAlong_34 : decode cX3_attacksAlong 34 = .ok (.if_icmp .eq 17, 3) := by decide +kernel
theorem dX3_attacksAlong_37 : decode cX3_attacksAlong 37 = .ok (.iload_n 0, 1) := by decide +kernel
theorem dX3_attacksAlong_38 : decode cX3_attacksAlong 38 = .ok (.iload_n 1, 1) := by decide +kernel
theorem dX3_attacksAlong_39 : decode cX3_attacksAlong 39 = .ok (.iconst 4, 1) := by decide +kernel
theorem dX3_attacksAlong_40 : decode cX3_attacksAlong 40 = .ok (.if_icmp .ge 7, 3) := by decide +kernel
theorem dX3_attacksAlong_43 : decode cX3_attacksAlong 43 = .ok (.iconst 3, 1) := by decide +kernel
theorem dX3_attacksAlong_44 : decode cX3_attacksAlong 44 = .ok (.goto 4, 3) := by decide +kernel
theorem dX3_attacksAlong_47 : decode cX3_attacksAlong 47 = .ok (.iconst 4, 1) := by decide +kernel
theorem dX3_attacksAlong_48 : decode cX3_attacksAlong 48 = .ok (.if_icmp .ne 7, 3) := by decide +kernel
theorem dX3_attacksAlong_51 : decode cX3_attacksAlong 51 = .ok (.iconst 1, 1) := by decide +kernel
theorem dX3_attacksAlong_52 : decode cX3_attacksAlong 52 = .ok (.goto 4, 3) := by decide +kernel
theorem dX3_attacksAlong_55 : decode cX3_attacksAlong 55 = .ok (.iconst 0, 1) := by decide +kernel
theorem dX3_attacksAlong_56 : decode cX3_attacksAlong 56 = .ok (.ireturn, 1) := by decide +kernel
theorem dX3_movesFrom_0 : decode cX3_movesFrom 0 = .ok (.iload_n 1, 1) := by decide +kernel
theorem dX3_movesFrom_1 : decode cX3_movesFrom 1 = .ok (.ifCond .lt 21, 3) := by decide +kernel
theorem dX3_movesFrom_4 : decode cX3_movesFrom 4 = .ok (.iload_n 1, 1) := by decide +kernel
theorem dX3_movesFrom_5 : decode cX3_movesFrom 5 = .ok (.bipush 25, 2) := by decide +kernel
theorem dX3_movesFrom_7 : decode cX3_movesFrom 7 = .ok (.if_icmp .ge 15, 3) := by decide +kernel
theorem dX3_movesFrom_10 : decode cX3_movesFrom 10 = .ok (.aload_n 0, 1) := by decide +kernel
theorem dX3_movesFrom_11 : decode cX3_movesFrom 11 = .ok (.getfield 9, 3) := by decide +kernel
theorem dX3_movesFrom_14 : decode cX3_movesFrom 14 = .ok (.iload_n 1, 1) := by decide +kernel
theorem dX3_movesFrom_15 : decode cX3_movesFrom 15 = .ok (.iaload, 1) := by decide +kernel
theorem dX3_movesFrom_16 : decode cX3_movesFrom 16 = .ok (.invokestatic 49, 3) := by decide +kernel
theorem dX3_movesFrom_19 : decode cX3_movesFrom 19 = .ok (.ifCond .ne 5, 3) := by decide +kernel
theorem dX3_movesFrom_22 : decode cX3_movesFrom 22 = .ok (.iconst 0, 1) := by decide +kernel
theorem dX3_movesFrom_23 : decode cX3_movesFrom 23 = .ok (.ireturn, 1) := by decide +kernel
theorem dX3_movesFrom_24 : decode cX3_movesFrom 24 = .ok (.iconst 0, 1) := by decide +kernel
theorem dX3_movesFrom_25 : decode cX3_movesFrom 25 = .ok (.istore_n 2, 1) := by decide +kernel
theorem dX3_movesFrom_26 : decode cX3_movesFrom 26 = .ok (.iconst 0, 1) := by decide +kernel
theorem dX3_movesFrom_27 : decode cX3_movesFrom 27 = .ok (.istore_n 3, 1) := by decide +kernel
theorem dX3_movesFrom_28 : decode cX3_movesFrom 28 = .ok (.iload_n 3, 1) := by decide +kernel
theorem dX3_movesFrom_29 : decode cX3_movesFrom 29 = .ok (.bipush 25, 2) := by decide +kernel
theorem dX3_movesFrom_31 : decode cX3_movesFrom 31 = .ok (.if_icmp .ge 38, 3) := by decide +kernel
theorem dX3_movesFrom_34 : decode cX3_movesFrom 34 = .ok (.aload_n 0, 1) := by decide +kernel
theorem dX3_movesFrom_35 : decode cX3_movesFrom 35 = .ok (.getfield 9, 3) := by decide +kernel
theorem dX3_movesFrom_38 : decode cX3_movesFrom 38 = .ok (.iload_n 3, 1) := by decide +kernel
theorem dX3_movesFrom_39 : decode cX3_movesFrom 39 = .ok (.iaload, 1) := by decide +kernel
theorem dX3_movesFrom_40 : decode cX3_movesFrom 40 = .ok (.invokestatic 49, 3) := by decide +kernel
theorem dX3_movesFrom_43 : decode cX3_movesFrom 43 = .ok (.ifCond .ne 14, 3) := by decide +kernel
theorem dX3_movesFrom_46 : decode cX3_movesFrom 46 = .ok (.aload_n 0, 1) := by decide +kernel
theorem dX3_movesFrom_47 : decode cX3_movesFrom 47 = .ok (.getfield 9, 3) := by decide +kernel
theorem dX3_movesFrom_50 : decode cX3_movesFrom 50 = .ok (.iload_n 3, 1) := by decide +kernel
theorem dX3_movesFrom_51 : decode cX3_movesFrom 51 = .ok (.iaload, 1) := by decide +kernel
theorem dX3_movesFrom_52 : decode cX3_movesFrom 52 = .ok (.bipush 7, 2) := by decide +kernel
theorem dX3_movesFrom_54 : decode cX3_movesFrom 54 = .ok (.if_icmp .ne 9, 3) := by decide +kernel
theorem dX3_movesFrom_57 : decode cX3_movesFrom 57 = .ok (.iload_n 2, 1) := by decide +kernel
theorem dX3_movesFrom_58 : decode cX3_movesFrom 58 = .ok (.iconst 1, 1) := by decide +kernel
theorem dX3_movesFrom_59 : decode cX3_movesFrom 59 = .ok (.iload_n 3, 1) := by decide +kernel
theorem dX3_movesFrom_60 : decode cX3_movesFrom 60 = .ok (.ishl, 1) := by decide +kernel
theorem dX3_movesFrom_61 : decode cX3_movesFrom 61 = .ok (.ior, 1) := by decide +kernel
theorem dX3_movesFrom_62 : decode cX3_movesFrom 62 = .ok (.istore_n 2, 1) := by decide +kernel
theorem dX3_movesFrom_63 : decode cX3_movesFrom 63 = .ok (.iinc 3 1, 3) := by decide +kernel
theorem dX3_movesFrom_66 : decode cX3_movesFrom 66 = .ok (.goto (-38), 3) := by decide +kernel
theorem dX3_movesFrom_69 : decode cX3_movesFrom 69 = .ok (.aload_n 0, 1) := by decide +kernel
theorem dX3_movesFrom_70 : decode cX3_movesFrom 70 = .ok (.getfield 9, 3) := by decide +kernel
theorem dX3_movesFrom_73 : decode cX3_movesFrom 73 = .ok (.iload_n 1, 1) := by decide +kernel
theorem dX3_movesFrom_74 : decode cX3_movesFrom 74 = .ok (.iaload, 1) := by decide +kernel
theorem dX3_movesFrom_75 : decode cX3_movesFrom 75 = .ok (.iconst 1, 1) := by decide +kernel
theorem dX3_movesFrom_76 : decode cX3_movesFrom 76 = .ok (.if_icmp .ne 16, 3) := by decide +kernel
theorem dX3_movesFrom_79 : decode cX3_movesFrom 79 = .ok (.iload_n 2, 1) := by decide +kernel
theorem dX3_movesFrom_80 : decode cX3_movesFrom 80 = .ok (.aload_n 0, 1) := by decide +kernel
theorem dX3_movesFrom_81 : decode cX3_movesFrom 81 = .ok (.aload_n 0, 1) := by decide +kernel
theorem dX3_movesFrom_82 : decode cX3_movesFrom 82 = .ok (.bipush 7, 2) := by decide +kernel
theorem dX3_movesFrom_84 : decode cX3_movesFrom 84 = .ok (.invokevirtual 36, 3) := by decide +kernel
theorem dX3_movesFrom_87 : decode cX3_movesFrom 87 = .ok (.invokevirtual 52, 3) := by decide +kernel
theorem dX3_movesFrom_90 : decode cX3_movesFrom 90 = .ok (.ior, 1) := by decide +kernel
theorem dX3_movesFrom_91 : decode cX3_movesFrom 91 = .ok (.istore_n 2, 1) := by decide +kernel
theorem dX3_movesFrom_92 : decode cX3_movesFrom 92 = .ok (.aload_n 0, 1) := by decide +kernel
theorem dX3_movesFrom_93 : decode cX3_movesFrom 93 = .ok (.iload_n 1, 1) := by decide +kernel
theorem dX3_movesFrom_94 : decode cX3_movesFrom 94 = .ok (.invokevirtual 52, 3) := by decide +kernel
theorem dX3_movesFrom_97 : decode cX3_movesFrom 97 = .ok (.iload_n 2, 1) := by decide +kernel
theorem dX3_movesFrom_98 : decode cX3_movesFrom 98 = .ok (.iconst (-1), 1) := by decide +kernel
theorem dX3_movesFrom_99 : decode cX3_movesFrom 99 = .ok (.ixor, 1) := by decide +kernel
theorem dX3_movesFrom_100 : decode cX3_movesFrom 100 = .ok (.iand, 1) := by decide +kernel
theorem dX3_movesFrom_101 : decode cX3_movesFrom 101 = .ok (.ireturn, 1) := by decide +kernel
theorem dX3_hasMove_0 : decode cX3_hasMove 0 = .ok (.iload_n 1, 1) := by decide +kernel
theorem dX3_hasMove_1 : decode cX3_hasMove 1 = .ok (.invokestatic 28, 3) := by decide +kernel
theorem dX3_hasMove_4 : decode cX3_hasMove 4 = .ok (.ifCond .eq 26, 3) := by decide +kernel
theorem dX3_hasMove_7 : decode cX3_hasMove 7 = .ok (.iload_n 2, 1) := by decide +kernel
theorem dX3_hasMove_8 : decode cX3_hasMove 8 = .ok (.invokestatic 28, 3) := by decide +kernel
theorem dX3_hasMove_11 : decode cX3_hasMove 11 = .ok (.ifCond .eq 19, 3) := by decide +kernel
theorem dX3_hasMove_14 : decode cX3_hasMove 14 = .ok (.aload_n 0, 1) := by decide +kernel
theorem dX3_hasMove_15 : decode cX3_hasMove 15 = .ok (.iload_n 1, 1) := by decide +kernel
theorem dX3_hasMove_16 : decode cX3_hasMove 16 = .ok (.invokevirtual 66, 3) := by decide +kernel
theorem dX3_hasMove_19 : decode cX3_hasMove 19 = .ok (.iload_n 2, 1) := by decide +kernel
theorem dX3_hasMove_20 : decode cX3_hasMove 20 = .ok (.invokestatic 55, 3) := by decide +kernel
theorem dX3_hasMove_23 : decode cX3_hasMove 23 = .ok (.ifCond .eq 7, 3) := by decide +kernel
theorem dX3_hasMove_26 : decode cX3_hasMove 26 = .ok (.iconst 1, 1) := by decide +kernel
theorem dX3_hasMove_27 : decode cX3_hasMove 27 = .ok (.goto 4, 3) := by decide +kernel
theorem dX3_hasMove_30 : decode cX3_hasMove 30 = .ok (.iconst 0, 1) := by decide +kernel
theorem dX3_hasMove_31 : decode cX3_hasMove 31 = .ok (.ireturn, 1) := by decide +kernel
theorem dX3_outlook_0 : decode cX3_outlook 0 = .ok (.aload_n 0, 1) := by decide +kernel
theorem dX3_outlook_1 : decode cX3_outlook 1 = .ok (.bipush 7, 2) := by decide +kernel
theorem dX3_outlook_3 : decode cX3_outlook 3 = .ok (.invokevirtual 36, 3) := by decide +kernel
theorem dX3_outlook_6 : decode cX3_outlook 6 = .ok (.istore_n 1, 1) := by decide +kernel
theorem dX3_outlook_7 : decode cX3_outlook 7 = .ok (.iload_n 1, 1) := by decide +kernel
theorem dX3_outlook_8 : decode cX3_outlook 8 = .ok (.ifCond .lt 9, 3) := by decide +kernel
theorem dX3_outlook_11 : decode cX3_outlook 11 = .ok (.iload_n 1, 1) := by decide +kernel
theorem dX3_outlook_12 : decode cX3_outlook 12 = .ok (.bipush 25, 2) := by decide +kernel
theorem dX3_outlook_14 : decode cX3_outlook 14 = .ok (.if_icmp .lt 5, 3) := by decide +kernel
theorem dX3_outlook_17 : decode cX3_outlook 17 = .ok (.iconst 0, 1) := by decide +kernel
theorem dX3_outlook_18 : decode cX3_outlook 18 = .ok (.ireturn, 1) := by decide +kernel
theorem dX3_outlook_19 : decode cX3_outlook 19 = .ok (.aload_n 0, 1) := by decide +kernel
theorem dX3_outlook_20 : decode cX3_outlook 20 = .ok (.iload_n 1, 1) := by decide +kernel
theorem dX3_outlook_21 : decode cX3_outlook 21 = .ok (.invokevirtual 52, 3) := by decide +kernel
theorem dX3_outlook_24 : decode cX3_outlook 24 = .ok (.istore_n 2, 1) := by decide +kernel
theorem dX3_outlook_25 : decode cX3_outlook 25 = .ok (.iconst 0, 1) := by decide +kernel
theorem dX3_outlook_26 : decode cX3_outlook 26 = .ok (.istore_n 3, 1) := by decide +kernel
theorem dX3_outlook_27 : decode cX3_outlook 27 = .ok (.iconst 0, 1) := by decide +kernel
theorem dX3_outlook_28 : decode cX3_outlook 28 = .ok (.istore 4, 2) := by decide +kernel
theorem dX3_outlook_30 : decode cX3_outlook 30 = .ok (.aload_n 0, 1) := by decide +kernel
theorem dX3_outlook_31 : decode cX3_outlook 31 = .ok (.getfield 9, 3) := by decide +kernel
theorem dX3_outlook_34 : decode cX3_outlook 34 = .ok (.iload_n 1, 1) := by decide +kernel
theorem dX3_outlook_35 : decode cX3_outlook 35 = .ok (.iconst 0, 1) := by decide +kernel
theorem dX3_outlook_36 : decode cX3_outlook 36 = .ok (.iastore, 1) := by decide +kernel
theorem dX3_outlook_37 : decode cX3_outlook 37 = .ok (.iconst 0, 1) := by decide +kernel
theorem dX3_outlook_38 : decode cX3_outlook 38 = .ok (.istore 5, 2) := by decide +kernel
theorem dX3_outlook_40 : decode cX3_outlook 40 = .ok (.iload 5, 2) := by decide +kernel
theorem dX3_outlook_42 : decode cX3_outlook 42 = .ok (.bipush 25, 2) := by decide +kernel
theorem dX3_outlook_44 : decode cX3_outlook 44 = .ok (.if_icmp .ge 55, 3) := by decide +kernel
theorem dX3_outlook_47 : decode cX3_outlook 47 = .ok (.aload_n 0, 1) := by decide +kernel
theorem dX3_outlook_48 : decode cX3_outlook 48 = .ok (.getfield 9, 3) := by decide +kernel
theorem dX3_outlook_51 : decode cX3_outlook 51 = .ok (.iload 5, 2) := by decide +kernel
theorem dX3_outlook_53 : decode cX3_outlook 53 = .ok (.iaload, 1) := by decide +kernel
theorem dX3_outlook_54 : decode cX3_outlook 54 = .ok (.invokestatic 49, 3) := by decide +kernel
theorem dX3_outlook_57 : decode cX3_outlook 57 = .ok (.ifCond .eq 17, 3) := by decide +kernel
theorem dX3_outlook_60 : decode cX3_outlook 60 = .ok (.iload 4, 2) := by decide +kernel
theorem dX3_outlook_62 : decode cX3_outlook 62 = .ok (.aload_n 0, 1) := by decide +kernel
theorem dX3_outlook_63 : decode cX3_outlook 63 = .ok (.iload 5, 2) := by decide +kernel
theorem dX3_outlook_65 : decode cX3_outlook 65 = .ok (.invokevirtual 52, 3) := by decide +kernel
theorem dX3_outlook_68 : decode cX3_outlook 68 = .ok (.ior, 1) := by decide +kernel
theorem dX3_outlook_69 : decode cX3_outlook 69 = .ok (.istore 4, 2) := by decide +kernel
theorem dX3_outlook_71 : decode cX3_outlook 71 = .ok (.goto 22, 3) := by decide +kernel
theorem dX3_outlook_74 : decode cX3_outlook 74 = .ok (.aload_n 0, 1) := by decide +kernel
theorem dX3_outlook_75 : decode cX3_outlook 75 = .ok (.getfield 9, 3) := by decide +kernel
theorem dX3_outlook_78 : decode cX3_outlook 78 = .ok (.iload 5, 2) := by decide +kernel
theorem dX3_outlook_80 : decode cX3_outlook 80 = .ok (.iaload, 1) := by decide +kernel
theorem dX3_outlook_81 : decode cX3_outlook 81 = .ok (.bipush 6, 2) := by decide +kernel
theorem dX3_outlook_83 : decode cX3_outlook 83 = .ok (.if_icmp .ne 10, 3) := by decide +kernel
theorem dX3_outlook_86 : decode cX3_outlook 86 = .ok (.iload_n 3, 1) := by decide +kernel
theorem dX3_outlook_87 : decode cX3_outlook 87 = .ok (.iconst 1, 1) := by decide +kernel
theorem dX3_outlook_88 : decode cX3_outlook 88 = .ok (.iload 5, 2) := by decide +kernel
theorem dX3_outlook_90 : decode cX3_outlook 90 = .ok (.ishl, 1) := by decide +kernel
theorem dX3_outlook_91 : decode cX3_outlook 91 = .ok (.ior, 1) := by decide +kernel
theorem dX3_outlook_92 : decode cX3_outlook 92 = .ok (.istore_n 3, 1) := by decide +kernel
theorem dX3_outlook_93 : decode cX3_outlook 93 = .ok (.iinc 5 1, 3) := by decide +kernel
theorem dX3_outlook_96 : decode cX3_outlook 96 = .ok (.goto (-56), 3) := by decide +kernel
theorem dX3_outlook_99 : decode cX3_outlook 99 = .ok (.aload_n 0, 1) := by decide +kernel
theorem dX3_outlook_100 : decode cX3_outlook 100 = .ok (.getfield 9, 3) := by decide +kernel
theorem dX3_outlook_103 : decode cX3_outlook 103 = .ok (.iload_n 1, 1) := by decide +kernel
theorem dX3_outlook_104 : decode cX3_outlook 104 = .ok (.bipush 7, 2) := by decide +kernel
theorem dX3_outlook_106 : decode cX3_outlook 106 = .ok (.iastore, 1) := by decide +kernel
theorem dX3_outlook_107 : decode cX3_outlook 107 = .ok (.iload 4, 2) := by decide +kernel
theorem dX3_outlook_109 : decode cX3_outlook 109 = .ok (.iload_n 1, 1) := by decide +kernel
theorem dX3_outlook_110 : decode cX3_outlook 110 = .ok (.ishr, 1) := by decide +kernel
theorem dX3_outlook_111 : decode cX3_outlook 111 = .ok (.iconst 1, 1) := by decide +kernel
theorem dX3_outlook_112 : decode cX3_outlook 112 = .ok (.iand, 1) := by decide +kernel
theorem dX3_outlook_113 : decode cX3_outlook 113 = .ok (.ifCond .eq 8, 3) := by decide +kernel
theorem dX3_outlook_116 : decode cX3_outlook 116 = .ok (.ldc 69, 2) := by decide +kernel
theorem dX3_outlook_118 : decode cX3_outlook 118 = .ok (.goto 4, 3) := by decide +kernel
theorem dX3_outlook_121 : decode cX3_outlook 121 = .ok (.iconst 0, 1) := by decide +kernel
theorem dX3_outlook_122 : decode cX3_outlook 122 = .ok (.istore 5, 2) := by decide +kernel
theorem dX3_outlook_124 : decode cX3_outlook 124 = .ok (.iload_n 2, 1) := by decide +kernel
theorem dX3_outlook_125 : decode cX3_outlook 125 = .ok (.iload_n 3, 1) := by decide +kernel
theorem dX3_outlook_126 : decode cX3_outlook 126 = .ok (.iconst (-1), 1) := by decide +kernel
theorem dX3_outlook_127 : decode cX3_outlook 127 = .ok (.ixor, 1) := by decide +kernel
theorem dX3_outlook_128 : decode cX3_outlook 128 = .ok (.iand, 1) := by decide +kernel
theorem dX3_outlook_129 : decode cX3_outlook 129 = .ok (.iload 4, 2) := by decide +kernel
theorem dX3_outlook_131 : decode cX3_outlook 131 = .ok (.iconst (-1), 1) := by decide +kernel
theorem dX3_outlook_132 : decode cX3_outlook 132 = .ok (.ixor, 1) := by decide +kernel
theorem dX3_outlook_133 : decode cX3_outlook 133 = .ok (.iand, 1) := by decide +kernel
theorem dX3_outlook_134 : decode cX3_outlook 134 = .ok (.iload 5, 2) := by decide +kernel
theorem dX3_outlook_136 : decode cX3_outlook 136 = .ok (.ior, 1) := by decide +kernel
theorem dX3_outlook_137 : decode cX3_outlook 137 = .ok (.ireturn, 1) := by decide +kernel
theorem dX3_outlookBehind_0 : decode cX3_outlookBehind 0 = .ok (.iload_n 1, 1) := by decide +kernel
theorem dX3_outlookBehind_1 : decode cX3_outlookBehind 1 = .ok (.ifCond .lt 19, 3) := by decide +kernel
theorem dX3_outlookBehind_4 : decode cX3_outlookBehind 4 = .ok (.iload_n 1, 1) := by decide +kernel
theorem dX3_outlookBehind_5 : decode cX3_outlookBehind 5 = .ok (.bipush 25, 2) := by decide +kernel
theorem dX3_outlookBehind_7 : decode cX3_outlookBehind 7 = .ok (.if_icmp .ge 13, 3) := by decide +kernel
theorem dX3_outlookBehind_10 : decode cX3_outlookBehind 10 = .ok (.iload_n 2, 1) := by decide +kernel
theorem dX3_outlookBehind_11 : decode cX3_outlookBehind 11 = .ok (.ifCond .lt 9, 3) := by decide +kernel
theorem dX3_outlookBehind_14 : decode cX3_outlookBehind 14 = .ok (.iload_n 2, 1) := by decide +kernel
theorem dX3_outlookBehind_15 : decode cX3_outlookBehind 15 = .ok (.bipush 25, 2) := by decide +kernel
theorem dX3_outlookBehind_17 : decode cX3_outlookBehind 17 = .ok (.if_icmp .lt 5, 3) := by decide +kernel
theorem dX3_outlookBehind_20 : decode cX3_outlookBehind 20 = .ok (.iconst 0, 1) := by decide +kernel
theorem dX3_outlookBehind_21 : decode cX3_outlookBehind 21 = .ok (.ireturn, 1) := by decide +kernel
theorem dX3_outlookBehind_22 : decode cX3_outlookBehind 22 = .ok (.aload_n 0, 1) := by decide +kernel
theorem dX3_outlookBehind_23 : decode cX3_outlookBehind 23 = .ok (.getfield 9, 3) := by decide +kernel
theorem dX3_outlookBehind_26 : decode cX3_outlookBehind 26 = .ok (.iload_n 1, 1) := by decide +kernel
theorem dX3_outlookBehind_27 : decode cX3_outlookBehind 27 = .ok (.iaload, 1) := by decide +kernel
theorem dX3_outlookBehind_28 : decode cX3_outlookBehind 28 = .ok (.istore_n 3, 1) := by decide +kernel
theorem dX3_outlookBehind_29 : decode cX3_outlookBehind 29 = .ok (.aload_n 0, 1) := by decide +kernel
theorem dX3_outlookBehind_30 : decode cX3_outlookBehind 30 = .ok (.getfield 9, 3) := by decide +kernel
theorem dX3_outlookBehind_33 : decode cX3_outlookBehind 33 = .ok (.iload_n 2, 1) := by decide +kernel
theorem dX3_outlookBehind_34 : decode cX3_outlookBehind 34 = .ok (.iaload, 1) := by decide +kernel
theorem dX3_outlookBehind_35 : decode cX3_outlookBehind 35 = .ok (.istore 4, 2) := by decide +kernel
theorem dX3_outlookBehind_37 : decode cX3_outlookBehind 37 = .ok (.aload_n 0, 1) := by decide +kernel
theorem dX3_outlookBehind_38 : decode cX3_outlookBehind 38 = .ok (.getfield 9, 3) := by decide +kernel
theorem dX3_outlookBehind_41 : decode cX3_outlookBehind 41 = .ok (.iload_n 1, 1) := by decide +kernel
theorem dX3_outlookBehind_42 : decode cX3_outlookBehind 42 = .ok (.iconst 0, 1) := by decide +kernel
theorem dX3_outlookBehind_43 : decode cX3_outlookBehind 43 = .ok (.iastore, 1) := by decide +kernel
theorem dX3_outlookBehind_44 : decode cX3_outlookBehind 44 = .ok (.aload_n 0, 1) := by decide +kernel
theorem dX3_outlookBehind_45 : decode cX3_outlookBehind 45 = .ok (.getfield 9, 3) := by decide +kernel
theorem dX3_outlookBehind_48 : decode cX3_outlookBehind 48 = .ok (.iload_n 2, 1) := by decide +kernel
theorem dX3_outlookBehind_49 : decode cX3_outlookBehind 49 = .ok (.iload_n 3, 1) := by decide +kernel
theorem dX3_outlookBehind_50 : decode cX3_outlookBehind 50 = .ok (.iastore, 1) := by decide +kernel
theorem dX3_outlookBehind_51 : decode cX3_outlookBehind 51 = .ok (.aload_n 0, 1) := by decide +kernel
theorem dX3_outlookBehind_52 : decode cX3_outlookBehind 52 = .ok (.invokevirtual 70, 3) := by decide +kernel
theorem dX3_outlookBehind_55 : decode cX3_outlookBehind 55 = .ok (.istore 5, 2) := by decide +kernel
theorem dX3_outlookBehind_57 : decode cX3_outlookBehind 57 = .ok (.aload_n 0, 1) := by decide +kernel
theorem dX3_outlookBehind_58 : decode cX3_outlookBehind 58 = .ok (.getfield 9, 3) := by decide +kernel
theorem dX3_outlookBehind_61 : decode cX3_outlookBehind 61 = .ok (.iload_n 2, 1) := by decide +kernel
theorem dX3_outlookBehind_62 : decode cX3_outlookBehind 62 = .ok (.iload 4, 2) := by decide +kernel
theorem dX3_outlookBehind_64 : decode cX3_outlookBehind 64 = .ok (.iastore, 1) := by decide +kernel
theorem dX3_outlookBehind_65 : decode cX3_outlookBehind 65 = .ok (.aload_n 0, 1) := by decide +kernel
theorem dX3_outlookBehind_66 : decode cX3_outlookBehind 66 = .ok (.getfield 9, 3) := by decide +kernel
theorem dX3_outlookBehind_69 : decode cX3_outlookBehind 69 = .ok (.iload_n 1, 1) := by decide +kernel
theorem dX3_outlookBehind_70 : decode cX3_outlookBehind 70 = .ok (.iload_n 3, 1) := by decide +kernel
theorem dX3_outlookBehind_71 : decode cX3_outlookBehind 71 = .ok (.iastore, 1) := by decide +kernel
theorem dX3_outlookBehind_72 : decode cX3_outlookBehind 72 = .ok (.iload 5, 2) := by decide +kernel
theorem dX3_outlookBehind_74 : decode cX3_outlookBehind 74 = .ok (.ireturn, 1) := by decide +kernel
theorem dX3_kindOfMove_0 : decode cX3_kindOfMove 0 = .ok (.aload_n 0, 1) := by decide +kernel
theorem dX3_kindOfMove_1 : decode cX3_kindOfMove 1 = .ok (.iload_n 1, 1) := by decide +kernel
theorem dX3_kindOfMove_2 : decode cX3_kindOfMove 2 = .ok (.iload_n 2, 1) := by decide +kernel
theorem dX3_kindOfMove_3 : decode cX3_kindOfMove 3 = .ok (.invokevirtual 74, 3) := by decide +kernel
theorem dX3_kindOfMove_6 : decode cX3_kindOfMove 6 = .ok (.istore_n 3, 1) := by decide +kernel
theorem dX3_kindOfMove_7 : decode cX3_kindOfMove 7 = .ok (.iload_n 3, 1) := by decide +kernel
theorem dX3_kindOfMove_8 : decode cX3_kindOfMove 8 = .ok (.ldc 69, 2) := by decide +kernel
theorem dX3_kindOfMove_10 : decode cX3_kindOfMove 10 = .ok (.iand, 1) := by decide +kernel
theorem dX3_kindOfMove_11 : decode cX3_kindOfMove 11 = .ok (.ifCond .eq 7, 3) := by decide +kernel
theorem dX3_kindOfMove_14 : decode cX3_kindOfMove 14 = .ok (.iconst 1, 1) := by decide +kernel
theorem dX3_kindOfMove_15 : decode cX3_kindOfMove 15 = .ok (.goto 4, 3) := by decide +kernel
theorem dX3_kindOfMove_18 : decode cX3_kindOfMove 18 = .ok (.iconst 0, 1) := by decide +kernel
theorem dX3_kindOfMove_19 : decode cX3_kindOfMove 19 = .ok (.istore 4, 2) := by decide +kernel
theorem dX3_kindOfMove_21 : decode cX3_kindOfMove 21 = .ok (.iload_n 3, 1) := by decide +kernel
theorem dX3_kindOfMove_22 : decode cX3_kindOfMove 22 = .ok (.invokestatic 77, 3) := by decide +kernel
theorem dX3_kindOfMove_25 : decode cX3_kindOfMove 25 = .ok (.ifCond .eq 7, 3) := by decide +kernel
theorem dX3_kindOfMove_28 : decode cX3_kindOfMove 28 = .ok (.iconst 1, 1) := by decide +kernel
theorem dX3_kindOfMove_29 : decode cX3_kindOfMove 29 = .ok (.goto 4, 3) := by decide +kernel
theorem dX3_kindOfMove_32 : decode cX3_kindOfMove 32 = .ok (.iconst 0, 1) := by decide +kernel
theorem dX3_kindOfMove_33 : decode cX3_kindOfMove 33 = .ok (.istore 5, 2) := by decide +kernel
theorem dX3_kindOfMove_35 : decode cX3_kindOfMove 35 = .ok (.iload 4, 2) := by decide +kernel
theorem dX3_kindOfMove_37 : decode cX3_kindOfMove 37 = .ok (.ifCond .eq 14, 3) := by decide +kernel
theorem dX3_kindOfMove_40 : decode cX3_kindOfMove 40 = .ok (.iload 5, 2) := by decide +kernel
theorem dX3_kindOfMove_42 : decode cX3_kindOfMove 42 = .ok (.ifCond .eq 7, 3) := by decide +kernel
theorem dX3_kindOfMove_45 : decode cX3_kindOfMove 45 = .ok (.iconst 2, 1) := by decide +kernel
theorem dX3_kindOfMove_46 : decode cX3_kindOfMove 46 = .ok (.goto 4, 3) := by decide +kernel
theorem dX3_kindOfMove_49 : decode cX3_kindOfMove 49 = .ok (.iconst 3, 1) := by decide +kernel
theorem dX3_kindOfMove_50 : decode cX3_kindOfMove 50 = .ok (.ireturn, 1) := by decide +kernel
theorem dX3_kindOfMove_51 : decode cX3_kindOfMove 51 = .ok (.iload 5, 2) := by decide +kernel
theorem dX3_kindOfMove_53 : decode cX3_kindOfMove 53 = .ok (.ifCond .eq 7, 3) := by decide +kernel
theorem dX3_kindOfMove_56 : decode cX3_kindOfMove 56 = .ok (.iconst 0, 1) := by decide +kernel
theorem dX3_kindOfMove_57 : decode cX3_kindOfMove 57 = .ok (.goto 4, 3) := by decide +kernel
theorem dX3_kindOfMove_60 : decode cX3_kindOfMove 60 = .ok (.iconst 1, 1) := by decide +kernel
theorem dX3_kindOfMove_61 : decode cX3_kindOfMove 61 = .ok (.ireturn, 1) := by decide +kernel
theorem dX3_keysFrom_0 : decode cX3_keysFrom 0 = .ok (.aload_n 0, 1) := by decide +kernel
theorem dX3_keysFrom_1 : decode cX3_keysFrom 1 = .ok (.iload_n 1, 1) := by decide +kernel
theorem dX3_keysFrom_2 : decode cX3_keysFrom 2 = .ok (.invokevirtual 66, 3) := by decide +kernel
theorem dX3_keysFrom_5 : decode cX3_keysFrom 5 = .ok (.istore_n 2, 1) := by decide +kernel
theorem dX3_keysFrom_6 : decode cX3_keysFrom 6 = .ok (.iconst 0, 1) := by decide +kernel
theorem dX3_keysFrom_7 : decode cX3_keysFrom 7 = .ok (.istore_n 3, 1) := by decide +kernel
theorem dX3_keysFrom_8 : decode cX3_keysFrom 8 = .ok (.iconst 0, 1) := by decide +kernel
theorem dX3_keysFrom_9 : decode cX3_keysFrom 9 = .ok (.istore 4, 2) := by decide +kernel
theorem dX3_keysFrom_11 : decode cX3_keysFrom 11 = .ok (.iload 4, 2) := by decide +kernel
theorem dX3_keysFrom_13 : decode cX3_keysFrom 13 = .ok (.bipush 25, 2) := by decide +kernel
theorem dX3_keysFrom_15 : decode cX3_keysFrom 15 = .ok (.if_icmp .ge 37, 3) := by decide +kernel
theorem dX3_keysFrom_18 : decode cX3_keysFrom 18 = .ok (.iload_n 2, 1) := by decide +kernel
theorem dX3_keysFrom_19 : decode cX3_keysFrom 19 = .ok (.iload 4, 2) := by decide +kernel
theorem dX3_keysFrom_21 : decode cX3_keysFrom 21 = .ok (.ishr, 1) := by decide +kernel
theorem dX3_keysFrom_22 : decode cX3_keysFrom 22 = .ok (.iconst 1, 1) := by decide +kernel
theorem dX3_keysFrom_23 : decode cX3_keysFrom 23 = .ok (.iand, 1) := by decide +kernel
theorem dX3_keysFrom_24 : decode cX3_keysFrom 24 = .ok (.ifCond .eq 22, 3) := by decide +kernel
theorem dX3_keysFrom_27 : decode cX3_keysFrom 27 = .ok (.aload_n 0, 1) := by decide +kernel
theorem dX3_keysFrom_28 : decode cX3_keysFrom 28 = .ok (.iload_n 1, 1) := by decide +kernel
theorem dX3_keysFrom_29 : decode cX3_keysFrom 29 = .ok (.iload 4, 2) := by decide +kernel
theorem dX3_keysFrom_31 : decode cX3_keysFrom 31 = .ok (.invokevirtual 74, 3) := by decide +kernel
theorem dX3_keysFrom_34 : decode cX3_keysFrom 34 = .ok (.ldc 69, 2) := by decide +kernel
theorem dX3_keysFrom_36 : decode cX3_keysFrom 36 = .ok (.if_icmp .ne 10, 3) := by decide +kernel
theorem dX3_keysFrom_39 : decode cX3_keysFrom 39 = .ok (.iload_n 3, 1) := by decide +kernel
theorem dX3_keysFrom_40 : decode cX3_keysFrom 40 = .ok (.iconst 1, 1) := by decide +kernel
theorem dX3_keysFrom_41 : decode cX3_keysFrom 41 = .ok (.iload 4, 2) := by decide +kernel
theorem dX3_keysFrom_43 : decode cX3_keysFrom 43 = .ok (.ishl, 1) := by decide +kernel
theorem dX3_keysFrom_44 : decode cX3_keysFrom 44 = .ok (.ior, 1) := by decide +kernel
theorem dX3_keysFrom_45 : decode cX3_keysFrom 45 = .ok (.istore_n 3, 1) := by decide +kernel
theorem dX3_keysFrom_46 : decode cX3_keysFrom 46 = .ok (.iinc 4 1, 3) := by decide +kernel
theorem dX3_keysFrom_49 : decode cX3_keysFrom 49 = .ok (.goto (-38), 3) := by decide +kernel
theorem dX3_keysFrom_52 : decode cX3_keysFrom 52 = .ok (.iload_n 3, 1) := by decide +kernel
theorem dX3_keysFrom_53 : decode cX3_keysFrom 53 = .ok (.ireturn, 1) := by decide +kernel
theorem dX4_init_0 : decode cX4_init 0 = .ok (.aload_n 0, 1) := by decide +kernel
theorem dX4_init_1 : decode cX4_init 1 = .ok (.invokespecial 3, 3) := by decide +kernel
theorem dX4_init_4 : decode cX4_init 4 = .ok (.aload_n 0, 1) := by decide +kernel
theorem dX4_init_5 : decode cX4_init 5 = .ok (.bipush 70, 2) := by decide +kernel
theorem dX4_init_7 : decode cX4_init 7 = .ok (.newarray .int, 2) := by decide +kernel
theorem dX4_init_9 : decode cX4_init 9 = .ok (.putfield 9, 3) := by decide +kernel
theorem dX4_init_12 : decode cX4_init 12 = .ok (.aload_n 0, 1) := by decide +kernel
theorem dX4_init_13 : decode cX4_init 13 = .ok (.bipush 35, 2) := by decide +kernel
theorem dX4_init_15 : decode cX4_init 15 = .ok (.newarray .int, 2) := by decide +kernel
theorem dX4_init_17 : decode cX4_init 17 = .ok (.putfield 15, 3) := by decide +kernel
theorem dX4_init_20 : decode cX4_init 20 = .ok (.aload_n 0, 1) := by decide +kernel
theorem dX4_init_21 : decode cX4_init 21 = .ok (.bipush 35, 2) := by decide +kernel
theorem dX4_init_23 : decode cX4_init 23 = .ok (.newarray .int, 2) := by decide +kernel
theorem dX4_init_25 : decode cX4_init 25 = .ok (.putfield 18, 3) := by decide +kernel
theorem dX4_init_28 : decode cX4_init 28 = .ok (.aload_n 0, 1) := by decide +kernel
theorem dX4_init_29 : decode cX4_init 29 = .ok (.bipush 35, 2) := by decide +kernel
theorem dX4_init_31 : decode cX4_init 31 = .ok (.newarray .int, 2) := by decide +kernel
theorem dX4_init_33 : decode cX4_init 33 = .ok (.putfield 21, 3) := by decide +kernel
theorem dX4_init_36 : decode cX4_init 36 = .ok (.return_, 1) := by decide +kernel
theorem dX4_add_0 : decode cX4_add 0 = .ok (.iload_n 1, 1) := by decide +kernel
theorem dX4_add_1 : decode cX4_add 1 = .ok (.bipush 32, 2) := by decide +kernel
theorem dX4_add_3 : decode cX4_add 3 = .ok (.if_icmp .lt 25, 3) := by decide +kernel
theorem dX4_add_6 : decode cX4_add 6 = .ok (.iload_n 1, 1) := by decide +kernel
theorem dX4_add_7 : decode cX4_add 7 = .ok (.bipush 126, 2) := by decide +kernel
theorem dX4_add_9 : decode cX4_add 9 = .ok (.if_icmp .gt 19, 3) := by decide +kernel
theorem dX4_add_12 : decode cX4_add 12 = .ok (.aload_n 0, 1) := by decide +kernel
theorem dX4_add_13 : decode cX4_add 13 = .ok (.getfield 24, 3) := by decide +kernel
theorem dX4_add_16 : decode cX4_add 16 = .ok (.ifCond .lt 12, 3) := by decide +kernel
theorem dX4_add_19 : decode cX4_add 19 = .ok (.aload_n 0, 1) := by decide +kernel
theorem dX4_add_20 : decode cX4_add 20 = .ok (.getfield 24, 3) := by decide +kernel
theorem dX4_add_23 : decode cX4_add 23 = .ok (.bipush 70, 2) := by decide +kernel
theorem dX4_add_25 : decode cX4_add 25 = .ok (.if_icmp .lt 6, 3) := by decide +kernel
theorem dX4_add_28 : decode cX4_add 28 = .ok (.bipush (-2), 2) := by decide +kernel
theorem dX4_add_30 : decode cX4_add 30 = .ok (.ireturn, 1) := by decide +kernel
theorem dX4_add_31 : decode cX4_add 31 = .ok (.aload_n 0, 1) := by decide +kernel
theorem dX4_add_32 : decode cX4_add 32 = .ok (.getfield 9, 3) := by decide +kernel
theorem dX4_add_35 : decode cX4_add 35 = .ok (.aload_n 0, 1) := by decide +kernel
theorem dX4_add_36 : decode cX4_add 36 = .ok (.getfield 24, 3) := by decide +kernel
theorem dX4_add_39 : decode cX4_add 39 = .ok (.iload_n 1, 1) := by decide +kernel
theorem dX4_add_40 : decode cX4_add 40 = .ok (.iastore, 1) := by decide +kernel
theorem dX4_add_41 : decode cX4_add 41 = .ok (.aload_n 0, 1) := by decide +kernel
theorem dX4_add_42 : decode cX4_add 42 = .ok (.dup, 1) := by decide +kernel
theorem dX4_add_43 : decode cX4_add 43 = .ok (.getfield 24, 3) := by decide +kernel
theorem dX4_add_46 : decode cX4_add 46 = .ok (.iconst 1, 1) := by decide +kernel
theorem dX4_add_47 : decode cX4_add 47 = .ok (.iadd, 1) := by decide +kernel
theorem dX4_add_48 : decode cX4_add 48 = .ok (.putfield 24, 3) := by decide +kernel
theorem dX4_add_51 : decode cX4_add 51 = .ok (.aload_n 0, 1) := by decide +kernel
theorem dX4_add_52 : decode cX4_add 52 = .ok (.getfield 24, 3) := by decide +kernel
theorem dX4_add_55 : decode cX4_add 55 = .ok (.ireturn, 1) := by decide +kernel
theorem dX4_clear_0 : decode cX4_clear 0 = .ok (.aload_n 0, 1) := by decide +kernel
theorem dX4_clear_1 : decode cX4_clear 1 = .ok (.iconst 0, 1) := by decide +kernel
theorem dX4_clear_2 : decode cX4_clear 2 = .ok (.putfield 24, 3) := by decide +kernel
theorem dX4_clear_5 : decode cX4_clear 5 = .ok (.return_, 1) := by decide +kernel
theorem dX4_findFault_0 : decode cX4_findFault 0 = .ok (.aload_n 0, 1) := by decide +kernel
theorem dX4_findFault_1 : decode cX4_findFault 1 = .ok (.iconst 0, 1) := by decide +kernel
theorem dX4_findFault_2 : decode cX4_findFault 2 = .ok (.putfield 28, 3) := by decide +kernel
theorem dX4_findFault_5 : decode cX4_findFault 5 = .ok (.iconst 0, 1) := by decide +kernel
theorem dX4_findFault_6 : decode cX4_findFault 6 = .ok (.istore_n 1, 1) := by decide +kernel
theorem dX4_findFault_7 : decode cX4_findFault 7 = .ok (.iconst 0, 1) := by decide +kernel
theorem dX4_findFault_8 : decode cX4_findFault 8 = .ok (.istore_n 2, 1) := by decide +kernel
theorem dX4_findFault_9 : decode cX4_findFault 9 = .ok (.iload_n 2, 1) := by decide +kernel
theorem dX4_findFault_10 : decode cX4_findFault 10 = .ok (.aload_n 0, 1) := by decide +kernel
theorem dX4_findFault_11 : decode cX4_findFault 11 = .ok (.getfield 24, 3) := by decide +kernel
theorem dX4_findFault_14 : decode cX4_findFault 14 = .ok (.if_icmp .ge 43, 3) := by decide +kernel
theorem dX4_findFault_17 : decode cX4_findFault 17 = .ok (.iload_n 2, 1) := by decide +kernel
theorem dX4_findFault_18 : decode cX4_findFault 18 = .ok (.bipush 70, 2) := by decide +kernel
theorem dX4_findFault_20 : decode cX4_findFault 20 = .ok (.if_icmp .ge 37, 3) := by decide +kernel
theorem dX4_findFault_23 : decode cX4_findFault 23 = .ok (.aload_n 0, 1) := by decide +kernel
theorem dX4_findFault_24 : decode cX4_findFault 24 = .ok (.iload_n 1, 1) := by decide +kernel
theorem dX4_findFault_25 : decode cX4_findFault 25 = .ok (.aload_n 0, 1) := by decide +kernel
theorem dX4_findFault_26 : decode cX4_findFault 26 = .ok (.getfield 9, 3) := by decide +kernel
theorem dX4_findFault_29 : decode cX4_findFault 29 = .ok (.iload_n 2, 1) := by decide +kernel
theorem dX4_findFault_30 : decode cX4_findFault 30 = .ok (.iaload, 1) := by decide +kernel
theorem dX4_findFault_31 : decode cX4_findFault 31 = .ok (.invokevirtual 31, 3) := by decide +kernel
theorem dX4_findFault_34 : decode cX4_findFault 34 = .ok (.istore_n 1, 1) := by decide +kernel
theorem dX4_findFault_35 : decode cX4_findFault 35 = .ok (.iload_n 1, 1) := by decide +kernel
theorem dX4_findFault_36 : decode cX4_findFault 36 = .ok (.iconst (-1), 1) := by decide +kernel
theorem dX4_findFault_37 : decode cX4_findFault 37 = .ok (.if_icmp .ne 5, 3) := by decide +kernel
theorem dX4_findFault_40 : decode cX4_findFault 40 = .ok (.iload_n 2, 1) := by decide +kernel
theorem dX4_findFault_41 : decode cX4_findFault 41 = .ok (.ireturn, 1) := by decide +kernel
theorem dX4_findFault_42 : decode cX4_findFault 42 = .ok (.iload_n 1, 1) := by decide +kernel
theorem dX4_findFault_43 : decode cX4_findFault 43 = .ok (.iconst 5, 1) := by decide +kernel
theorem dX4_findFault_44 : decode cX4_findFault 44 = .ok (.if_icmp .ne 7, 3) := by decide +kernel
theorem dX4_findFault_47 : decode cX4_findFault 47 = .ok (.aload_n 0, 1) := by decide +kernel
theorem dX4_findFault_48 : decode cX4_findFault 48 = .ok (.invokevirtual 35, 3) := by decide +kernel
theorem dX4_findFault_51 : decode cX4_findFault 51 = .ok (.iinc 2 1, 3) := by decide +kernel
theorem dX4_findFault_54 : decode cX4_findFault 54 = .ok (.goto (-45), 3) := by decide +kernel
theorem dX4_findFault_57 : decode cX4_findFault 57 = .ok (.iload_n 1, 1) := by decide +kernel
theorem dX4_findFault_58 : decode cX4_findFault 58 = .ok (.iconst 5, 1) := by decide +kernel
theorem dX4_findFault_59 : decode cX4_findFault 59 = .ok (.if_icmp .ne 7, 3) := by decide +kernel
theorem dX4_findFault_62 : decode cX4_findFault 62 = .ok (.iconst (-1), 1) := by decide +kernel
theorem dX4_findFault_63 : decode cX4_findFault 63 = .ok (.goto 7, 3) := by decide +kernel
theorem dX4_findFault_66 : decode cX4_findFault 66 = .ok (.aload_n 0, 1) := by decide +kernel
theorem dX4_findFault_67 : decode cX4_findFault 67 = .ok (.getfield 24, 3) := by decide +kernel
theorem dX4_findFault_70 : decode cX4_findFault 70 = .ok (.ireturn, 1) := by decide +kernel
theorem dX4_keepCommand_0 : decode cX4_keepCommand 0 = .ok (.aload_n 0, 1) := by decide +kernel
theorem dX4_keepCommand_1 : decode cX4_keepCommand 1 = .ok (.getfield 28, 3) := by decide +kernel
theorem dX4_keepCommand_4 : decode cX4_keepCommand 4 = .ok (.ifCond .lt 61, 3) := by decide +kernel
theorem dX4_keepCommand_7 : decode cX4_keepCommand 7 = .ok (.aload_n 0, 1) := by decide +kernel
theorem dX4_keepCommand_8 : decode cX4_keepCommand 8 = .ok (.getfield 28, 3) := by decide +kernel
theorem dX4_keepCommand_11 : decode cX4_keepCommand 11 = .ok (.bipush 35, 2) := by decide +kernel
theorem dX4_keepCommand_13 : decode cX4_keepCommand 13 = .ok (.if_icmp .ge 52, 3) := by decide +kernel
theorem dX4_keepCommand_16 : decode cX4_keepCommand 16 = .ok (.aload_n 0, 1) := by decide +kernel
theorem dX4_keepCommand_17 : decode cX4_keepCommand 17 = .ok (.getfield 15, 3) := by decide +kernel
theorem dX4_keepCommand_20 : decode cX4_keepCommand 20 = .ok (.aload_n 0, 1) := by decide +kernel
theorem dX4_keepCommand_21 : decode cX4_keepCommand 21 = .ok (.getfield 28, 3) := by decide +kernel
theorem dX4_keepCommand_24 : decode cX4_keepCommand 24 = .ok (.aload_n 0, 1) := by decide +kernel
theorem dX4_keepCommand_25 : decode cX4_keepCommand 25 = .ok (.getfield 38, 3) := by decide +kernel
theorem dX4_keepCommand_28 : decode cX4_keepCommand 28 = .ok (.iastore, 1) := by decide +kernel
theorem dX4_keepCommand_29 : decode cX4_keepCommand 29 = .ok (.aload_n 0, 1) := by decide +kernel
theorem dX4_keepCommand_30 : decode cX4_keepCommand 30 = .ok (.getfield 18, 3) := by decide +kernel
theorem dX4_keepCommand_33 : decode cX4_keepCommand 33 = .ok (.aload_n 0, 1) := by decide +kernel
theorem dX4_keepCommand_34 : decode cX4_keepCommand 34 = .ok (.getfield 28, 3) := by decide +kernel
theorem dX4_keepCommand_37 : decode cX4_keepCommand 37 = .ok (.aload_n 0, 1) := by decide +kernel
theorem dX4_keepCommand_38 : decode cX4_keepCommand 38 = .ok (.getfield 41, 3) := by decide +kernel
theorem dX4_keepCommand_41 : decode cX4_keepCommand 41 = .ok (.iastore, 1) := by decide +kernel
theorem dX4_keepCommand_42 : decode cX4_keepCommand 42 = .ok (.aload_n 0, 1) := by decide +kernel
theorem dX4_keepCommand_43 : decode cX4_keepCommand 43 = .ok (.getfield 21, 3) := by decide +kernel
theorem dX4_keepCommand_46 : decode cX4_keepCommand 46 = .ok (.aload_n 0, 1) := by decide +kernel
theorem dX4_keepCommand_47 : decode cX4_keepCommand 47 = .ok (.getfield 28, 3) := by decide +kernel
theorem dX4_keepCommand_50 : decode cX4_keepCommand 50 = .ok (.aload_n 0, 1) := by decide +kernel
theorem dX4_keepCommand_51 : decode cX4_keepCommand 51 = .ok (.getfield 44, 3) := by decide +kernel
theorem dX4_keepCommand_54 : decode cX4_keepCommand 54 = .ok (.iastore, 1) := by decide +kernel
theorem dX4_keepCommand_55 : decode cX4_keepCommand 55 = .ok (.aload_n 0, 1) := by decide +kernel
theorem dX4_keepCommand_56 : decode cX4_keepCommand 56 = .ok (.dup, 1) := by decide +kernel
theorem dX4_keepCommand_57 : decode cX4_keepCommand 57 = .ok (.getfield 28, 3) := by decide +kernel
theorem dX4_keepCommand_60 : decode cX4_keepCommand 60 = .ok (.iconst 1, 1) := by decide +kernel
theorem dX4_keepCommand_61 : decode cX4_keepCommand 61 = .ok (.iadd, 1) := by decide +kernel
theorem dX4_keepCommand_62 : decode cX4_keepCommand 62 = .ok (.putfield 28, 3) := by decide +kernel
theorem dX4_keepCommand_65 : decode cX4_keepCommand 65 = .ok (.return_, 1) := by decide +kernel
theorem dX4_dueBehind_0 : decode cX4_dueBehind 0 = .ok (.iload_n 1, 1) := by decide +kernel
theorem dX4_dueBehind_1 : decode cX4_dueBehind 1 = .ok (.tableswitch 137 0 5 #[39, 45, 67, 79, 103, 125], 39) := by decide +kernel
theorem dX4_dueBehind_40 : decode cX4_dueBehind 40 = .ok (.aload_n 0, 1) := by decide +kernel
theorem dX4_dueBehind_41 : decode cX4_dueBehind 41 = .ok (.iload_n 2, 1) := by decide +kernel
theorem dX4_dueBehind_42 : decode cX4_dueBehind 42 = .ok (.invokevirtual 47, 3) := by decide +kernel
theorem dX4_dueBehind_45 : decode cX4_dueBehind 45 = .ok (.ireturn, 1) := by decide +kernel
theorem dX4_dueBehind_46 : decode cX4_dueBehind 46 = .ok (.aload_n 0, 1) := by decide +kernel
theorem dX4_dueBehind_47 : decode cX4_dueBehind 47 = .ok (.aload_n 0, 1) := by decide +kernel
theorem dX4_dueBehind_48 : decode cX4_dueBehind 48 = .ok (.iload_n 2, 1) := by decide +kernel
theorem dX4_dueBehind_49 : decode cX4_dueBehind 49 = .ok (.invokevirtual 51, 3) := by decide +kernel
theorem dX4_dueBehind_52 : decode cX4_dueBehind 52 = .ok (.putfield 41, 3) := by decide +kernel
theorem dX4_dueBehind_55 : decode cX4_dueBehind 55 = .ok (.aload_n 0, 1) := by decide +kernel
theorem dX4_dueBehind_56 : decode cX4_dueBehind 56 = .ok (.getfield 41, 3) := by decide +kernel
theorem dX4_dueBehind_59 : decode cX4_dueBehind 59 = .ok (.ifCond .ge 7, 3) := by decide +kernel
theorem dX4_dueBehind_62 : decode cX4_dueBehind 62 = .ok (.iconst (-1), 1) := by decide +kernel
theorem dX4_dueBehind_63 : decode cX4_dueBehind 63 = .ok (.goto 4, 3) := by decide +kernel
theorem dX4_dueBehind_66 : decode cX4_dueBehind 66 = .ok (.iconst 2, 1) := by decide +kernel
theorem dX4_dueBehind_67 : decode cX4_dueBehind 67 = .ok (.ireturn, 1) := by decide +kernel
theorem dX4_dueBehind_68 : decode cX4_dueBehind 68 = .ok (.iload_n 2, 1) := by decide +kernel
theorem dX4_dueBehind_69 : decode cX4_dueBehind 69 = .ok (.bipush 45, 2) := by decide +kernel
theorem dX4_dueBehind_71 : decode cX4_dueBehind 71 = .ok (.if_icmp .ne 7, 3) := by decide +kernel
theorem dX4_dueBehind_74 : decode cX4_dueBehind 74 = .ok (.iconst 3, 1) := by decide +kernel
theorem dX4_dueBehind_75 : decode cX4_dueBehind 75 = .ok (.goto 4, 3) := by decide +kernel
theorem dX4_dueBehind_78 : decode cX4_dueBehind 78 = .ok (.iconst (-1), 1) := by decide +kernel
theorem dX4_dueBehind_79 : decode cX4_dueBehind 79 = .ok (.ireturn, 1) := by decide +kernel
theorem dX4_dueBehind_80 : decode cX4_dueBehind 80 = .ok (.aload_n 0, 1) := by decide +kernel
theorem dX4_dueBehind_81 : decode cX4_dueBehind 81 = .ok (.iload_n 2, 1) := by decide +kernel
theorem dX4_dueBehind_82 : decode cX4_dueBehind 82 = .ok (.bipush 97, 2) := by decide +kernel
theorem dX4_dueBehind_84 : decode cX4_dueBehind 84 = .ok (.isub, 1) := by decide +kernel
theorem dX4_dueBehind_85 : decode cX4_dueBehind 85 = .ok (.putfield 54, 3) := by decide +kernel
theorem dX4_dueBehind_88 : decode cX4_dueBehind 88 = .ok (.aload_n 0, 1) := by decide +kernel
theorem dX4_dueBehind_89 : decode cX4_dueBehind 89 = .ok (.getfield 54, 3) := by decide +kernel
theorem dX4_dueBehind_92 : decode cX4_dueBehind 92 = .ok (.invokestatic 57, 3) := by decide +kernel
theorem dX4_dueBehind_95 : decode cX4_dueBehind 95 = .ok (.ifCond .eq 7, 3) := by decide +kernel
theorem dX4_dueBehind_98 : decode cX4_dueBehind 98 = .ok (.iconst 4, 1) := by decide +kernel
theorem dX4_dueBehind_99 : decode cX4_dueBehind 99 = .ok (.goto 4, 3) := by decide +kernel
theorem dX4_dueBehind_102 : decode cX4_dueBehind 102 = .ok (.iconst (-1), 1) := by decide +kernel
theorem dX4_dueBehind_103 : decode cX4_dueBehind 103 = .ok (.ireturn, 1) := by decide +kernel
theorem dX4_dueBehind_104 : decode cX4_dueBehind 104 = .ok (.aload_n 0, 1) := by decide +kernel
theorem dX4_dueBehind_105 : decode cX4_dueBehind 105 = .ok (.aload_n 0, 1) := by decide +kernel
theorem dX4_dueBehind_106 : decode cX4_dueBehind 106 = .ok (.iload_n 2, 1) := by decide +kernel
theorem dX4_dueBehind_107 : decode cX4_dueBehind 107 = .ok (.invokevirtual 51, 3) := by decide +kernel
theorem dX4_dueBehind_110 : decode cX4_dueBehind 110 = .ok (.putfield 44, 3) := by decide +kernel
theorem dX4_dueBehind_113 : decode cX4_dueBehind 113 = .ok (.aload_n 0, 1) := by decide +kernel
theorem dX4_dueBehind_114 : decode cX4_dueBehind 114 = .ok (.getfield 44, 3) := by decide +kernel
theorem dX4_dueBehind_117 : decode cX4_dueBehind 117 = .ok (.ifCond .ge 7, 3) := by decide +kernel
theorem dX4_dueBehind_120 : decode cX4_dueBehind 120 = .ok (.iconst (-1), 1) := by decide +kernel
theorem dX4_dueBehind_121 : decode cX4_dueBehind 121 = .ok (.goto 4, 3) := by decide +kernel
theorem dX4_dueBehind_124 : decode cX4_dueBehind 124 = .ok (.iconst 5, 1) := by decide +kernel
theorem dX4_dueBehind_125 : decode cX4_dueBehind 125 = .ok (.ireturn, 1) := by decide +kernel
theorem dX4_dueBehind_126 : decode cX4_dueBehind 126 = .ok (.iload_n 2, 1) := by decide +kernel
theorem dX4_dueBehind_127 : decode cX4_dueBehind 127 = .ok (.bipush 59, 2) := by decide +kernel
theorem dX4_dueBehind_129 : decode cX4_dueBehind 129 = .ok (.if_icmp .ne 7, 3) := by decide +kernel
theorem dX4_dueBehind_132 : decode cX4_dueBehind 132 = .ok (.iconst 0, 1) := by decide +kernel
theorem dX4_dueBehind_133 : decode cX4_dueBehind 133 = .ok (.goto 4, 3) := by decide +kernel
theorem dX4_dueBehind_136 : decode cX4_dueBehind 136 = .ok (.iconst (-1), 1) := by decide +kernel
theorem dX4_dueBehind_137 : decode cX4_dueBehind 137 = .ok (.ireturn, 1) := by decide +kernel
theorem dX4_dueBehind_138 : decode cX4_dueBehind 138 = .ok (.iconst (-1), 1) := by decide +kernel
theorem dX4_dueBehind_139 : decode cX4_dueBehind 139 = .ok (.ireturn, 1) := by decide +kernel
theorem dX4_dueBehindFirst_0 : decode cX4_dueBehindFirst 0 = .ok (.aload_n 0, 1) := by decide +kernel
theorem dX4_dueBehindFirst_1 : decode cX4_dueBehindFirst 1 = .ok (.iconst (-1), 1) := by decide +kernel
theorem dX4_dueBehindFirst_2 : decode cX4_dueBehindFirst 2 = .ok (.putfield 41, 3) := by decide +kernel
theorem dX4_dueBehindFirst_5 : decode cX4_dueBehindFirst 5 = .ok (.aload_n 0, 1) := by decide +kernel
theorem dX4_dueBehindFirst_6 : decode cX4_dueBehindFirst 6 = .ok (.iconst (-1), 1) := by decide +kernel
theorem dX4_dueBehindFirst_7 : decode cX4_dueBehindFirst 7 = .ok (.putfield 44, 3) := by decide +kernel
theorem dX4_dueBehindFirst_10 : decode cX4_dueBehindFirst 10 = .ok (.aload_n 0, 1) := by decide +kernel
theorem dX4_dueBehindFirst_11 : decode cX4_dueBehindFirst 11 = .ok (.iload_n 1, 1) := by decide +kernel
theorem dX4_dueBehindFirst_12 : decode cX4_dueBehindFirst 12 = .ok (.bipush 97, 2) := by decide +kernel
theorem dX4_dueBehindFirst_14 : decode cX4_dueBehindFirst 14 = .ok (.isub, 1) := by decide +kernel
theorem dX4_dueBehindFirst_15 : decode cX4_dueBehindFirst 15 = .ok (.putfield 54, 3) := by decide +kernel
theorem dX4_dueBehindFirst_18 : decode cX4_dueBehindFirst 18 = .ok (.aload_n 0, 1) := by decide +kernel
theorem dX4_dueBehindFirst_19 : decode cX4_dueBehindFirst 19 = .ok (.getfield 54, 3) := by decide +kernel
theorem dX4_dueBehindFirst_22 : decode cX4_dueBehindFirst 22 = .ok (.invokestatic 57, 3) := by decide +kernel
theorem dX4_dueBehindFirst_25 : decode cX4_dueBehindFirst 25 = .ok (.ifCond .eq 11, 3) := by decide +kernel
theorem dX4_dueBehindFirst_28 : decode cX4_dueBehindFirst 28 = .ok (.aload_n 0, 1) := by decide +kernel
theorem dX4_dueBehindFirst_29 : decode cX4_dueBehindFirst 29 = .ok (.bipush 9, 2) := by decide +kernel
theorem dX4_dueBehindFirst_31 : decode cX4_dueBehindFirst 31 = .ok (.putfield 38, 3) := by decide +kernel
theorem dX4_dueBehindFirst_34 : decode cX4_dueBehindFirst 34 = .ok (.iconst 1, 1) := by decide +kernel
theorem dX4_dueBehindFirst_35 : decode cX4_dueBehindFirst 35 = .ok (.ireturn, 1) := by decide +kernel
theorem dX4_dueBehindFirst_36 : decode cX4_dueBehindFirst 36 = .ok (.iload_n 1, 1) := by decide +kernel
theorem dX4_dueBehindFirst_37 : decode cX4_dueBehindFirst 37 = .ok (.bipush 45, 2) := by decide +kernel
theorem dX4_dueBehindFirst_39 : decode cX4_dueBehindFirst 39 = .ok (.if_icmp .ne 11, 3) := by decide +kernel
theorem dX4_dueBehindFirst_42 : decode cX4_dueBehindFirst 42 = .ok (.aload_n 0, 1) := by decide +kernel
theorem dX4_dueBehindFirst_43 : decode cX4_dueBehindFirst 43 = .ok (.bipush 8, 2) := by decide +kernel
theorem dX4_dueBehindFirst_45 : decode cX4_dueBehindFirst 45 = .ok (.putfield 38, 3) := by decide +kernel
theorem dX4_dueBehindFirst_48 : decode cX4_dueBehindFirst 48 = .ok (.iconst 3, 1) := by decide +kernel
theorem dX4_dueBehindFirst_49 : decode cX4_dueBehindFirst 49 = .ok (.ireturn, 1) := by decide +kernel
theorem dX4_dueBehindFirst_50 : decode cX4_dueBehindFirst 50 = .ok (.iload_n 1, 1) := by decide +kernel
theorem dX4_dueBehindFirst_51 : decode cX4_dueBehindFirst 51 = .ok (.bipush 116, 2) := by decide +kernel
theorem dX4_dueBehindFirst_53 : decode cX4_dueBehindFirst 53 = .ok (.if_icmp .eq 15, 3) := by decide +kernel
theorem dX4_dueBehindFirst_56 : decode cX4_dueBehindFirst 56 = .ok (.iload_n 1, 1) := by decide +kernel
theorem dX4_dueBehindFirst_57 : decode cX4_dueBehindFirst 57 = .ok (.bipush 109, 2) := by decide +kernel
theorem dX4_dueBehindFirst_59 : decode cX4_dueBehindFirst 59 = .ok (.if_icmp .eq 9, 3) := by decide +kernel
theorem dX4_dueBehindFirst_62 : decode cX4_dueBehindFirst 62 = .ok (.iload_n 1, 1) := by decide +kernel
theorem dX4_dueBehindFirst_63 : decode cX4_dueBehindFirst 63 = .ok (.bipush 115, 2) := by decide +kernel
theorem dX4_dueBehindFirst_65 : decode cX4_dueBehindFirst 65 = .ok (.if_icmp .ne 33, 3) := by decide +kernel
theorem dX4_dueBehindFirst_68 : decode cX4_dueBehindFirst 68 = .ok (.aload_n 0, 1) := by decide +kernel
theorem dX4_dueBehindFirst_69 : decode cX4_dueBehindFirst 69 = .ok (.iload_n 1, 1) := by decide +kernel
theorem dX4_dueBehindFirst_70 : decode cX4_dueBehindFirst 70 = .ok (.bipush 116, 2) := by decide +kernel
theorem dX4_dueBehindFirst_72 : decode cX4_dueBehindFirst 72 = .ok (.if_icmp .ne 8, 3) := by decide +kernel
theorem dX4_dueBehindFirst_75 : decode cX4_dueBehindFirst 75 = .ok (.bipush 10, 2) := by decide +kernel
theorem dX4_dueBehindFirst_77 : decode cX4_dueBehindFirst 77 = .ok (.goto 16, 3) := by decide +kernel
theorem dX4_dueBehindFirst_80 : decode cX4_dueBehindFirst 80 = .ok (.iload_n 1, 1) := by decide +kernel
theorem dX4_dueBehindFirst_81 : decode cX4_dueBehindFirst 81 = .ok (.bipush 109, 2) := by decide +kernel
theorem dX4_dueBehindFirst_83 : decode cX4_dueBehindFirst 83 = .ok (.if_icmp .ne 8, 3) := by decide +kernel
theorem dX4_dueBehindFirst_86 : decode cX4_dueBehindFirst 86 = .ok (.bipush 11, 2) := by decide +kernel
theorem dX4_dueBehindFirst_88 : decode cX4_dueBehindFirst 88 = .ok (.goto 5, 3) := by decide +kernel
theorem dX4_dueBehindFirst_91 : decode cX4_dueBehindFirst 91 = .ok (.bipush 12, 2) := by decide +kernel
theorem dX4_dueBehindFirst_93 : decode cX4_dueBehindFirst 93 = .ok (.putfield 38, 3) := by decide +kernel
theorem dX4_dueBehindFirst_96 : decode cX4_dueBehindFirst 96 = .ok (.iconst 5, 1) := by decide +kernel
theorem dX4_dueBehindFirst_97 : decode cX4_dueBehindFirst 97 = .ok (.ireturn, 1) := by decide +kernel
theorem dX4_dueBehindFirst_98 : decode cX4_dueBehindFirst 98 = .ok (.aload_n 0, 1) := by decide +kernel
theorem dX4_dueBehindFirst_99 : decode cX4_dueBehindFirst 99 = .ok (.ldc 61, 2) := by decide +kernel
theorem dX4_dueBehindFirst_101 : decode cX4_dueBehindFirst 101 = .ok (.iload_n 1, 1) := by decide +kernel
theorem dX4_dueBehindFirst_102 : decode cX4_dueBehindFirst 102 = .ok (.i2c, 1) := by decide +kernel
theorem dX4_dueBehindFirst_103 : decode cX4_dueBehindFirst 103 = .ok (.invokevirtual 63, 3) := by decide +kernel
theorem dX4_dueBehindFirst_106 : decode cX4_dueBehindFirst 106 = .ok (.putfield 38, 3) := by decide +kernel
theorem dX4_dueBehindFirst_109 : decode cX4_dueBehindFirst 109 = .ok (.aload_n 0, 1) := by decide +kernel
theorem dX4_dueBehindFirst_110 : decode cX4_dueBehindFirst 110 = .ok (.getfield 38, 3) := by decide +kernel
theorem dX4_dueBehindFirst_113 : decode cX4_dueBehindFirst 113 = .ok (.ifCond .le 7, 3) := by decide +kernel
theorem dX4_dueBehindFirst_116 : decode cX4_dueBehindFirst 116 = .ok (.iconst 3, 1) := by decide +kernel
theorem dX4_dueBehindFirst_117 : decode cX4_dueBehindFirst 117 = .ok (.goto 4, 3) := by decide +kernel
theorem dX4_dueBehindFirst_120 : decode cX4_dueBehindFirst 120 = .ok (.iconst (-1), 1) := by decide +kernel
theorem dX4_dueBehindFirst_121 : decode cX4_dueBehindFirst 121 = .ok (.ireturn, 1) := by decide +kernel
theorem dX4_squareIn_0 : decode cX4_squareIn 0 = .ok (.iload_n 1, 1) := by decide +kernel
theorem dX4_squareIn_1 : decode cX4_squareIn 1 = .ok (.bipush 49, 2) := by decide +kernel
theorem dX4_squareIn_3 : decode cX4_squareIn 3 = .ok (.isub, 1) := by decide +kernel
theorem dX4_squareIn_4 : decode cX4_squareIn 4 = .ok (.istore_n 2, 1) := by decide +kernel
theorem dX4_squareIn_5 : decode cX4_squareIn 5 = .ok (.iload_n 2, 1) := by decide +kernel
theorem dX4_squareIn_6 : decode cX4_squareIn 6 = .ok (.invokestatic 57, 3) := by decide +kernel
theorem dX4_squareIn_9 : decode cX4_squareIn 9 = .ok (.ifCond .eq 14, 3) := by decide +kernel
theorem dX4_squareIn_12 : decode cX4_squareIn 12 = .ok (.iload_n 2, 1) := by decide +kernel
theorem dX4_squareIn_13 : decode cX4_squareIn 13 = .ok (.iconst 5, 1) := by decide +kernel
theorem dX4_squareIn_14 : decode cX4_squareIn 14 = .ok (.imul, 1) := by decide +kernel
theorem dX4_squareIn_15 : decode cX4_squareIn 15 = .ok (.aload_n 0, 1) := by decide +kernel
theorem dX4_squareIn_16 : decode cX4_squareIn 16 = .ok (.getfield 54, 3) := by decide +kernel
theorem dX4_squareIn_19 : decode cX4_squareIn 19 = .ok (.iadd, 1) := by decide +kernel
theorem dX4_squareIn_20 : decode cX4_squareIn 20 = .ok (.goto 4, 3) := by decide +kernel
theorem dX4_squareIn_23 : decode cX4_squareIn 23 = .ok (.iconst (-1), 1) := by decide +kernel
theorem dX4_squareIn_24 : decode cX4_squareIn 24 = .ok (.ireturn, 1) := by decide +kernel
theorem dX4_isLine_0 : decode cX4_isLine 0 = .ok (.iload_n 0, 1) := by decide +kernel
theorem dX4_isLine_1 : decode cX4_isLine 1 = .ok (.ifCond .lt 12, 3) := by decide +kernel
theorem dX4_isLine_4 : decode cX4_isLine 4 = .ok (.iload_n 0, 1) := by decide +kernel
theorem dX4_isLine_5 : decode cX4_isLine 5 = .ok (.iconst 5, 1) := by decide +kernel
theorem dX4_isLine_6 : decode cX4_isLine 6 = .ok (.if_icmp .ge 7, 3) := by decide +kernel
theorem dX4_isLine_9 : decode cX4_isLine 9 = .ok (.iconst 1, 1) := by decide +kernel
theorem dX4_isLine_10 : decode cX4_isLine 10 = .ok (.goto 4, 3) := by decide +kernel
theorem dX4_isLine_13 : decode cX4_isLine 13 = .ok (.iconst 0, 1) := by decide +kernel
theorem dX4_isLine_14 : decode cX4_isLine 14 = .ok (.ireturn, 1) := by decide +kernel
theorem dX4_whatOf_0 : decode cX4_whatOf 0 = .ok (.iload_n 1, 1) := by decide +kernel
theorem dX4_whatOf_1 : decode cX4_whatOf 1 = .ok (.ifCond .lt 18, 3) := by decide +kernel
theorem dX4_whatOf_4 : decode cX4_whatOf 4 = .ok (.iload_n 1, 1) := by decide +kernel
theorem dX4_whatOf_5 : decode cX4_whatOf 5 = .ok (.bipush 35, 2) := by decide +kernel
theorem dX4_whatOf_7 : decode cX4_whatOf 7 = .ok (.if_icmp .ge 12, 3) := by decide +kernel
theorem dX4_whatOf_10 : decode cX4_whatOf 10 = .ok (.aload_n 0, 1) := by decide +kernel
theorem dX4_whatOf_11 : decode cX4_whatOf 11 = .ok (.getfield 15, 3) := by decide +kernel
theorem dX4_whatOf_14 : decode cX4_whatOf 14 = .ok (.iload_n 1, 1) := by decide +kernel
theorem dX4_whatOf_15 : decode cX4_whatOf 15 = .ok (.iaload, 1) := by decide +kernel
theorem dX4_whatOf_16 : decode cX4_whatOf 16 = .ok (.goto 4, 3) := by decide +kernel
theorem dX4_whatOf_19 : decode cX4_whatOf 19 = .ok (.iconst (-1), 1) := by decide +kernel
theorem dX4_whatOf_20 : decode cX4_whatOf 20 = .ok (.ireturn, 1) := by decide +kernel
theorem dX4_originOf_0 : decode cX4_originOf 0 = .ok (.iload_n 1, 1) := by decide +kernel
theorem dX4_originOf_1 : decode cX4_originOf 1 = .ok (.ifCond .lt 18, 3) := by decide +kernel
theorem dX4_originOf_4 : decode cX4_originOf 4 = .ok (.iload_n 1, 1) := by decide +kernel
theorem dX4_originOf_5 : decode cX4_originOf 5 = .ok (.bipush 35, 2) := by decide +kernel
theorem dX4_originOf_7 : decode cX4_originOf 7 = .ok (.if_icmp .ge 12, 3) := by decide +kernel
theorem dX4_originOf_10 : decode cX4_originOf 10 = .ok (.aload_n 0, 1) := by decide +kernel
theorem dX4_originOf_11 : decode cX4_originOf 11 = .ok (.getfield 18, 3) := by decide +kernel
theorem dX4_originOf_14 : decode cX4_originOf 14 = .ok (.iload_n 1, 1) := by decide +kernel
theorem dX4_originOf_15 : decode cX4_originOf 15 = .ok (.iaload, 1) := by decide +kernel
theorem dX4_originOf_16 : decode cX4_originOf 16 = .ok (.goto 4, 3) := by decide +kernel
theorem dX4_originOf_19 : decode cX4_originOf 19 = .ok (.iconst (-1), 1) := by decide +kernel
theorem dX4_originOf_20 : decode cX4_originOf 20 = .ok (.ireturn, 1) := by decide +kernel
theorem dX4_squareOf_0 : decode cX4_squareOf 0 = .ok (.iload_n 1, 1) := by decide +kernel
theorem dX4_squareOf_1 : decode cX4_squareOf 1 = .ok (.ifCond .lt 18, 3) := by decide +kernel
theorem dX4_squareOf_4 : decode cX4_squareOf 4 = .ok (.iload_n 1, 1) := by decide +kernel
theorem dX4_squareOf_5 : decode cX4_squareOf 5 = .ok (.bipush 35, 2) := by decide +kernel
theorem dX4_squareOf_7 : decode cX4_squareOf 7 = .ok (.if_icmp .ge 12, 3) := by decide +kernel
theorem dX4_squareOf_10 : decode cX4_squareOf 10 = .ok (.aload_n 0, 1) := by decide +kernel
theorem dX4_squareOf_11 : decode cX4_squareOf 11 = .ok (.getfield 21, 3) := by decide +kernel
theorem dX4_squareOf_14 : decode cX4_squareOf 14 = .ok (.iload_n 1, 1) := by decide +kernel
theorem dX4_squareOf_15 : decode cX4_squareOf 15 = .ok (.iaload, 1) := by decide +kernel
theorem dX4_squareOf_16 : decode cX4_squareOf 16 = .ok (.goto 4, 3) := by decide +kernel
theorem dX4_squareOf_19 : decode cX4_squareOf 19 = .ok (.iconst (-1), 1) := by decide +kernel
theorem dX4_squareOf_20 : decode cX4_squareOf 20 = .ok (.ireturn, 1) := by decide +kernel
