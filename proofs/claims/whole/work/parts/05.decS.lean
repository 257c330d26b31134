/-! the instructions -/
theorem d_S_init_0 : decode b_S_init 0 = .ok (.aload_n 0, 1) := by decide +kernel
theorem d_S_init_1 : decode b_S_init 1 = .ok (.invokespecial 3, 3) := by decide +kernel
theorem d_S_init_4 : decode b_S_init 4 = .ok (.aload_n 0, 1) := by decide +kernel
theorem d_S_init_5 : decode b_S_init 5 = .ok (.iconst 0, 1) := by decide +kernel
theorem d_S_init_6 : decode b_S_init 6 = .ok (.putfield 9, 3) := by decide +kernel
theorem d_S_init_9 : decode b_S_init 9 = .ok (.aload_n 0, 1) := by decide +kernel
theorem d_S_init_10 : decode b_S_init 10 = .ok (.iload_n 2, 1) := by decide +kernel
theorem d_S_init_11 : decode b_S_init 11 = .ok (.newarray .int, 2) := by decide +kernel
theorem d_S_init_13 : decode b_S_init 13 = .ok (.putfield 15, 3) := by decide +kernel
theorem d_S_init_16 : decode b_S_init 16 = .ok (.aload_n 0, 1) := by decide +kernel
theorem d_S_init_17 : decode b_S_init 17 = .ok (.iload_n 1, 1) := by decide +kernel
theorem d_S_init_18 : decode b_S_init 18 = .ok (.iconst 1, 1) := by decide +kernel
theorem d_S_init_19 : decode b_S_init 19 = .ok (.iadd, 1) := by decide +kernel
theorem d_S_init_20 : decode b_S_init 20 = .ok (.newarray .int, 2) := by decide +kernel
theorem d_S_init_22 : decode b_S_init 22 = .ok (.putfield 19, 3) := by decide +kernel
theorem d_S_init_25 : decode b_S_init 25 = .ok (.return_, 1) := by decide +kernel
theorem d_S_clear_0 : decode b_S_clear 0 = .ok (.aload_n 0, 1) := by decide +kernel
theorem d_S_clear_1 : decode b_S_clear 1 = .ok (.iconst 0, 1) := by decide +kernel
theorem d_S_clear_2 : decode b_S_clear 2 = .ok (.putfield 9, 3) := by decide +kernel
theorem d_S_clear_5 : decode b_S_clear 5 = .ok (.return_, 1) := by decide +kernel
theorem d_S_open_0 : decode b_S_open 0 = .ok (.aload_n 0, 1) := by decide +kernel
theorem d_S_open_1 : decode b_S_open 1 = .ok (.getfield 9, 3) := by decide +kernel
theorem d_S_open_4 : decode b_S_open 4 = .ok (.iconst 1, 1) := by decide +kernel
theorem d_S_open_5 : decode b_S_open 5 = .ok (.iadd, 1) := by decide +kernel
theorem d_S_open_6 : decode b_S_open 6 = .ok (.aload_n 0, 1) := by decide +kernel
theorem d_S_open_7 : decode b_S_open 7 = .ok (.getfield 19, 3) := by decide +kernel
theorem d_S_open_10 : decode b_S_open 10 = .ok (.arraylength, 1) := by decide +kernel
theorem d_S_open_11 : decode b_S_open 11 = .ok (.if_icmp .ge 33, 3) := by decide +kernel
theorem d_S_open_14 : decode b_S_open 14 = .ok (.aload_n 0, 1) := by decide +kernel
theorem d_S_open_15 : decode b_S_open 15 = .ok (.getfield 19, 3) := by decide +kernel
theorem d_S_open_18 : decode b_S_open 18 = .ok (.aload_n 0, 1) := by decide +kernel
theorem d_S_open_19 : decode b_S_open 19 = .ok (.getfield 9, 3) := by decide +kernel
theorem d_S_open_22 : decode b_S_open 22 = .ok (.iconst 1, 1) := by decide +kernel
theorem d_S_open_23 : decode b_S_open 23 = .ok (.iadd, 1) := by decide +kernel
theorem d_S_open_24 : decode b_S_open 24 = .ok (.aload_n 0, 1) := by decide +kernel
theorem d_S_open_25 : decode b_S_open 25 = .ok (.getfield 19, 3) := by decide +kernel
theorem d_S_open_28 : decode b_S_open 28 = .ok (.aload_n 0, 1) := by decide +kernel
theorem d_S_open_29 : decode b_S_open 29 = .ok (.getfield 9, 3) := by decide +kernel
theorem d_S_open_32 : decode b_S_open 32 = .ok (.iaload, 1) := by decide +kernel
theorem d_S_open_33 : decode b_S_open 33 = .ok (.iastore, 1) := by decide +kernel
theorem d_S_open_34 : decode b_S_open 34 = .ok (.aload_n 0, 1) := by decide +kernel
theorem d_S_open_35 : decode b_S_open 35 = .ok (.dup, 1) := by decide +kernel
theorem d_S_open_36 : decode b_S_open 36 = .ok (.getfield 9, 3) := by decide +kernel
theorem d_S_open_39 : decode b_S_open 39 = .ok (.iconst 1, 1) := by decide +kernel
theorem d_S_open_40 : decode b_S_open 40 = .ok (.iadd, 1) := by decide +kernel
theorem d_S_open_41 : decode b_S_open 41 = .ok (.putfield 9, 3) := by decide +kernel
theorem d_S_open_44 : decode b_S_open 44 = .ok (.return_, 1) := by decide +kernel
theorem d_S_drop_0 : decode b_S_drop 0 = .ok (.aload_n 0, 1) := by decide +kernel
theorem d_S_drop_1 : decode b_S_drop 1 = .ok (.getfield 9, 3) := by decide +kernel
theorem d_S_drop_4 : decode b_S_drop 4 = .ok (.ifCond .le 13, 3) := by decide +kernel
theorem d_S_drop_7 : decode b_S_drop 7 = .ok (.aload_n 0, 1) := by decide +kernel
theorem d_S_drop_8 : decode b_S_drop 8 = .ok (.dup, 1) := by decide +kernel
theorem d_S_drop_9 : decode b_S_drop 9 = .ok (.getfield 9, 3) := by decide +kernel
theorem d_S_drop_12 : decode b_S_drop 12 = .ok (.iconst 1, 1) := by decide +kernel
theorem d_S_drop_13 : decode b_S_drop 13 = .ok (.isub, 1) := by decide +kernel
theorem d_S_drop_14 : decode b_S_drop 14 = .ok (.putfield 9, 3) := by decide +kernel
theorem d_S_drop_17 : decode b_S_drop 17 = .ok (.return_, 1) := by decide +kernel
theorem d_S_used_0 : decode b_S_used 0 = .ok (.aload_n 0, 1) := by decide +kernel
theorem d_S_used_1 : decode b_S_used 1 = .ok (.getfield 19, 3) := by decide +kernel
theorem d_S_used_4 : decode b_S_used 4 = .ok (.aload_n 0, 1) := by decide +kernel
theorem d_S_used_5 : decode b_S_used 5 = .ok (.getfield 9, 3) := by decide +kernel
theorem d_S_used_8 : decode b_S_used 8 = .ok (.iaload, 1) := by decide +kernel
theorem d_S_used_9 : decode b_S_used 9 = .ok (.ireturn, 1) := by decide +kernel
theorem d_S_startOf_0 : decode b_S_startOf 0 = .ok (.aload_n 0, 1) := by decide +kernel
theorem d_S_startOf_1 : decode b_S_startOf 1 = .ok (.getfield 19, 3) := by decide +kernel
theorem d_S_startOf_4 : decode b_S_startOf 4 = .ok (.iconst 0, 1) := by decide +kernel
theorem d_S_startOf_5 : decode b_S_startOf 5 = .ok (.iload_n 1, 1) := by decide +kernel
theorem d_S_startOf_6 : decode b_S_startOf 6 = .ok (.aload_n 0, 1) := by decide +kernel
theorem d_S_startOf_7 : decode b_S_startOf 7 = .ok (.getfield 9, 3) := by decide +kernel
theorem d_S_startOf_10 : decode b_S_startOf 10 = .ok (.invokestatic 22, 3) := by decide +kernel
theorem d_S_startOf_13 : decode b_S_startOf 13 = .ok (.invokestatic 28, 3) := by decide +kernel
theorem d_S_startOf_16 : decode b_S_startOf 16 = .ok (.iaload, 1) := by decide +kernel
theorem d_S_startOf_17 : decode b_S_startOf 17 = .ok (.ireturn, 1) := by decide +kernel
theorem d_S_size_0 : decode b_S_size 0 = .ok (.aload_n 0, 1) := by decide +kernel
theorem d_S_size_1 : decode b_S_size 1 = .ok (.iload_n 1, 1) := by decide +kernel
theorem d_S_size_2 : decode b_S_size 2 = .ok (.iconst 1, 1) := by decide +kernel
theorem d_S_size_3 : decode b_S_size 3 = .ok (.iadd, 1) := by decide +kernel
theorem d_S_size_4 : decode b_S_size 4 = .ok (.invokevirtual 31, 3) := by decide +kernel
theorem d_S_size_7 : decode b_S_size 7 = .ok (.aload_n 0, 1) := by decide +kernel
theorem d_S_size_8 : decode b_S_size 8 = .ok (.iload_n 1, 1) := by decide +kernel
theorem d_S_size_9 : decode b_S_size 9 = .ok (.invokevirtual 31, 3) := by decide +kernel
theorem d_S_size_12 : decode b_S_size 12 = .ok (.isub, 1) := by decide +kernel
theorem d_S_size_13 : decode b_S_size 13 = .ok (.ireturn, 1) := by decide +kernel
theorem d_S_wordOf_0 : decode b_S_wordOf 0 = .ok (.iload_n 2, 1) := by decide +kernel
theorem d_S_wordOf_1 : decode b_S_wordOf 1 = .ok (.ifCond .lt 12, 3) := by decide +kernel
theorem d_S_wordOf_4 : decode b_S_wordOf 4 = .ok (.iload_n 2, 1) := by decide +kernel
theorem d_S_wordOf_5 : decode b_S_wordOf 5 = .ok (.aload_n 0, 1) := by decide +kernel
theorem d_S_wordOf_6 : decode b_S_wordOf 6 = .ok (.iload_n 1, 1) := by decide +kernel
theorem d_S_wordOf_7 : decode b_S_wordOf 7 = .ok (.invokevirtual 35, 3) := by decide +kernel
theorem d_S_wordOf_10 : decode b_S_wordOf 10 = .ok (.if_icmp .lt 7, 3) := by decide +kernel
theorem d_S_wordOf_13 : decode b_S_wordOf 13 = .ok (.iconst 0, 1) := by decide +kernel
theorem d_S_wordOf_14 : decode b_S_wordOf 14 = .ok (.goto 15, 3) := by decide +kernel
theorem d_S_wordOf_17 : decode b_S_wordOf 17 = .ok (.aload_n 0, 1) := by decide +kernel
theorem d_S_wordOf_18 : decode b_S_wordOf 18 = .ok (.getfield 15, 3) := by decide +kernel
theorem d_S_wordOf_21 : decode b_S_wordOf 21 = .ok (.aload_n 0, 1) := by decide +kernel
theorem d_S_wordOf_22 : decode b_S_wordOf 22 = .ok (.iload_n 1, 1) := by decide +kernel
theorem d_S_wordOf_23 : decode b_S_wordOf 23 = .ok (.invokevirtual 31, 3) := by decide +kernel
theorem d_S_wordOf_26 : decode b_S_wordOf 26 = .ok (.iload_n 2, 1) := by decide +kernel
theorem d_S_wordOf_27 : decode b_S_wordOf 27 = .ok (.iadd, 1) := by decide +kernel
theorem d_S_wordOf_28 : decode b_S_wordOf 28 = .ok (.iaload, 1) := by decide +kernel
theorem d_S_wordOf_29 : decode b_S_wordOf 29 = .ok (.ireturn, 1) := by decide +kernel
theorem d_S_rowsOf_0 : decode b_S_rowsOf 0 = .ok (.iconst 0, 1) := by decide +kernel
theorem d_S_rowsOf_1 : decode b_S_rowsOf 1 = .ok (.istore_n 2, 1) := by decide +kernel
theorem d_S_rowsOf_2 : decode b_S_rowsOf 2 = .ok (.aload_n 0, 1) := by decide +kernel
theorem d_S_rowsOf_3 : decode b_S_rowsOf 3 = .ok (.iload_n 1, 1) := by decide +kernel
theorem d_S_rowsOf_4 : decode b_S_rowsOf 4 = .ok (.iconst 1, 1) := by decide +kernel
theorem d_S_rowsOf_5 : decode b_S_rowsOf 5 = .ok (.iadd, 1) := by decide +kernel
theorem d_S_rowsOf_6 : decode b_S_rowsOf 6 = .ok (.invokevirtual 31, 3) := by decide +kernel
theorem d_S_rowsOf_9 : decode b_S_rowsOf 9 = .ok (.istore_n 3, 1) := by decide +kernel
theorem d_S_rowsOf_10 : decode b_S_rowsOf 10 = .ok (.aload_n 0, 1) := by decide +kernel
theorem d_S_rowsOf_11 : decode b_S_rowsOf 11 = .ok (.iload_n 1, 1) := by decide +kernel
theorem d_S_rowsOf_12 : decode b_S_rowsOf 12 = .ok (.invokevirtual 31, 3) := by decide +kernel
theorem d_S_rowsOf_15 : decode b_S_rowsOf 15 = .ok (.istore 4, 2) := by decide +kernel
theorem d_S_rowsOf_17 : decode b_S_rowsOf 17 = .ok (.iload 4, 2) := by decide +kernel
theorem d_S_rowsOf_19 : decode b_S_rowsOf 19 = .ok (.iload_n 3, 1) := by decide +kernel
theorem d_S_rowsOf_20 : decode b_S_rowsOf 20 = .ok (.if_icmp .ge 36, 3) := by decide +kernel
theorem d_S_rowsOf_23 : decode b_S_rowsOf 23 = .ok (.iload_n 2, 1) := by decide +kernel
theorem d_S_rowsOf_24 : decode b_S_rowsOf 24 = .ok (.aload_n 0, 1) := by decide +kernel
theorem d_S_rowsOf_25 : decode b_S_rowsOf 25 = .ok (.getfield 15, 3) := by decide +kernel
theorem d_S_rowsOf_28 : decode b_S_rowsOf 28 = .ok (.iload 4, 2) := by decide +kernel
theorem d_S_rowsOf_30 : decode b_S_rowsOf 30 = .ok (.iaload, 1) := by decide +kernel
theorem d_S_rowsOf_31 : decode b_S_rowsOf 31 = .ok (.invokestatic 38, 3) := by decide +kernel
theorem d_S_rowsOf_34 : decode b_S_rowsOf 34 = .ok (.invokestatic 41, 3) := by decide +kernel
theorem d_S_rowsOf_37 : decode b_S_rowsOf 37 = .ok (.aload_n 0, 1) := by decide +kernel
theorem d_S_rowsOf_38 : decode b_S_rowsOf 38 = .ok (.getfield 15, 3) := by decide +kernel
theorem d_S_rowsOf_41 : decode b_S_rowsOf 41 = .ok (.iload 4, 2) := by decide +kernel
theorem d_S_rowsOf_43 : decode b_S_rowsOf 43 = .ok (.iaload, 1) := by decide +kernel
theorem d_S_rowsOf_44 : decode b_S_rowsOf 44 = .ok (.invokestatic 46, 3) := by decide +kernel
theorem d_S_rowsOf_47 : decode b_S_rowsOf 47 = .ok (.imul, 1) := by decide +kernel
theorem d_S_rowsOf_48 : decode b_S_rowsOf 48 = .ok (.iadd, 1) := by decide +kernel
theorem d_S_rowsOf_49 : decode b_S_rowsOf 49 = .ok (.istore_n 2, 1) := by decide +kernel
theorem d_S_rowsOf_50 : decode b_S_rowsOf 50 = .ok (.iinc 4 1, 3) := by decide +kernel
theorem d_S_rowsOf_53 : decode b_S_rowsOf 53 = .ok (.goto (-36), 3) := by decide +kernel
theorem d_S_rowsOf_56 : decode b_S_rowsOf 56 = .ok (.iload_n 2, 1) := by decide +kernel
theorem d_S_rowsOf_57 : decode b_S_rowsOf 57 = .ok (.ireturn, 1) := by decide +kernel
theorem d_S_firstFrom_0 : decode b_S_firstFrom 0 = .ok (.aload_n 0, 1) := by decide +kernel
theorem d_S_firstFrom_1 : decode b_S_firstFrom 1 = .ok (.iload_n 1, 1) := by decide +kernel
theorem d_S_firstFrom_2 : decode b_S_firstFrom 2 = .ok (.iconst 1, 1) := by decide +kernel
theorem d_S_firstFrom_3 : decode b_S_firstFrom 3 = .ok (.iadd, 1) := by decide +kernel
theorem d_S_firstFrom_4 : decode b_S_firstFrom 4 = .ok (.invokevirtual 31, 3) := by decide +kernel
theorem d_S_firstFrom_7 : decode b_S_firstFrom 7 = .ok (.istore_n 3, 1) := by decide +kernel
theorem d_S_firstFrom_8 : decode b_S_firstFrom 8 = .ok (.iconst 0, 1) := by decide +kernel
theorem d_S_firstFrom_9 : decode b_S_firstFrom 9 = .ok (.istore 4, 2) := by decide +kernel
theorem d_S_firstFrom_11 : decode b_S_firstFrom 11 = .ok (.aload_n 0, 1) := by decide +kernel
theorem d_S_firstFrom_12 : decode b_S_firstFrom 12 = .ok (.iload_n 1, 1) := by decide +kernel
theorem d_S_firstFrom_13 : decode b_S_firstFrom 13 = .ok (.invokevirtual 31, 3) := by decide +kernel
theorem d_S_firstFrom_16 : decode b_S_firstFrom 16 = .ok (.istore 5, 2) := by decide +kernel
theorem d_S_firstFrom_18 : decode b_S_firstFrom 18 = .ok (.iload 5, 2) := by decide +kernel
theorem d_S_firstFrom_20 : decode b_S_firstFrom 20 = .ok (.iload_n 3, 1) := by decide +kernel
theorem d_S_firstFrom_21 : decode b_S_firstFrom 21 = .ok (.if_icmp .ge 72, 3) := by decide +kernel
theorem d_S_firstFrom_24 : decode b_S_firstFrom 24 = .ok (.iload 4, 2) := by decide +kernel
theorem d_S_firstFrom_26 : decode b_S_firstFrom 26 = .ok (.aload_n 0, 1) := by decide +kernel
theorem d_S_firstFrom_27 : decode b_S_firstFrom 27 = .ok (.getfield 15, 3) := by decide +kernel
theorem d_S_firstFrom_30 : decode b_S_firstFrom 30 = .ok (.iload 5, 2) := by decide +kernel
theorem d_S_firstFrom_32 : decode b_S_firstFrom 32 = .ok (.iaload, 1) := by decide +kernel
theorem d_S_firstFrom_33 : decode b_S_firstFrom 33 = .ok (.invokestatic 46, 3) := by decide +kernel
theorem d_S_firstFrom_36 : decode b_S_firstFrom 36 = .ok (.bipush 31, 2) := by decide +kernel
theorem d_S_firstFrom_38 : decode b_S_firstFrom 38 = .ok (.imul, 1) := by decide +kernel
theorem d_S_firstFrom_39 : decode b_S_firstFrom 39 = .ok (.iadd, 1) := by decide +kernel
theorem d_S_firstFrom_40 : decode b_S_firstFrom 40 = .ok (.istore 6, 2) := by decide +kernel
theorem d_S_firstFrom_42 : decode b_S_firstFrom 42 = .ok (.iload_n 2, 1) := by decide +kernel
theorem d_S_firstFrom_43 : decode b_S_firstFrom 43 = .ok (.iload 6, 2) := by decide +kernel
theorem d_S_firstFrom_45 : decode b_S_firstFrom 45 = .ok (.if_icmp .ge 24, 3) := by decide +kernel
theorem d_S_firstFrom_48 : decode b_S_firstFrom 48 = .ok (.aload_n 0, 1) := by decide +kernel
theorem d_S_firstFrom_49 : decode b_S_firstFrom 49 = .ok (.getfield 15, 3) := by decide +kernel
theorem d_S_firstFrom_52 : decode b_S_firstFrom 52 = .ok (.iload 5, 2) := by decide +kernel
theorem d_S_firstFrom_54 : decode b_S_firstFrom 54 = .ok (.iaload, 1) := by decide +kernel
theorem d_S_firstFrom_55 : decode b_S_firstFrom 55 = .ok (.iload_n 2, 1) := by decide +kernel
theorem d_S_firstFrom_56 : decode b_S_firstFrom 56 = .ok (.iload 4, 2) := by decide +kernel
theorem d_S_firstFrom_58 : decode b_S_firstFrom 58 = .ok (.isub, 1) := by decide +kernel
theorem d_S_firstFrom_59 : decode b_S_firstFrom 59 = .ok (.iconst 0, 1) := by decide +kernel
theorem d_S_firstFrom_60 : decode b_S_firstFrom 60 = .ok (.invokestatic 28, 3) := by decide +kernel
theorem d_S_firstFrom_63 : decode b_S_firstFrom 63 = .ok (.invokestatic 49, 3) := by decide +kernel
theorem d_S_firstFrom_66 : decode b_S_firstFrom 66 = .ok (.goto 4, 3) := by decide +kernel
theorem d_S_firstFrom_69 : decode b_S_firstFrom 69 = .ok (.iconst (-1), 1) := by decide +kernel
theorem d_S_firstFrom_70 : decode b_S_firstFrom 70 = .ok (.istore 7, 2) := by decide +kernel
theorem d_S_firstFrom_72 : decode b_S_firstFrom 72 = .ok (.iload 7, 2) := by decide +kernel
theorem d_S_firstFrom_74 : decode b_S_firstFrom 74 = .ok (.ifCond .lt 9, 3) := by decide +kernel
theorem d_S_firstFrom_77 : decode b_S_firstFrom 77 = .ok (.iload 4, 2) := by decide +kernel
theorem d_S_firstFrom_79 : decode b_S_firstFrom 79 = .ok (.iload 7, 2) := by decide +kernel
theorem d_S_firstFrom_81 : decode b_S_firstFrom 81 = .ok (.iadd, 1) := by decide +kernel
theorem d_S_firstFrom_82 : decode b_S_firstFrom 82 = .ok (.ireturn, 1) := by decide +kernel
theorem d_S_firstFrom_83 : decode b_S_firstFrom 83 = .ok (.iload 6, 2) := by decide +kernel
theorem d_S_firstFrom_85 : decode b_S_firstFrom 85 = .ok (.istore 4, 2) := by decide +kernel
theorem d_S_firstFrom_87 : decode b_S_firstFrom 87 = .ok (.iinc 5 1, 3) := by decide +kernel
theorem d_S_firstFrom_90 : decode b_S_firstFrom 90 = .ok (.goto (-72), 3) := by decide +kernel
theorem d_S_firstFrom_93 : decode b_S_firstFrom 93 = .ok (.iconst (-1), 1) := by decide +kernel
theorem d_S_firstFrom_94 : decode b_S_firstFrom 94 = .ok (.ireturn, 1) := by decide +kernel
theorem d_S_firstInWord_0 : decode b_S_firstInWord 0 = .ok (.iload_n 0, 1) := by decide +kernel
theorem d_S_firstInWord_1 : decode b_S_firstInWord 1 = .ok (.invokestatic 38, 3) := by decide +kernel
theorem d_S_firstInWord_4 : decode b_S_firstInWord 4 = .ok (.istore_n 2, 1) := by decide +kernel
theorem d_S_firstInWord_5 : decode b_S_firstInWord 5 = .ok (.iload_n 2, 1) := by decide +kernel
theorem d_S_firstInWord_6 : decode b_S_firstInWord 6 = .ok (.ldc 52, 2) := by decide +kernel
theorem d_S_firstInWord_8 : decode b_S_firstInWord 8 = .ok (.if_icmp .ne 5, 3) := by decide +kernel
theorem d_S_firstInWord_11 : decode b_S_firstInWord 11 = .ok (.iload_n 1, 1) := by decide +kernel
theorem d_S_firstInWord_12 : decode b_S_firstInWord 12 = .ok (.ireturn, 1) := by decide +kernel
theorem d_S_firstInWord_13 : decode b_S_firstInWord 13 = .ok (.iload_n 2, 1) := by decide +kernel
theorem d_S_firstInWord_14 : decode b_S_firstInWord 14 = .ok (.iload_n 1, 1) := by decide +kernel
theorem d_S_firstInWord_15 : decode b_S_firstInWord 15 = .ok (.invokestatic 53, 3) := by decide +kernel
theorem d_S_firstInWord_18 : decode b_S_firstInWord 18 = .ok (.iconst (-1), 1) := by decide +kernel
theorem d_S_firstInWord_19 : decode b_S_firstInWord 19 = .ok (.ixor, 1) := by decide +kernel
theorem d_S_firstInWord_20 : decode b_S_firstInWord 20 = .ok (.iand, 1) := by decide +kernel
theorem d_S_firstInWord_21 : decode b_S_firstInWord 21 = .ok (.istore_n 3, 1) := by decide +kernel
theorem d_S_firstInWord_22 : decode b_S_firstInWord 22 = .ok (.iload_n 3, 1) := by decide +kernel
theorem d_S_firstInWord_23 : decode b_S_firstInWord 23 = .ok (.ifCond .ne 7, 3) := by decide +kernel
theorem d_S_firstInWord_26 : decode b_S_firstInWord 26 = .ok (.iconst (-1), 1) := by decide +kernel
theorem d_S_firstInWord_27 : decode b_S_firstInWord 27 = .ok (.goto 7, 3) := by decide +kernel
theorem d_S_firstInWord_30 : decode b_S_firstInWord 30 = .ok (.iload_n 3, 1) := by decide +kernel
theorem d_S_firstInWord_31 : decode b_S_firstInWord 31 = .ok (.invokestatic 56, 3) := by decide +kernel
theorem d_S_firstInWord_34 : decode b_S_firstInWord 34 = .ok (.ireturn, 1) := by decide +kernel
theorem d_S_addSet_0 : decode b_S_addSet 0 = .ok (.aload_n 1, 1) := by decide +kernel
theorem d_S_addSet_1 : decode b_S_addSet 1 = .ok (.iload_n 2, 1) := by decide +kernel
theorem d_S_addSet_2 : decode b_S_addSet 2 = .ok (.invokevirtual 35, 3) := by decide +kernel
theorem d_S_addSet_5 : decode b_S_addSet 5 = .ok (.istore_n 3, 1) := by decide +kernel
theorem d_S_addSet_6 : decode b_S_addSet 6 = .ok (.aload_n 0, 1) := by decide +kernel
theorem d_S_addSet_7 : decode b_S_addSet 7 = .ok (.getfield 9, 3) := by decide +kernel
theorem d_S_addSet_10 : decode b_S_addSet 10 = .ok (.ifCond .le 51, 3) := by decide +kernel
theorem d_S_addSet_13 : decode b_S_addSet 13 = .ok (.iload_n 3, 1) := by decide +kernel
theorem d_S_addSet_14 : decode b_S_addSet 14 = .ok (.aload_n 0, 1) := by decide +kernel
theorem d_S_addSet_15 : decode b_S_addSet 15 = .ok (.getfield 15, 3) := by decide +kernel
theorem d_S_addSet_18 : decode b_S_addSet 18 = .ok (.arraylength, 1) := by decide +kernel
theorem d_S_addSet_19 : decode b_S_addSet 19 = .ok (.aload_n 0, 1) := by decide +kernel
theorem d_S_addSet_20 : decode b_S_addSet 20 = .ok (.invokevirtual 59, 3) := by decide +kernel
theorem d_S_addSet_23 : decode b_S_addSet 23 = .ok (.isub, 1) := by decide +kernel
theorem d_S_addSet_24 : decode b_S_addSet 24 = .ok (.if_icmp .gt 37, 3) := by decide +kernel
theorem d_S_addSet_27 : decode b_S_addSet 27 = .ok (.aload_n 1, 1) := by decide +kernel
theorem d_S_addSet_28 : decode b_S_addSet 28 = .ok (.getfield 15, 3) := by decide +kernel
theorem d_S_addSet_31 : decode b_S_addSet 31 = .ok (.aload_n 1, 1) := by decide +kernel
theorem d_S_addSet_32 : decode b_S_addSet 32 = .ok (.iload_n 2, 1) := by decide +kernel
theorem d_S_addSet_33 : decode b_S_addSet 33 = .ok (.invokevirtual 31, 3) := by decide +kernel
theorem d_S_addSet_36 : decode b_S_addSet 36 = .ok (.aload_n 0, 1) := by decide +kernel
theorem d_S_addSet_37 : decode b_S_addSet 37 = .ok (.getfield 15, 3) := by decide +kernel
theorem d_S_addSet_40 : decode b_S_addSet 40 = .ok (.aload_n 0, 1) := by decide +kernel
theorem d_S_addSet_41 : decode b_S_addSet 41 = .ok (.invokevirtual 59, 3) := by decide +kernel
theorem d_S_addSet_44 : decode b_S_addSet 44 = .ok (.iload_n 3, 1) := by decide +kernel
theorem d_S_addSet_45 : decode b_S_addSet 45 = .ok (.invokestatic 63, 3) := by decide +kernel
theorem d_S_addSet_48 : decode b_S_addSet 48 = .ok (.aload_n 0, 1) := by decide +kernel
theorem d_S_addSet_49 : decode b_S_addSet 49 = .ok (.getfield 19, 3) := by decide +kernel
theorem d_S_addSet_52 : decode b_S_addSet 52 = .ok (.aload_n 0, 1) := by decide +kernel
theorem d_S_addSet_53 : decode b_S_addSet 53 = .ok (.getfield 9, 3) := by decide +kernel
theorem d_S_addSet_56 : decode b_S_addSet 56 = .ok (.dup2, 1) := by decide +kernel
theorem d_S_addSet_57 : decode b_S_addSet 57 = .ok (.iaload, 1) := by decide +kernel
theorem d_S_addSet_58 : decode b_S_addSet 58 = .ok (.iload_n 3, 1) := by decide +kernel
theorem d_S_addSet_59 : decode b_S_addSet 59 = .ok (.iadd, 1) := by decide +kernel
theorem d_S_addSet_60 : decode b_S_addSet 60 = .ok (.iastore, 1) := by decide +kernel
theorem d_S_addSet_61 : decode b_S_addSet 61 = .ok (.return_, 1) := by decide +kernel
theorem d_S_addRows_0 : decode b_S_addRows 0 = .ok (.iload_n 1, 1) := by decide +kernel
theorem d_S_addRows_1 : decode b_S_addRows 1 = .ok (.ifCond .eq 8, 3) := by decide +kernel
theorem d_S_addRows_4 : decode b_S_addRows 4 = .ok (.ldc 52, 2) := by decide +kernel
theorem d_S_addRows_6 : decode b_S_addRows 6 = .ok (.goto 4, 3) := by decide +kernel
theorem d_S_addRows_9 : decode b_S_addRows 9 = .ok (.iconst 0, 1) := by decide +kernel
theorem d_S_addRows_10 : decode b_S_addRows 10 = .ok (.istore 4, 2) := by decide +kernel
theorem d_S_addRows_12 : decode b_S_addRows 12 = .ok (.iload_n 3, 1) := by decide +kernel
theorem d_S_addRows_13 : decode b_S_addRows 13 = .ok (.istore 5, 2) := by decide +kernel
theorem d_S_addRows_15 : decode b_S_addRows 15 = .ok (.iload_n 2, 1) := by decide +kernel
theorem d_S_addRows_16 : decode b_S_addRows 16 = .ok (.ifCond .le 40, 3) := by decide +kernel
theorem d_S_addRows_19 : decode b_S_addRows 19 = .ok (.bipush 31, 2) := by decide +kernel
theorem d_S_addRows_21 : decode b_S_addRows 21 = .ok (.iload_n 2, 1) := by decide +kernel
theorem d_S_addRows_22 : decode b_S_addRows 22 = .ok (.isub, 1) := by decide +kernel
theorem d_S_addRows_23 : decode b_S_addRows 23 = .ok (.iload_n 3, 1) := by decide +kernel
theorem d_S_addRows_24 : decode b_S_addRows 24 = .ok (.invokestatic 22, 3) := by decide +kernel
theorem d_S_addRows_27 : decode b_S_addRows 27 = .ok (.istore 6, 2) := by decide +kernel
theorem d_S_addRows_29 : decode b_S_addRows 29 = .ok (.aload_n 0, 1) := by decide +kernel
theorem d_S_addRows_30 : decode b_S_addRows 30 = .ok (.aload_n 0, 1) := by decide +kernel
theorem d_S_addRows_31 : decode b_S_addRows 31 = .ok (.invokevirtual 69, 3) := by decide +kernel
theorem d_S_addRows_34 : decode b_S_addRows 34 = .ok (.iload 4, 2) := by decide +kernel
theorem d_S_addRows_36 : decode b_S_addRows 36 = .ok (.iload 6, 2) := by decide +kernel
theorem d_S_addRows_38 : decode b_S_addRows 38 = .ok (.invokestatic 53, 3) := by decide +kernel
theorem d_S_addRows_41 : decode b_S_addRows 41 = .ok (.iand, 1) := by decide +kernel
theorem d_S_addRows_42 : decode b_S_addRows 42 = .ok (.iload_n 2, 1) := by decide +kernel
theorem d_S_addRows_43 : decode b_S_addRows 43 = .ok (.ishl, 1) := by decide +kernel
theorem d_S_addRows_44 : decode b_S_addRows 44 = .ok (.ior, 1) := by decide +kernel
theorem d_S_addRows_45 : decode b_S_addRows 45 = .ok (.iconst 1, 1) := by decide +kernel
theorem d_S_addRows_46 : decode b_S_addRows 46 = .ok (.invokevirtual 72, 3) := by decide +kernel
theorem d_S_addRows_49 : decode b_S_addRows 49 = .ok (.iload 5, 2) := by decide +kernel
theorem d_S_addRows_51 : decode b_S_addRows 51 = .ok (.iload 6, 2) := by decide +kernel
theorem d_S_addRows_53 : decode b_S_addRows 53 = .ok (.isub, 1) := by decide +kernel
theorem d_S_addRows_54 : decode b_S_addRows 54 = .ok (.istore 5, 2) := by decide +kernel
theorem d_S_addRows_56 : decode b_S_addRows 56 = .ok (.aload_n 0, 1) := by decide +kernel
theorem d_S_addRows_57 : decode b_S_addRows 57 = .ok (.iload 4, 2) := by decide +kernel
theorem d_S_addRows_59 : decode b_S_addRows 59 = .ok (.iload 5, 2) := by decide +kernel
theorem d_S_addRows_61 : decode b_S_addRows 61 = .ok (.bipush 31, 2) := by decide +kernel
theorem d_S_addRows_63 : decode b_S_addRows 63 = .ok (.idiv, 1) := by decide +kernel
theorem d_S_addRows_64 : decode b_S_addRows 64 = .ok (.invokevirtual 72, 3) := by decide +kernel
theorem d_S_addRows_67 : decode b_S_addRows 67 = .ok (.iload 5, 2) := by decide +kernel
theorem d_S_addRows_69 : decode b_S_addRows 69 = .ok (.bipush 31, 2) := by decide +kernel
theorem d_S_addRows_71 : decode b_S_addRows 71 = .ok (.irem, 1) := by decide +kernel
theorem d_S_addRows_72 : decode b_S_addRows 72 = .ok (.ifCond .le 19, 3) := by decide +kernel
theorem d_S_addRows_75 : decode b_S_addRows 75 = .ok (.aload_n 0, 1) := by decide +kernel
theorem d_S_addRows_76 : decode b_S_addRows 76 = .ok (.iload 4, 2) := by decide +kernel
theorem d_S_addRows_78 : decode b_S_addRows 78 = .ok (.iload 5, 2) := by decide +kernel
theorem d_S_addRows_80 : decode b_S_addRows 80 = .ok (.bipush 31, 2) := by decide +kernel
theorem d_S_addRows_82 : decode b_S_addRows 82 = .ok (.irem, 1) := by decide +kernel
theorem d_S_addRows_83 : decode b_S_addRows 83 = .ok (.invokestatic 53, 3) := by decide +kernel
theorem d_S_addRows_86 : decode b_S_addRows 86 = .ok (.iand, 1) := by decide +kernel
theorem d_S_addRows_87 : decode b_S_addRows 87 = .ok (.iconst 1, 1) := by decide +kernel
theorem d_S_addRows_88 : decode b_S_addRows 88 = .ok (.invokevirtual 72, 3) := by decide +kernel
theorem d_S_addRows_91 : decode b_S_addRows 91 = .ok (.return_, 1) := by decide +kernel
theorem d_S_addJoined_0 : decode b_S_addJoined 0 = .ok (.aload_n 1, 1) := by decide +kernel
theorem d_S_addJoined_1 : decode b_S_addJoined 1 = .ok (.iload_n 2, 1) := by decide +kernel
theorem d_S_addJoined_2 : decode b_S_addJoined 2 = .ok (.invokevirtual 31, 3) := by decide +kernel
theorem d_S_addJoined_5 : decode b_S_addJoined 5 = .ok (.istore 5, 2) := by decide +kernel
theorem d_S_addJoined_7 : decode b_S_addJoined 7 = .ok (.aload_n 1, 1) := by decide +kernel
theorem d_S_addJoined_8 : decode b_S_addJoined 8 = .ok (.iload_n 3, 1) := by decide +kernel
theorem d_S_addJoined_9 : decode b_S_addJoined 9 = .ok (.invokevirtual 31, 3) := by decide +kernel
theorem d_S_addJoined_12 : decode b_S_addJoined 12 = .ok (.istore 6, 2) := by decide +kernel
theorem d_S_addJoined_14 : decode b_S_addJoined 14 = .ok (.aload_n 1, 1) := by decide +kernel
theorem d_S_addJoined_15 : decode b_S_addJoined 15 = .ok (.iload_n 2, 1) := by decide +kernel
theorem d_S_addJoined_16 : decode b_S_addJoined 16 = .ok (.iconst 1, 1) := by decide +kernel
theorem d_S_addJoined_17 : decode b_S_addJoined 17 = .ok (.iadd, 1) := by decide +kernel
theorem d_S_addJoined_18 : decode b_S_addJoined 18 = .ok (.invokevirtual 31, 3) := by decide +kernel
theorem d_S_addJoined_21 : decode b_S_addJoined 21 = .ok (.istore 7, 2) := by decide +kernel
theorem d_S_addJoined_23 : decode b_S_addJoined 23 = .ok (.aload_n 1, 1) := by decide +kernel
theorem d_S_addJoined_24 : decode b_S_addJoined 24 = .ok (.iload_n 3, 1) := by decide +kernel
theorem d_S_addJoined_25 : decode b_S_addJoined 25 = .ok (.iconst 1, 1) := by decide +kernel
theorem d_S_addJoined_26 : decode b_S_addJoined 26 = .ok (.iadd, 1) := by decide +kernel
theorem d_S_addJoined_27 : decode b_S_addJoined 27 = .ok (.invokevirtual 31, 3) := by decide +kernel
theorem d_S_addJoined_30 : decode b_S_addJoined 30 = .ok (.istore 8, 2) := by decide +kernel
theorem d_S_addJoined_32 : decode b_S_addJoined 32 = .ok (.aload_n 1, 1) := by decide +kernel
theorem d_S_addJoined_33 : decode b_S_addJoined 33 = .ok (.iload 5, 2) := by decide +kernel
theorem d_S_addJoined_35 : decode b_S_addJoined 35 = .ok (.invokevirtual 76, 3) := by decide +kernel
theorem d_S_addJoined_38 : decode b_S_addJoined 38 = .ok (.istore 9, 2) := by decide +kernel
theorem d_S_addJoined_40 : decode b_S_addJoined 40 = .ok (.aload_n 1, 1) := by decide +kernel
theorem d_S_addJoined_41 : decode b_S_addJoined 41 = .ok (.iload 6, 2) := by decide +kernel
theorem d_S_addJoined_43 : decode b_S_addJoined 43 = .ok (.invokevirtual 76, 3) := by decide +kernel
theorem d_S_addJoined_46 : decode b_S_addJoined 46 = .ok (.istore 10, 2) := by decide +kernel
theorem d_S_addJoined_48 : decode b_S_addJoined 48 = .ok (.iload 7, 2) := by decide +kernel
theorem d_S_addJoined_50 : decode b_S_addJoined 50 = .ok (.iload 5, 2) := by decide +kernel
theorem d_S_addJoined_52 : decode b_S_addJoined 52 = .ok (.isub, 1) := by decide +kernel
theorem d_S_addJoined_53 : decode b_S_addJoined 53 = .ok (.iload 8, 2) := by decide +kernel
theorem d_S_addJoined_55 : decode b_S_addJoined 55 = .ok (.iadd, 1) := by decide +kernel
theorem d_S_addJoined_56 : decode b_S_addJoined 56 = .ok (.iload 6, 2) := by decide +kernel
theorem d_S_addJoined_58 : decode b_S_addJoined 58 = .ok (.isub, 1) := by decide +kernel
theorem d_S_addJoined_59 : decode b_S_addJoined 59 = .ok (.istore 11, 2) := by decide +kernel
theorem d_S_addJoined_61 : decode b_S_addJoined 61 = .ok (.iconst 0, 1) := by decide +kernel
theorem d_S_addJoined_62 : decode b_S_addJoined 62 = .ok (.istore 12, 2) := by decide +kernel
theorem d_S_addJoined_64 : decode b_S_addJoined 64 = .ok (.iload 12, 2) := by decide +kernel
theorem d_S_addJoined_66 : decode b_S_addJoined 66 = .ok (.iload 11, 2) := by decide +kernel
theorem d_S_addJoined_68 : decode b_S_addJoined 68 = .ok (.if_icmp .ge 109, 3) := by decide +kernel
theorem d_S_addJoined_71 : decode b_S_addJoined 71 = .ok (.iload 5, 2) := by decide +kernel
theorem d_S_addJoined_73 : decode b_S_addJoined 73 = .ok (.iload 7, 2) := by decide +kernel
theorem d_S_addJoined_75 : decode b_S_addJoined 75 = .ok (.if_icmp .ge 102, 3) := by decide +kernel
theorem d_S_addJoined_78 : decode b_S_addJoined 78 = .ok (.iload 6, 2) := by decide +kernel
theorem d_S_addJoined_80 : decode b_S_addJoined 80 = .ok (.iload 8, 2) := by decide +kernel
theorem d_S_addJoined_82 : decode b_S_addJoined 82 = .ok (.if_icmp .ge 95, 3) := by decide +kernel
theorem d_S_addJoined_85 : decode b_S_addJoined 85 = .ok (.iload 9, 2) := by decide +kernel
theorem d_S_addJoined_87 : decode b_S_addJoined 87 = .ok (.iload 10, 2) := by decide +kernel
theorem d_S_addJoined_89 : decode b_S_addJoined 89 = .ok (.invokestatic 22, 3) := by decide +kernel
theorem d_S_addJoined_92 : decode b_S_addJoined 92 = .ok (.istore 13, 2) := by decide +kernel
theorem d_S_addJoined_94 : decode b_S_addJoined 94 = .ok (.aload_n 0, 1) := by decide +kernel
theorem d_S_addJoined_95 : decode b_S_addJoined 95 = .ok (.iload 4, 2) := by decide +kernel
theorem d_S_addJoined_97 : decode b_S_addJoined 97 = .ok (.aload_n 1, 1) := by decide +kernel
theorem d_S_addJoined_98 : decode b_S_addJoined 98 = .ok (.getfield 15, 3) := by decide +kernel
theorem d_S_addJoined_101 : decode b_S_addJoined 101 = .ok (.iload 5, 2) := by decide +kernel
theorem d_S_addJoined_103 : decode b_S_addJoined 103 = .ok (.iaload, 1) := by decide +kernel
theorem d_S_addJoined_104 : decode b_S_addJoined 104 = .ok (.invokestatic 38, 3) := by decide +kernel
theorem d_S_addJoined_107 : decode b_S_addJoined 107 = .ok (.aload_n 1, 1) := by decide +kernel
theorem d_S_addJoined_108 : decode b_S_addJoined 108 = .ok (.getfield 15, 3) := by decide +kernel
theorem d_S_addJoined_111 : decode b_S_addJoined 111 = .ok (.iload 6, 2) := by decide +kernel
theorem d_S_addJoined_113 : decode b_S_addJoined 113 = .ok (.iaload, 1) := by decide +kernel
theorem d_S_addJoined_114 : decode b_S_addJoined 114 = .ok (.invokestatic 38, 3) := by decide +kernel
theorem d_S_addJoined_117 : decode b_S_addJoined 117 = .ok (.invokestatic 79, 3) := by decide +kernel
theorem d_S_addJoined_120 : decode b_S_addJoined 120 = .ok (.iload 13, 2) := by decide +kernel
theorem d_S_addJoined_122 : decode b_S_addJoined 122 = .ok (.invokevirtual 72, 3) := by decide +kernel
theorem d_S_addJoined_125 : decode b_S_addJoined 125 = .ok (.iload 9, 2) := by decide +kernel
theorem d_S_addJoined_127 : decode b_S_addJoined 127 = .ok (.iload 13, 2) := by decide +kernel
theorem d_S_addJoined_129 : decode b_S_addJoined 129 = .ok (.isub, 1) := by decide +kernel
theorem d_S_addJoined_130 : decode b_S_addJoined 130 = .ok (.istore 9, 2) := by decide +kernel
theorem d_S_addJoined_132 : decode b_S_addJoined 132 = .ok (.iload 10, 2) := by decide +kernel
theorem d_S_addJoined_134 : decode b_S_addJoined 134 = .ok (.iload 13, 2) := by decide +kernel
theorem d_S_addJoined_136 : decode b_S_addJoined 136 = .ok (.isub, 1) := by decide +kernel
theorem d_S_addJoined_137 : decode b_S_addJoined 137 = .ok (.istore 10, 2) := by decide +kernel
theorem d_S_addJoined_139 : decode b_S_addJoined 139 = .ok (.iload 9, 2) := by decide +kernel
theorem d_S_addJoined_141 : decode b_S_addJoined 141 = .ok (.ifCond .ne 14, 3) := by decide +kernel
theorem d_S_addJoined_144 : decode b_S_addJoined 144 = .ok (.iinc 5 1, 3) := by decide +kernel
theorem d_S_addJoined_147 : decode b_S_addJoined 147 = .ok (.aload_n 1, 1) := by decide +kernel
theorem d_S_addJoined_148 : decode b_S_addJoined 148 = .ok (.iload 5, 2) := by decide +kernel
theorem d_S_addJoined_150 : decode b_S_addJoined 150 = .ok (.invokevirtual 76, 3) := by decide +kernel
theorem d_S_addJoined_153 : decode b_S_addJoined 153 = .ok (.istore 9, 2) := by decide +kernel
theorem d_S_addJoined_155 : decode b_S_addJoined 155 = .ok (.iload 10, 2) := by decide +kernel
theorem d_S_addJoined_157 : decode b_S_addJoined 157 = .ok (.ifCond .ne 14, 3) := by decide +kernel
theorem d_S_addJoined_160 : decode b_S_addJoined 160 = .ok (.iinc 6 1, 3) := by decide +kernel
theorem d_S_addJoined_163 : decode b_S_addJoined 163 = .ok (.aload_n 1, 1) := by decide +kernel
theorem d_S_addJoined_164 : decode b_S_addJoined 164 = .ok (.iload 6, 2) := by decide +kernel
theorem d_S_addJoined_166 : decode b_S_addJoined 166 = .ok (.invokevirtual 76, 3) := by decide +kernel
theorem d_S_addJoined_169 : decode b_S_addJoined 169 = .ok (.istore 10, 2) := by decide +kernel
theorem d_S_addJoined_171 : decode b_S_addJoined 171 = .ok (.iinc 12 1, 3) := by decide +kernel
theorem d_S_addJoined_174 : decode b_S_addJoined 174 = .ok (.goto (-110), 3) := by decide +kernel
theorem d_S_addJoined_177 : decode b_S_addJoined 177 = .ok (.return_, 1) := by decide +kernel
theorem d_S_groupsAt_0 : decode b_S_groupsAt 0 = .ok (.iload_n 1, 1) := by decide +kernel
theorem d_S_groupsAt_1 : decode b_S_groupsAt 1 = .ok (.aload_n 0, 1) := by decide +kernel
theorem d_S_groupsAt_2 : decode b_S_groupsAt 2 = .ok (.invokevirtual 59, 3) := by decide +kernel
theorem d_S_groupsAt_5 : decode b_S_groupsAt 5 = .ok (.if_icmp .ge 15, 3) := by decide +kernel
theorem d_S_groupsAt_8 : decode b_S_groupsAt 8 = .ok (.aload_n 0, 1) := by decide +kernel
theorem d_S_groupsAt_9 : decode b_S_groupsAt 9 = .ok (.getfield 15, 3) := by decide +kernel
theorem d_S_groupsAt_12 : decode b_S_groupsAt 12 = .ok (.iload_n 1, 1) := by decide +kernel
theorem d_S_groupsAt_13 : decode b_S_groupsAt 13 = .ok (.iaload, 1) := by decide +kernel
theorem d_S_groupsAt_14 : decode b_S_groupsAt 14 = .ok (.invokestatic 46, 3) := by decide +kernel
theorem d_S_groupsAt_17 : decode b_S_groupsAt 17 = .ok (.goto 4, 3) := by decide +kernel
theorem d_S_groupsAt_20 : decode b_S_groupsAt 20 = .ok (.iconst 0, 1) := by decide +kernel
theorem d_S_groupsAt_21 : decode b_S_groupsAt 21 = .ok (.ireturn, 1) := by decide +kernel
theorem d_S_addOthers_0 : decode b_S_addOthers 0 = .ok (.aload_n 1, 1) := by decide +kernel
theorem d_S_addOthers_1 : decode b_S_addOthers 1 = .ok (.iload_n 2, 1) := by decide +kernel
theorem d_S_addOthers_2 : decode b_S_addOthers 2 = .ok (.iconst 1, 1) := by decide +kernel
theorem d_S_addOthers_3 : decode b_S_addOthers 3 = .ok (.iadd, 1) := by decide +kernel
theorem d_S_addOthers_4 : decode b_S_addOthers 4 = .ok (.invokevirtual 31, 3) := by decide +kernel
theorem d_S_addOthers_7 : decode b_S_addOthers 7 = .ok (.istore 4, 2) := by decide +kernel
theorem d_S_addOthers_9 : decode b_S_addOthers 9 = .ok (.aload_n 1, 1) := by decide +kernel
theorem d_S_addOthers_10 : decode b_S_addOthers 10 = .ok (.iload_n 2, 1) := by decide +kernel
theorem d_S_addOthers_11 : decode b_S_addOthers 11 = .ok (.invokevirtual 31, 3) := by decide +kernel
theorem d_S_addOthers_14 : decode b_S_addOthers 14 = .ok (.istore 5, 2) := by decide +kernel
theorem d_S_addOthers_16 : decode b_S_addOthers 16 = .ok (.iload 5, 2) := by decide +kernel
theorem d_S_addOthers_18 : decode b_S_addOthers 18 = .ok (.iload 4, 2) := by decide +kernel
theorem d_S_addOthers_20 : decode b_S_addOthers 20 = .ok (.if_icmp .ge 36, 3) := by decide +kernel
theorem d_S_addOthers_23 : decode b_S_addOthers 23 = .ok (.aload_n 0, 1) := by decide +kernel
theorem d_S_addOthers_24 : decode b_S_addOthers 24 = .ok (.aload_n 1, 1) := by decide +kernel
theorem d_S_addOthers_25 : decode b_S_addOthers 25 = .ok (.getfield 15, 3) := by decide +kernel
theorem d_S_addOthers_28 : decode b_S_addOthers 28 = .ok (.iload 5, 2) := by decide +kernel
theorem d_S_addOthers_30 : decode b_S_addOthers 30 = .ok (.iaload, 1) := by decide +kernel
theorem d_S_addOthers_31 : decode b_S_addOthers 31 = .ok (.invokestatic 38, 3) := by decide +kernel
theorem d_S_addOthers_34 : decode b_S_addOthers 34 = .ok (.ldc 52, 2) := by decide +kernel
theorem d_S_addOthers_36 : decode b_S_addOthers 36 = .ok (.ixor, 1) := by decide +kernel
theorem d_S_addOthers_37 : decode b_S_addOthers 37 = .ok (.aload_n 1, 1) := by decide +kernel
theorem d_S_addOthers_38 : decode b_S_addOthers 38 = .ok (.getfield 15, 3) := by decide +kernel
theorem d_S_addOthers_41 : decode b_S_addOthers 41 = .ok (.iload 5, 2) := by decide +kernel
theorem d_S_addOthers_43 : decode b_S_addOthers 43 = .ok (.iaload, 1) := by decide +kernel
theorem d_S_addOthers_44 : decode b_S_addOthers 44 = .ok (.invokestatic 46, 3) := by decide +kernel
theorem d_S_addOthers_47 : decode b_S_addOthers 47 = .ok (.invokevirtual 72, 3) := by decide +kernel
theorem d_S_addOthers_50 : decode b_S_addOthers 50 = .ok (.iinc 5 1, 3) := by decide +kernel
theorem d_S_addOthers_53 : decode b_S_addOthers 53 = .ok (.goto (-37), 3) := by decide +kernel
theorem d_S_addOthers_56 : decode b_S_addOthers 56 = .ok (.iload_n 3, 1) := by decide +kernel
theorem d_S_addOthers_57 : decode b_S_addOthers 57 = .ok (.ifCond .le 17, 3) := by decide +kernel
theorem d_S_addOthers_60 : decode b_S_addOthers 60 = .ok (.aload_n 0, 1) := by decide +kernel
theorem d_S_addOthers_61 : decode b_S_addOthers 61 = .ok (.aload_n 0, 1) := by decide +kernel
theorem d_S_addOthers_62 : decode b_S_addOthers 62 = .ok (.invokevirtual 69, 3) := by decide +kernel
theorem d_S_addOthers_65 : decode b_S_addOthers 65 = .ok (.iload_n 3, 1) := by decide +kernel
theorem d_S_addOthers_66 : decode b_S_addOthers 66 = .ok (.invokestatic 53, 3) := by decide +kernel
theorem d_S_addOthers_69 : decode b_S_addOthers 69 = .ok (.iand, 1) := by decide +kernel
theorem d_S_addOthers_70 : decode b_S_addOthers 70 = .ok (.iconst 1, 1) := by decide +kernel
theorem d_S_addOthers_71 : decode b_S_addOthers 71 = .ok (.invokevirtual 72, 3) := by decide +kernel
theorem d_S_addOthers_74 : decode b_S_addOthers 74 = .ok (.return_, 1) := by decide +kernel
theorem d_S_addGroups_0 : decode b_S_addGroups 0 = .ok (.iload_n 2, 1) := by decide +kernel
theorem d_S_addGroups_1 : decode b_S_addGroups 1 = .ok (.iconst 1, 1) := by decide +kernel
theorem d_S_addGroups_2 : decode b_S_addGroups 2 = .ok (.if_icmp .ge 4, 3) := by decide +kernel
theorem d_S_addGroups_5 : decode b_S_addGroups 5 = .ok (.return_, 1) := by decide +kernel
theorem d_S_addGroups_6 : decode b_S_addGroups 6 = .ok (.iload_n 1, 1) := by decide +kernel
theorem d_S_addGroups_7 : decode b_S_addGroups 7 = .ok (.ifCond .eq 15, 3) := by decide +kernel
theorem d_S_addGroups_10 : decode b_S_addGroups 10 = .ok (.iload_n 1, 1) := by decide +kernel
theorem d_S_addGroups_11 : decode b_S_addGroups 11 = .ok (.ldc 52, 2) := by decide +kernel
theorem d_S_addGroups_13 : decode b_S_addGroups 13 = .ok (.if_icmp .eq 9, 3) := by decide +kernel
theorem d_S_addGroups_16 : decode b_S_addGroups 16 = .ok (.aload_n 0, 1) := by decide +kernel
theorem d_S_addGroups_17 : decode b_S_addGroups 17 = .ok (.iload_n 1, 1) := by decide +kernel
theorem d_S_addGroups_18 : decode b_S_addGroups 18 = .ok (.invokevirtual 83, 3) := by decide +kernel
theorem d_S_addGroups_21 : decode b_S_addGroups 21 = .ok (.return_, 1) := by decide +kernel
theorem d_S_addGroups_22 : decode b_S_addGroups 22 = .ok (.aload_n 0, 1) := by decide +kernel
theorem d_S_addGroups_23 : decode b_S_addGroups 23 = .ok (.invokevirtual 87, 3) := by decide +kernel
theorem d_S_addGroups_26 : decode b_S_addGroups 26 = .ok (.istore_n 3, 1) := by decide +kernel
theorem d_S_addGroups_27 : decode b_S_addGroups 27 = .ok (.iload_n 3, 1) := by decide +kernel
theorem d_S_addGroups_28 : decode b_S_addGroups 28 = .ok (.ifCond .ge 35, 3) := by decide +kernel
theorem d_S_addGroups_31 : decode b_S_addGroups 31 = .ok (.iload_n 3, 1) := by decide +kernel
theorem d_S_addGroups_32 : decode b_S_addGroups 32 = .ok (.invokestatic 38, 3) := by decide +kernel
theorem d_S_addGroups_35 : decode b_S_addGroups 35 = .ok (.iload_n 1, 1) := by decide +kernel
theorem d_S_addGroups_36 : decode b_S_addGroups 36 = .ok (.if_icmp .ne 27, 3) := by decide +kernel
theorem d_S_addGroups_39 : decode b_S_addGroups 39 = .ok (.aload_n 0, 1) := by decide +kernel
theorem d_S_addGroups_40 : decode b_S_addGroups 40 = .ok (.getfield 15, 3) := by decide +kernel
theorem d_S_addGroups_43 : decode b_S_addGroups 43 = .ok (.aload_n 0, 1) := by decide +kernel
theorem d_S_addGroups_44 : decode b_S_addGroups 44 = .ok (.invokevirtual 59, 3) := by decide +kernel
theorem d_S_addGroups_47 : decode b_S_addGroups 47 = .ok (.iconst 1, 1) := by decide +kernel
theorem d_S_addGroups_48 : decode b_S_addGroups 48 = .ok (.isub, 1) := by decide +kernel
theorem d_S_addGroups_49 : decode b_S_addGroups 49 = .ok (.iload_n 1, 1) := by decide +kernel
theorem d_S_addGroups_50 : decode b_S_addGroups 50 = .ok (.iload_n 3, 1) := by decide +kernel
theorem d_S_addGroups_51 : decode b_S_addGroups 51 = .ok (.invokestatic 46, 3) := by decide +kernel
theorem d_S_addGroups_54 : decode b_S_addGroups 54 = .ok (.iload_n 2, 1) := by decide +kernel
theorem d_S_addGroups_55 : decode b_S_addGroups 55 = .ok (.iadd, 1) := by decide +kernel
theorem d_S_addGroups_56 : decode b_S_addGroups 56 = .ok (.invokestatic 90, 3) := by decide +kernel
theorem d_S_addGroups_59 : decode b_S_addGroups 59 = .ok (.iastore, 1) := by decide +kernel
theorem d_S_addGroups_60 : decode b_S_addGroups 60 = .ok (.goto 12, 3) := by decide +kernel
theorem d_S_addGroups_63 : decode b_S_addGroups 63 = .ok (.aload_n 0, 1) := by decide +kernel
theorem d_S_addGroups_64 : decode b_S_addGroups 64 = .ok (.iload_n 1, 1) := by decide +kernel
theorem d_S_addGroups_65 : decode b_S_addGroups 65 = .ok (.iload_n 2, 1) := by decide +kernel
theorem d_S_addGroups_66 : decode b_S_addGroups 66 = .ok (.invokestatic 90, 3) := by decide +kernel
theorem d_S_addGroups_69 : decode b_S_addGroups 69 = .ok (.invokevirtual 83, 3) := by decide +kernel
theorem d_S_addGroups_72 : decode b_S_addGroups 72 = .ok (.return_, 1) := by decide +kernel
theorem d_S_takeGroup_0 : decode b_S_takeGroup 0 = .ok (.aload_n 0, 1) := by decide +kernel
theorem d_S_takeGroup_1 : decode b_S_takeGroup 1 = .ok (.invokevirtual 87, 3) := by decide +kernel
theorem d_S_takeGroup_4 : decode b_S_takeGroup 4 = .ok (.istore_n 1, 1) := by decide +kernel
theorem d_S_takeGroup_5 : decode b_S_takeGroup 5 = .ok (.iload_n 1, 1) := by decide +kernel
theorem d_S_takeGroup_6 : decode b_S_takeGroup 6 = .ok (.ifCond .ne 5, 3) := by decide +kernel
theorem d_S_takeGroup_9 : decode b_S_takeGroup 9 = .ok (.iconst 0, 1) := by decide +kernel
theorem d_S_takeGroup_10 : decode b_S_takeGroup 10 = .ok (.ireturn, 1) := by decide +kernel
theorem d_S_takeGroup_11 : decode b_S_takeGroup 11 = .ok (.iload_n 1, 1) := by decide +kernel
theorem d_S_takeGroup_12 : decode b_S_takeGroup 12 = .ok (.invokestatic 46, 3) := by decide +kernel
theorem d_S_takeGroup_15 : decode b_S_takeGroup 15 = .ok (.iconst 1, 1) := by decide +kernel
theorem d_S_takeGroup_16 : decode b_S_takeGroup 16 = .ok (.if_icmp .le 30, 3) := by decide +kernel
theorem d_S_takeGroup_19 : decode b_S_takeGroup 19 = .ok (.aload_n 0, 1) := by decide +kernel
theorem d_S_takeGroup_20 : decode b_S_takeGroup 20 = .ok (.getfield 15, 3) := by decide +kernel
theorem d_S_takeGroup_23 : decode b_S_takeGroup 23 = .ok (.aload_n 0, 1) := by decide +kernel
theorem d_S_takeGroup_24 : decode b_S_takeGroup 24 = .ok (.invokevirtual 59, 3) := by decide +kernel
theorem d_S_takeGroup_27 : decode b_S_takeGroup 27 = .ok (.iconst 1, 1) := by decide +kernel
theorem d_S_takeGroup_28 : decode b_S_takeGroup 28 = .ok (.isub, 1) := by decide +kernel
theorem d_S_takeGroup_29 : decode b_S_takeGroup 29 = .ok (.iload_n 1, 1) := by decide +kernel
theorem d_S_takeGroup_30 : decode b_S_takeGroup 30 = .ok (.invokestatic 38, 3) := by decide +kernel
theorem d_S_takeGroup_33 : decode b_S_takeGroup 33 = .ok (.iload_n 1, 1) := by decide +kernel
theorem d_S_takeGroup_34 : decode b_S_takeGroup 34 = .ok (.invokestatic 46, 3) := by decide +kernel
theorem d_S_takeGroup_37 : decode b_S_takeGroup 37 = .ok (.iconst 1, 1) := by decide +kernel
theorem d_S_takeGroup_38 : decode b_S_takeGroup 38 = .ok (.isub, 1) := by decide +kernel
theorem d_S_takeGroup_39 : decode b_S_takeGroup 39 = .ok (.invokestatic 90, 3) := by decide +kernel
theorem d_S_takeGroup_42 : decode b_S_takeGroup 42 = .ok (.iastore, 1) := by decide +kernel
theorem d_S_takeGroup_43 : decode b_S_takeGroup 43 = .ok (.goto 16, 3) := by decide +kernel
theorem d_S_takeGroup_46 : decode b_S_takeGroup 46 = .ok (.aload_n 0, 1) := by decide +kernel
theorem d_S_takeGroup_47 : decode b_S_takeGroup 47 = .ok (.getfield 19, 3) := by decide +kernel
theorem d_S_takeGroup_50 : decode b_S_takeGroup 50 = .ok (.aload_n 0, 1) := by decide +kernel
theorem d_S_takeGroup_51 : decode b_S_takeGroup 51 = .ok (.getfield 9, 3) := by decide +kernel
theorem d_S_takeGroup_54 : decode b_S_takeGroup 54 = .ok (.dup2, 1) := by decide +kernel
theorem d_S_takeGroup_55 : decode b_S_takeGroup 55 = .ok (.iaload, 1) := by decide +kernel
theorem d_S_takeGroup_56 : decode b_S_takeGroup 56 = .ok (.iconst 1, 1) := by decide +kernel
theorem d_S_takeGroup_57 : decode b_S_takeGroup 57 = .ok (.isub, 1) := by decide +kernel
theorem d_S_takeGroup_58 : decode b_S_takeGroup 58 = .ok (.iastore, 1) := by decide +kernel
theorem d_S_takeGroup_59 : decode b_S_takeGroup 59 = .ok (.iload_n 1, 1) := by decide +kernel
theorem d_S_takeGroup_60 : decode b_S_takeGroup 60 = .ok (.invokestatic 38, 3) := by decide +kernel
theorem d_S_takeGroup_63 : decode b_S_takeGroup 63 = .ok (.ireturn, 1) := by decide +kernel
theorem d_S_lastWord_0 : decode b_S_lastWord 0 = .ok (.aload_n 0, 1) := by decide +kernel
theorem d_S_lastWord_1 : decode b_S_lastWord 1 = .ok (.getfield 9, 3) := by decide +kernel
theorem d_S_lastWord_4 : decode b_S_lastWord 4 = .ok (.iconst 1, 1) := by decide +kernel
theorem d_S_lastWord_5 : decode b_S_lastWord 5 = .ok (.if_icmp .lt 17, 3) := by decide +kernel
theorem d_S_lastWord_8 : decode b_S_lastWord 8 = .ok (.aload_n 0, 1) := by decide +kernel
theorem d_S_lastWord_9 : decode b_S_lastWord 9 = .ok (.aload_n 0, 1) := by decide +kernel
theorem d_S_lastWord_10 : decode b_S_lastWord 10 = .ok (.getfield 9, 3) := by decide +kernel
theorem d_S_lastWord_13 : decode b_S_lastWord 13 = .ok (.iconst 1, 1) := by decide +kernel
theorem d_S_lastWord_14 : decode b_S_lastWord 14 = .ok (.isub, 1) := by decide +kernel
theorem d_S_lastWord_15 : decode b_S_lastWord 15 = .ok (.invokevirtual 35, 3) := by decide +kernel
theorem d_S_lastWord_18 : decode b_S_lastWord 18 = .ok (.iconst 1, 1) := by decide +kernel
theorem d_S_lastWord_19 : decode b_S_lastWord 19 = .ok (.if_icmp .ge 7, 3) := by decide +kernel
theorem d_S_lastWord_22 : decode b_S_lastWord 22 = .ok (.iconst 0, 1) := by decide +kernel
theorem d_S_lastWord_23 : decode b_S_lastWord 23 = .ok (.goto 14, 3) := by decide +kernel
theorem d_S_lastWord_26 : decode b_S_lastWord 26 = .ok (.aload_n 0, 1) := by decide +kernel
theorem d_S_lastWord_27 : decode b_S_lastWord 27 = .ok (.getfield 15, 3) := by decide +kernel
theorem d_S_lastWord_30 : decode b_S_lastWord 30 = .ok (.aload_n 0, 1) := by decide +kernel
theorem d_S_lastWord_31 : decode b_S_lastWord 31 = .ok (.invokevirtual 59, 3) := by decide +kernel
theorem d_S_lastWord_34 : decode b_S_lastWord 34 = .ok (.iconst 1, 1) := by decide +kernel
theorem d_S_lastWord_35 : decode b_S_lastWord 35 = .ok (.isub, 1) := by decide +kernel
theorem d_S_lastWord_36 : decode b_S_lastWord 36 = .ok (.iaload, 1) := by decide +kernel
theorem d_S_lastWord_37 : decode b_S_lastWord 37 = .ok (.ireturn, 1) := by decide +kernel
theorem d_S_addWord_0 : decode b_S_addWord 0 = .ok (.aload_n 0, 1) := by decide +kernel
theorem d_S_addWord_1 : decode b_S_addWord 1 = .ok (.getfield 9, 3) := by decide +kernel
theorem d_S_addWord_4 : decode b_S_addWord 4 = .ok (.ifCond .le 38, 3) := by decide +kernel
theorem d_S_addWord_7 : decode b_S_addWord 7 = .ok (.aload_n 0, 1) := by decide +kernel
theorem d_S_addWord_8 : decode b_S_addWord 8 = .ok (.invokevirtual 59, 3) := by decide +kernel
theorem d_S_addWord_11 : decode b_S_addWord 11 = .ok (.aload_n 0, 1) := by decide +kernel
theorem d_S_addWord_12 : decode b_S_addWord 12 = .ok (.getfield 15, 3) := by decide +kernel
theorem d_S_addWord_15 : decode b_S_addWord 15 = .ok (.arraylength, 1) := by decide +kernel
theorem d_S_addWord_16 : decode b_S_addWord 16 = .ok (.if_icmp .ge 26, 3) := by decide +kernel
theorem d_S_addWord_19 : decode b_S_addWord 19 = .ok (.aload_n 0, 1) := by decide +kernel
theorem d_S_addWord_20 : decode b_S_addWord 20 = .ok (.getfield 15, 3) := by decide +kernel
theorem d_S_addWord_23 : decode b_S_addWord 23 = .ok (.aload_n 0, 1) := by decide +kernel
theorem d_S_addWord_24 : decode b_S_addWord 24 = .ok (.invokevirtual 59, 3) := by decide +kernel
theorem d_S_addWord_27 : decode b_S_addWord 27 = .ok (.iload_n 1, 1) := by decide +kernel
theorem d_S_addWord_28 : decode b_S_addWord 28 = .ok (.iastore, 1) := by decide +kernel
theorem d_S_addWord_29 : decode b_S_addWord 29 = .ok (.aload_n 0, 1) := by decide +kernel
theorem d_S_addWord_30 : decode b_S_addWord 30 = .ok (.getfield 19, 3) := by decide +kernel
theorem d_S_addWord_33 : decode b_S_addWord 33 = .ok (.aload_n 0, 1) := by decide +kernel
theorem d_S_addWord_34 : decode b_S_addWord 34 = .ok (.getfield 9, 3) := by decide +kernel
theorem d_S_addWord_37 : decode b_S_addWord 37 = .ok (.dup2, 1) := by decide +kernel
theorem d_S_addWord_38 : decode b_S_addWord 38 = .ok (.iaload, 1) := by decide +kernel
theorem d_S_addWord_39 : decode b_S_addWord 39 = .ok (.iconst 1, 1) := by decide +kernel
theorem d_S_addWord_40 : decode b_S_addWord 40 = .ok (.iadd, 1) := by decide +kernel
theorem d_S_addWord_41 : decode b_S_addWord 41 = .ok (.iastore, 1) := by decide +kernel
theorem d_S_addWord_42 : decode b_S_addWord 42 = .ok (.return_, 1) := by decide +kernel
theorem d_I_numberOfTrailingZeros_0 : decode b_I_numberOfTrailingZeros 0 = .ok (.iload_n 0, 1) := by decide +kernel
theorem d_I_numberOfTrailingZeros_1 : decode b_I_numberOfTrailingZeros 1 = .ok (.iconst (-1), 1) := by decide +kernel
theorem d_I_numberOfTrailingZeros_2 : decode b_I_numberOfTrailingZeros 2 = .ok (.ixor, 1) := by decide +kernel
theorem d_I_numberOfTrailingZeros_3 : decode b_I_numberOfTrailingZeros 3 = .ok (.iload_n 0, 1) := by decide +kernel
theorem d_I_numberOfTrailingZeros_4 : decode b_I_numberOfTrailingZeros 4 = .ok (.iconst 1, 1) := by decide +kernel
theorem d_I_numberOfTrailingZeros_5 : decode b_I_numberOfTrailingZeros 5 = .ok (.isub, 1) := by decide +kernel
theorem d_I_numberOfTrailingZeros_6 : decode b_I_numberOfTrailingZeros 6 = .ok (.iand, 1) := by decide +kernel
theorem d_I_numberOfTrailingZeros_7 : decode b_I_numberOfTrailingZeros 7 = .ok (.istore_n 0, 1) := by decide +kernel
theorem d_I_numberOfTrailingZeros_8 : decode b_I_numberOfTrailingZeros 8 = .ok (.iload_n 0, 1) := by decide +kernel
theorem d_I_numberOfTrailingZeros_9 : decode b_I_numberOfTrailingZeros 9 = .ok (.ifCond .gt 8, 3) := by decide +kernel
theorem d_I_numberOfTrailingZeros_12 : decode b_I_numberOfTrailingZeros 12 = .ok (.iload_n 0, 1) := by decide +kernel
theorem d_I_numberOfTrailingZeros_13 : decode b_I_numberOfTrailingZeros 13 = .ok (.bipush 32, 2) := by decide +kernel
theorem d_I_numberOfTrailingZeros_15 : decode b_I_numberOfTrailingZeros 15 = .ok (.iand, 1) := by decide +kernel
theorem d_I_numberOfTrailingZeros_16 : decode b_I_numberOfTrailingZeros 16 = .ok (.ireturn, 1) := by decide +kernel
theorem d_I_numberOfTrailingZeros_17 : decode b_I_numberOfTrailingZeros 17 = .ok (.iconst 1, 1) := by decide +kernel
theorem d_I_numberOfTrailingZeros_18 : decode b_I_numberOfTrailingZeros 18 = .ok (.istore_n 1, 1) := by decide +kernel
theorem d_I_numberOfTrailingZeros_19 : decode b_I_numberOfTrailingZeros 19 = .ok (.iload_n 0, 1) := by decide +kernel
theorem d_I_numberOfTrailingZeros_20 : decode b_I_numberOfTrailingZeros 20 = .ok (.ldc_w 264, 3) := by decide +kernel
theorem d_I_numberOfTrailingZeros_23 : decode b_I_numberOfTrailingZeros 23 = .ok (.if_icmp .le 11, 3) := by decide +kernel
theorem d_I_numberOfTrailingZeros_26 : decode b_I_numberOfTrailingZeros 26 = .ok (.iinc 1 16, 3) := by decide +kernel
theorem d_I_numberOfTrailingZeros_29 : decode b_I_numberOfTrailingZeros 29 = .ok (.iload_n 0, 1) := by decide +kernel
theorem d_I_numberOfTrailingZeros_30 : decode b_I_numberOfTrailingZeros 30 = .ok (.bipush 16, 2) := by decide +kernel
theorem d_I_numberOfTrailingZeros_32 : decode b_I_numberOfTrailingZeros 32 = .ok (.iushr, 1) := by decide +kernel
theorem d_I_numberOfTrailingZeros_33 : decode b_I_numberOfTrailingZeros 33 = .ok (.istore_n 0, 1) := by decide +kernel
theorem d_I_numberOfTrailingZeros_34 : decode b_I_numberOfTrailingZeros 34 = .ok (.iload_n 0, 1) := by decide +kernel
theorem d_I_numberOfTrailingZeros_35 : decode b_I_numberOfTrailingZeros 35 = .ok (.sipush 256, 3) := by decide +kernel
theorem d_I_numberOfTrailingZeros_38 : decode b_I_numberOfTrailingZeros 38 = .ok (.if_icmp .le 11, 3) := by decide +kernel
theorem d_I_numberOfTrailingZeros_41 : decode b_I_numberOfTrailingZeros 41 = .ok (.iinc 1 8, 3) := by decide +kernel
theorem d_I_numberOfTrailingZeros_44 : decode b_I_numberOfTrailingZeros 44 = .ok (.iload_n 0, 1) := by decide +kernel
theorem d_I_numberOfTrailingZeros_45 : decode b_I_numberOfTrailingZeros 45 = .ok (.bipush 8, 2) := by decide +kernel
theorem d_I_numberOfTrailingZeros_47 : decode b_I_numberOfTrailingZeros 47 = .ok (.iushr, 1) := by decide +kernel
theorem d_I_numberOfTrailingZeros_48 : decode b_I_numberOfTrailingZeros 48 = .ok (.istore_n 0, 1) := by decide +kernel
theorem d_I_numberOfTrailingZeros_49 : decode b_I_numberOfTrailingZeros 49 = .ok (.iload_n 0, 1) := by decide +kernel
theorem d_I_numberOfTrailingZeros_50 : decode b_I_numberOfTrailingZeros 50 = .ok (.bipush 16, 2) := by decide +kernel
theorem d_I_numberOfTrailingZeros_52 : decode b_I_numberOfTrailingZeros 52 = .ok (.if_icmp .le 10, 3) := by decide +kernel
theorem d_I_numberOfTrailingZeros_55 : decode b_I_numberOfTrailingZeros 55 = .ok (.iinc 1 4, 3) := by decide +kernel
theorem d_I_numberOfTrailingZeros_58 : decode b_I_numberOfTrailingZeros 58 = .ok (.iload_n 0, 1) := by decide +kernel
theorem d_I_numberOfTrailingZeros_59 : decode b_I_numberOfTrailingZeros 59 = .ok (.iconst 4, 1) := by decide +kernel
theorem d_I_numberOfTrailingZeros_60 : decode b_I_numberOfTrailingZeros 60 = .ok (.iushr, 1) := by decide +kernel
theorem d_I_numberOfTrailingZeros_61 : decode b_I_numberOfTrailingZeros 61 = .ok (.istore_n 0, 1) := by decide +kernel
theorem d_I_numberOfTrailingZeros_62 : decode b_I_numberOfTrailingZeros 62 = .ok (.iload_n 0, 1) := by decide +kernel
theorem d_I_numberOfTrailingZeros_63 : decode b_I_numberOfTrailingZeros 63 = .ok (.iconst 4, 1) := by decide +kernel
theorem d_I_numberOfTrailingZeros_64 : decode b_I_numberOfTrailingZeros 64 = .ok (.if_icmp .le 10, 3) := by decide +kernel
theorem d_I_numberOfTrailingZeros_67 : decode b_I_numberOfTrailingZeros 67 = .ok (.iinc 1 2, 3) := by decide +kernel
theorem d_I_numberOfTrailingZeros_70 : decode b_I_numberOfTrailingZeros 70 = .ok (.iload_n 0, 1) := by decide +kernel
theorem d_I_numberOfTrailingZeros_71 : decode b_I_numberOfTrailingZeros 71 = .ok (.iconst 2, 1) := by decide +kernel
theorem d_I_numberOfTrailingZeros_72 : decode b_I_numberOfTrailingZeros 72 = .ok (.iushr, 1) := by decide +kernel
theorem d_I_numberOfTrailingZeros_73 : decode b_I_numberOfTrailingZeros 73 = .ok (.istore_n 0, 1) := by decide +kernel
theorem d_I_numberOfTrailingZeros_74 : decode b_I_numberOfTrailingZeros 74 = .ok (.iload_n 1, 1) := by decide +kernel
theorem d_I_numberOfTrailingZeros_75 : decode b_I_numberOfTrailingZeros 75 = .ok (.iload_n 0, 1) := by decide +kernel
theorem d_I_numberOfTrailingZeros_76 : decode b_I_numberOfTrailingZeros 76 = .ok (.iconst 1, 1) := by decide +kernel
theorem d_I_numberOfTrailingZeros_77 : decode b_I_numberOfTrailingZeros 77 = .ok (.iushr, 1) := by decide +kernel
theorem d_I_numberOfTrailingZeros_78 : decode b_I_numberOfTrailingZeros 78 = .ok (.iadd, 1) := by decide +kernel
theorem d_I_numberOfTrailingZeros_79 : decode b_I_numberOfTrailingZeros 79 = .ok (.ireturn, 1) := by decide +kernel
theorem d_I_bitCount_0 : decode b_I_bitCount 0 = .ok (.iload_n 0, 1) := by decide +kernel
theorem d_I_bitCount_1 : decode b_I_bitCount 1 = .ok (.iload_n 0, 1) := by decide +kernel
theorem d_I_bitCount_2 : decode b_I_bitCount 2 = .ok (.iconst 1, 1) := by decide +kernel
theorem d_I_bitCount_3 : decode b_I_bitCount 3 = .ok (.iushr, 1) := by decide +kernel
theorem d_I_bitCount_4 : decode b_I_bitCount 4 = .ok (.ldc_w 265, 3) := by decide +kernel
theorem d_I_bitCount_7 : decode b_I_bitCount 7 = .ok (.iand, 1) := by decide +kernel
theorem d_I_bitCount_8 : decode b_I_bitCount 8 = .ok (.isub, 1) := by decide +kernel
theorem d_I_bitCount_9 : decode b_I_bitCount 9 = .ok (.istore_n 0, 1) := by decide +kernel
theorem d_I_bitCount_10 : decode b_I_bitCount 10 = .ok (.iload_n 0, 1) := by decide +kernel
theorem d_I_bitCount_11 : decode b_I_bitCount 11 = .ok (.ldc_w 266, 3) := by decide +kernel
theorem d_I_bitCount_14 : decode b_I_bitCount 14 = .ok (.iand, 1) := by decide +kernel
theorem d_I_bitCount_15 : decode b_I_bitCount 15 = .ok (.iload_n 0, 1) := by decide +kernel
theorem d_I_bitCount_16 : decode b_I_bitCount 16 = .ok (.iconst 2, 1) := by decide +kernel
theorem d_I_bitCount_17 : decode b_I_bitCount 17 = .ok (.iushr, 1) := by decide +kernel
theorem d_I_bitCount_18 : decode b_I_bitCount 18 = .ok (.ldc_w 266, 3) := by decide +kernel
theorem d_I_bitCount_21 : decode b_I_bitCount 21 = .ok (.iand, 1) := by decide +kernel
theorem d_I_bitCount_22 : decode b_I_bitCount 22 = .ok (.iadd, 1) := by decide +kernel
theorem d_I_bitCount_23 : decode b_I_bitCount 23 = .ok (.istore_n 0, 1) := by decide +kernel
theorem d_I_bitCount_24 : decode b_I_bitCount 24 = .ok (.iload_n 0, 1) := by decide +kernel
theorem d_I_bitCount_25 : decode b_I_bitCount 25 = .ok (.iload_n 0, 1) := by decide +kernel
theorem d_I_bitCount_26 : decode b_I_bitCount 26 = .ok (.iconst 4, 1) := by decide +kernel
theorem d_I_bitCount_27 : decode b_I_bitCount 27 = .ok (.iushr, 1) := by decide +kernel
theorem d_I_bitCount_28 : decode b_I_bitCount 28 = .ok (.iadd, 1) := by decide +kernel
theorem d_I_bitCount_29 : decode b_I_bitCount 29 = .ok (.ldc_w 267, 3) := by decide +kernel
theorem d_I_bitCount_32 : decode b_I_bitCount 32 = .ok (.iand, 1) := by decide +kernel
theorem d_I_bitCount_33 : decode b_I_bitCount 33 = .ok (.istore_n 0, 1) := by decide +kernel
theorem d_I_bitCount_34 : decode b_I_bitCount 34 = .ok (.iload_n 0, 1) := by decide +kernel
theorem d_I_bitCount_35 : decode b_I_bitCount 35 = .ok (.iload_n 0, 1) := by decide +kernel
theorem d_I_bitCount_36 : decode b_I_bitCount 36 = .ok (.bipush 8, 2) := by decide +kernel
theorem d_I_bitCount_38 : decode b_I_bitCount 38 = .ok (.iushr, 1) := by decide +kernel
theorem d_I_bitCount_39 : decode b_I_bitCount 39 = .ok (.iadd, 1) := by decide +kernel
theorem d_I_bitCount_40 : decode b_I_bitCount 40 = .ok (.istore_n 0, 1) := by decide +kernel
theorem d_I_bitCount_41 : decode b_I_bitCount 41 = .ok (.iload_n 0, 1) := by decide +kernel
theorem d_I_bitCount_42 : decode b_I_bitCount 42 = .ok (.iload_n 0, 1) := by decide +kernel
theorem d_I_bitCount_43 : decode b_I_bitCount 43 = .ok (.bipush 16, 2) := by decide +kernel
theorem d_I_bitCount_45 : decode b_I_bitCount 45 = .ok (.iushr, 1) := by decide +kernel
theorem d_I_bitCount_46 : decode b_I_bitCount 46 = .ok (.iadd, 1) := by decide +kernel
theorem d_I_bitCount_47 : decode b_I_bitCount 47 = .ok (.istore_n 0, 1) := by decide +kernel
theorem d_I_bitCount_48 : decode b_I_bitCount 48 = .ok (.iload_n 0, 1) := by decide +kernel
theorem d_I_bitCount_49 : decode b_I_bitCount 49 = .ok (.bipush 63, 2) := by decide +kernel
theorem d_I_bitCount_51 : decode b_I_bitCount 51 = .ok (.iand, 1) := by decide +kernel
theorem d_I_bitCount_52 : decode b_I_bitCount 52 = .ok (.ireturn, 1) := by decide +kernel
