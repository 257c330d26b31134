/-! the instructions -/
theorem d_B_init_0 : decode b_B_init 0 = .ok (.aload_n 0, 1) := by decide +kernel
theorem d_B_init_1 : decode b_B_init 1 = .ok (.invokespecial 3, 3) := by decide +kernel
theorem d_B_init_4 : decode b_B_init 4 = .ok (.aload_n 0, 1) := by decide +kernel
theorem d_B_init_5 : decode b_B_init 5 = .ok (.new 9, 3) := by decide +kernel
theorem d_B_init_8 : decode b_B_init 8 = .ok (.dup, 1) := by decide +kernel
theorem d_B_init_9 : decode b_B_init 9 = .ok (.bipush 32, 2) := by decide +kernel
theorem d_B_init_11 : decode b_B_init 11 = .ok (.sipush 2096, 3) := by decide +kernel
theorem d_B_init_14 : decode b_B_init 14 = .ok (.invokespecial 11, 3) := by decide +kernel
theorem d_B_init_17 : decode b_B_init 17 = .ok (.putfield 14, 3) := by decide +kernel
theorem d_B_init_20 : decode b_B_init 20 = .ok (.aload_n 0, 1) := by decide +kernel
theorem d_B_init_21 : decode b_B_init 21 = .ok (.new 9, 3) := by decide +kernel
theorem d_B_init_24 : decode b_B_init 24 = .ok (.dup, 1) := by decide +kernel
theorem d_B_init_25 : decode b_B_init 25 = .ok (.bipush 32, 2) := by decide +kernel
theorem d_B_init_27 : decode b_B_init 27 = .ok (.sipush 2096, 3) := by decide +kernel
theorem d_B_init_30 : decode b_B_init 30 = .ok (.invokespecial 11, 3) := by decide +kernel
theorem d_B_init_33 : decode b_B_init 33 = .ok (.putfield 18, 3) := by decide +kernel
theorem d_B_init_36 : decode b_B_init 36 = .ok (.aload_n 0, 1) := by decide +kernel
theorem d_B_init_37 : decode b_B_init 37 = .ok (.new 9, 3) := by decide +kernel
theorem d_B_init_40 : decode b_B_init 40 = .ok (.dup, 1) := by decide +kernel
theorem d_B_init_41 : decode b_B_init 41 = .ok (.bipush 12, 2) := by decide +kernel
theorem d_B_init_43 : decode b_B_init 43 = .ok (.sipush 3000, 3) := by decide +kernel
theorem d_B_init_46 : decode b_B_init 46 = .ok (.invokespecial 11, 3) := by decide +kernel
theorem d_B_init_49 : decode b_B_init 49 = .ok (.putfield 21, 3) := by decide +kernel
theorem d_B_init_52 : decode b_B_init 52 = .ok (.aload_n 0, 1) := by decide +kernel
theorem d_B_init_53 : decode b_B_init 53 = .ok (.new 9, 3) := by decide +kernel
theorem d_B_init_56 : decode b_B_init 56 = .ok (.dup, 1) := by decide +kernel
theorem d_B_init_57 : decode b_B_init 57 = .ok (.iconst 1, 1) := by decide +kernel
theorem d_B_init_58 : decode b_B_init 58 = .ok (.sipush 3001, 3) := by decide +kernel
theorem d_B_init_61 : decode b_B_init 61 = .ok (.invokespecial 11, 3) := by decide +kernel
theorem d_B_init_64 : decode b_B_init 64 = .ok (.putfield 24, 3) := by decide +kernel
theorem d_B_init_67 : decode b_B_init 67 = .ok (.aload_n 0, 1) := by decide +kernel
theorem d_B_init_68 : decode b_B_init 68 = .ok (.iconst 0, 1) := by decide +kernel
theorem d_B_init_69 : decode b_B_init 69 = .ok (.putfield 27, 3) := by decide +kernel
theorem d_B_init_72 : decode b_B_init 72 = .ok (.iconst 0, 1) := by decide +kernel
theorem d_B_init_73 : decode b_B_init 73 = .ok (.istore_n 1, 1) := by decide +kernel
theorem d_B_init_74 : decode b_B_init 74 = .ok (.iload_n 1, 1) := by decide +kernel
theorem d_B_init_75 : decode b_B_init 75 = .ok (.bipush 32, 2) := by decide +kernel
theorem d_B_init_77 : decode b_B_init 77 = .ok (.if_icmp .ge 16, 3) := by decide +kernel
theorem d_B_init_80 : decode b_B_init 80 = .ok (.aload_n 0, 1) := by decide +kernel
theorem d_B_init_81 : decode b_B_init 81 = .ok (.getfield 14, 3) := by decide +kernel
theorem d_B_init_84 : decode b_B_init 84 = .ok (.invokevirtual 31, 3) := by decide +kernel
theorem d_B_init_87 : decode b_B_init 87 = .ok (.iinc 1 1, 3) := by decide +kernel
theorem d_B_init_90 : decode b_B_init 90 = .ok (.goto (-16), 3) := by decide +kernel
theorem d_B_init_93 : decode b_B_init 93 = .ok (.return_, 1) := by decide +kernel
theorem d_B_append_0 : decode b_B_append 0 = .ok (.iload_n 1, 1) := by decide +kernel
theorem d_B_append_1 : decode b_B_append 1 = .ok (.invokestatic 34, 3) := by decide +kernel
theorem d_B_append_4 : decode b_B_append 4 = .ok (.ifCond .eq 21, 3) := by decide +kernel
theorem d_B_append_7 : decode b_B_append 7 = .ok (.iload_n 2, 1) := by decide +kernel
theorem d_B_append_8 : decode b_B_append 8 = .ok (.invokestatic 34, 3) := by decide +kernel
theorem d_B_append_11 : decode b_B_append 11 = .ok (.ifCond .eq 14, 3) := by decide +kernel
theorem d_B_append_14 : decode b_B_append 14 = .ok (.iload_n 3, 1) := by decide +kernel
theorem d_B_append_15 : decode b_B_append 15 = .ok (.iconst 1, 1) := by decide +kernel
theorem d_B_append_16 : decode b_B_append 16 = .ok (.if_icmp .lt 9, 3) := by decide +kernel
theorem d_B_append_19 : decode b_B_append 19 = .ok (.iload_n 3, 1) := by decide +kernel
theorem d_B_append_20 : decode b_B_append 20 = .ok (.ldc 38, 2) := by decide +kernel
theorem d_B_append_22 : decode b_B_append 22 = .ok (.if_icmp .le 5, 3) := by decide +kernel
theorem d_B_append_25 : decode b_B_append 25 = .ok (.iconst (-1), 1) := by decide +kernel
theorem d_B_append_26 : decode b_B_append 26 = .ok (.ireturn, 1) := by decide +kernel
theorem d_B_append_27 : decode b_B_append 27 = .ok (.aload_n 0, 1) := by decide +kernel
theorem d_B_append_28 : decode b_B_append 28 = .ok (.getfield 21, 3) := by decide +kernel
theorem d_B_append_31 : decode b_B_append 31 = .ok (.getfield 39, 3) := by decide +kernel
theorem d_B_append_34 : decode b_B_append 34 = .ok (.ifCond .le 6, 3) := by decide +kernel
theorem d_B_append_37 : decode b_B_append 37 = .ok (.bipush (-2), 2) := by decide +kernel
theorem d_B_append_39 : decode b_B_append 39 = .ok (.ireturn, 1) := by decide +kernel
theorem d_B_append_40 : decode b_B_append 40 = .ok (.iload_n 3, 1) := by decide +kernel
theorem d_B_append_41 : decode b_B_append 41 = .ok (.ldc 38, 2) := by decide +kernel
theorem d_B_append_43 : decode b_B_append 43 = .ok (.aload_n 0, 1) := by decide +kernel
theorem d_B_append_44 : decode b_B_append 44 = .ok (.getfield 27, 3) := by decide +kernel
theorem d_B_append_47 : decode b_B_append 47 = .ok (.isub, 1) := by decide +kernel
theorem d_B_append_48 : decode b_B_append 48 = .ok (.if_icmp .le 6, 3) := by decide +kernel
theorem d_B_append_51 : decode b_B_append 51 = .ok (.bipush (-3), 2) := by decide +kernel
theorem d_B_append_53 : decode b_B_append 53 = .ok (.ireturn, 1) := by decide +kernel
theorem d_B_append_54 : decode b_B_append 54 = .ok (.aload_n 0, 1) := by decide +kernel
theorem d_B_append_55 : decode b_B_append 55 = .ok (.getfield 18, 3) := by decide +kernel
theorem d_B_append_58 : decode b_B_append 58 = .ok (.invokevirtual 42, 3) := by decide +kernel
theorem d_B_append_61 : decode b_B_append 61 = .ok (.aload_n 0, 1) := by decide +kernel
theorem d_B_append_62 : decode b_B_append 62 = .ok (.iconst 0, 1) := by decide +kernel
theorem d_B_append_63 : decode b_B_append 63 = .ok (.iload_n 1, 1) := by decide +kernel
theorem d_B_append_64 : decode b_B_append 64 = .ok (.iload_n 3, 1) := by decide +kernel
theorem d_B_append_65 : decode b_B_append 65 = .ok (.invokevirtual 45, 3) := by decide +kernel
theorem d_B_append_68 : decode b_B_append 68 = .ok (.aload_n 0, 1) := by decide +kernel
theorem d_B_append_69 : decode b_B_append 69 = .ok (.iconst 1, 1) := by decide +kernel
theorem d_B_append_70 : decode b_B_append 70 = .ok (.iload_n 2, 1) := by decide +kernel
theorem d_B_append_71 : decode b_B_append 71 = .ok (.iload_n 3, 1) := by decide +kernel
theorem d_B_append_72 : decode b_B_append 72 = .ok (.invokevirtual 45, 3) := by decide +kernel
theorem d_B_append_75 : decode b_B_append 75 = .ok (.aload_n 0, 1) := by decide +kernel
theorem d_B_append_76 : decode b_B_append 76 = .ok (.getfield 18, 3) := by decide +kernel
theorem d_B_append_79 : decode b_B_append 79 = .ok (.invokevirtual 49, 3) := by decide +kernel
theorem d_B_append_82 : decode b_B_append 82 = .ok (.sipush 2000, 3) := by decide +kernel
theorem d_B_append_85 : decode b_B_append 85 = .ok (.if_icmp .le 6, 3) := by decide +kernel
theorem d_B_append_88 : decode b_B_append 88 = .ok (.bipush (-3), 2) := by decide +kernel
theorem d_B_append_90 : decode b_B_append 90 = .ok (.ireturn, 1) := by decide +kernel
theorem d_B_append_91 : decode b_B_append 91 = .ok (.aload_n 0, 1) := by decide +kernel
theorem d_B_append_92 : decode b_B_append 92 = .ok (.getfield 14, 3) := by decide +kernel
theorem d_B_append_95 : decode b_B_append 95 = .ok (.astore 4, 2) := by decide +kernel
theorem d_B_append_97 : decode b_B_append 97 = .ok (.aload_n 0, 1) := by decide +kernel
theorem d_B_append_98 : decode b_B_append 98 = .ok (.aload_n 0, 1) := by decide +kernel
theorem d_B_append_99 : decode b_B_append 99 = .ok (.getfield 18, 3) := by decide +kernel
theorem d_B_append_102 : decode b_B_append 102 = .ok (.putfield 14, 3) := by decide +kernel
theorem d_B_append_105 : decode b_B_append 105 = .ok (.aload_n 0, 1) := by decide +kernel
theorem d_B_append_106 : decode b_B_append 106 = .ok (.aload 4, 2) := by decide +kernel
theorem d_B_append_108 : decode b_B_append 108 = .ok (.putfield 18, 3) := by decide +kernel
theorem d_B_append_111 : decode b_B_append 111 = .ok (.aload_n 0, 1) := by decide +kernel
theorem d_B_append_112 : decode b_B_append 112 = .ok (.dup, 1) := by decide +kernel
theorem d_B_append_113 : decode b_B_append 113 = .ok (.getfield 27, 3) := by decide +kernel
theorem d_B_append_116 : decode b_B_append 116 = .ok (.iload_n 3, 1) := by decide +kernel
theorem d_B_append_117 : decode b_B_append 117 = .ok (.iadd, 1) := by decide +kernel
theorem d_B_append_118 : decode b_B_append 118 = .ok (.putfield 27, 3) := by decide +kernel
theorem d_B_append_121 : decode b_B_append 121 = .ok (.aload_n 0, 1) := by decide +kernel
theorem d_B_append_122 : decode b_B_append 122 = .ok (.getfield 27, 3) := by decide +kernel
theorem d_B_append_125 : decode b_B_append 125 = .ok (.ireturn, 1) := by decide +kernel
theorem d_B_push_0 : decode b_B_push 0 = .ok (.iload_n 1, 1) := by decide +kernel
theorem d_B_push_1 : decode b_B_push 1 = .ok (.ifCond .lt 15, 3) := by decide +kernel
theorem d_B_push_4 : decode b_B_push 4 = .ok (.iload_n 1, 1) := by decide +kernel
theorem d_B_push_5 : decode b_B_push 5 = .ok (.iconst 2, 1) := by decide +kernel
theorem d_B_push_6 : decode b_B_push 6 = .ok (.if_icmp .ge 10, 3) := by decide +kernel
theorem d_B_push_9 : decode b_B_push 9 = .ok (.iload_n 2, 1) := by decide +kernel
theorem d_B_push_10 : decode b_B_push 10 = .ok (.invokestatic 34, 3) := by decide +kernel
theorem d_B_push_13 : decode b_B_push 13 = .ok (.ifCond .ne 5, 3) := by decide +kernel
theorem d_B_push_16 : decode b_B_push 16 = .ok (.iconst (-1), 1) := by decide +kernel
theorem d_B_push_17 : decode b_B_push 17 = .ok (.ireturn, 1) := by decide +kernel
theorem d_B_push_18 : decode b_B_push 18 = .ok (.aload_n 0, 1) := by decide +kernel
theorem d_B_push_19 : decode b_B_push 19 = .ok (.aload_n 0, 1) := by decide +kernel
theorem d_B_push_20 : decode b_B_push 20 = .ok (.getfield 14, 3) := by decide +kernel
theorem d_B_push_23 : decode b_B_push 23 = .ok (.iload_n 1, 1) := by decide +kernel
theorem d_B_push_24 : decode b_B_push 24 = .ok (.bipush 16, 2) := by decide +kernel
theorem d_B_push_26 : decode b_B_push 26 = .ok (.imul, 1) := by decide +kernel
theorem d_B_push_27 : decode b_B_push 27 = .ok (.iload_n 2, 1) := by decide +kernel
theorem d_B_push_28 : decode b_B_push 28 = .ok (.iadd, 1) := by decide +kernel
theorem d_B_push_29 : decode b_B_push 29 = .ok (.invokevirtual 53, 3) := by decide +kernel
theorem d_B_push_32 : decode b_B_push 32 = .ok (.ireturn, 1) := by decide +kernel
theorem d_B_copy_0 : decode b_B_copy 0 = .ok (.aload_n 0, 1) := by decide +kernel
theorem d_B_copy_1 : decode b_B_copy 1 = .ok (.getfield 21, 3) := by decide +kernel
theorem d_B_copy_4 : decode b_B_copy 4 = .ok (.getfield 39, 3) := by decide +kernel
theorem d_B_copy_7 : decode b_B_copy 7 = .ok (.iconst 1, 1) := by decide +kernel
theorem d_B_copy_8 : decode b_B_copy 8 = .ok (.if_icmp .ge 6, 3) := by decide +kernel
theorem d_B_copy_11 : decode b_B_copy 11 = .ok (.bipush (-4), 2) := by decide +kernel
theorem d_B_copy_13 : decode b_B_copy 13 = .ok (.ireturn, 1) := by decide +kernel
theorem d_B_copy_14 : decode b_B_copy 14 = .ok (.aload_n 0, 1) := by decide +kernel
theorem d_B_copy_15 : decode b_B_copy 15 = .ok (.aload_n 0, 1) := by decide +kernel
theorem d_B_copy_16 : decode b_B_copy 16 = .ok (.getfield 21, 3) := by decide +kernel
theorem d_B_copy_19 : decode b_B_copy 19 = .ok (.aload_n 0, 1) := by decide +kernel
theorem d_B_copy_20 : decode b_B_copy 20 = .ok (.getfield 21, 3) := by decide +kernel
theorem d_B_copy_23 : decode b_B_copy 23 = .ok (.getfield 39, 3) := by decide +kernel
theorem d_B_copy_26 : decode b_B_copy 26 = .ok (.iconst 1, 1) := by decide +kernel
theorem d_B_copy_27 : decode b_B_copy 27 = .ok (.isub, 1) := by decide +kernel
theorem d_B_copy_28 : decode b_B_copy 28 = .ok (.invokevirtual 53, 3) := by decide +kernel
theorem d_B_copy_31 : decode b_B_copy 31 = .ok (.ireturn, 1) := by decide +kernel
theorem d_B_join_0 : decode b_B_join 0 = .ok (.iload_n 1, 1) := by decide +kernel
theorem d_B_join_1 : decode b_B_join 1 = .ok (.ifCond .lt 8, 3) := by decide +kernel
theorem d_B_join_4 : decode b_B_join 4 = .ok (.iload_n 1, 1) := by decide +kernel
theorem d_B_join_5 : decode b_B_join 5 = .ok (.iconst 3, 1) := by decide +kernel
theorem d_B_join_6 : decode b_B_join 6 = .ok (.if_icmp .le 5, 3) := by decide +kernel
theorem d_B_join_9 : decode b_B_join 9 = .ok (.iconst (-1), 1) := by decide +kernel
theorem d_B_join_10 : decode b_B_join 10 = .ok (.ireturn, 1) := by decide +kernel
theorem d_B_join_11 : decode b_B_join 11 = .ok (.aload_n 0, 1) := by decide +kernel
theorem d_B_join_12 : decode b_B_join 12 = .ok (.getfield 21, 3) := by decide +kernel
theorem d_B_join_15 : decode b_B_join 15 = .ok (.getfield 39, 3) := by decide +kernel
theorem d_B_join_18 : decode b_B_join 18 = .ok (.iconst 2, 1) := by decide +kernel
theorem d_B_join_19 : decode b_B_join 19 = .ok (.if_icmp .ge 6, 3) := by decide +kernel
theorem d_B_join_22 : decode b_B_join 22 = .ok (.bipush (-4), 2) := by decide +kernel
theorem d_B_join_24 : decode b_B_join 24 = .ok (.ireturn, 1) := by decide +kernel
theorem d_B_join_25 : decode b_B_join 25 = .ok (.aload_n 0, 1) := by decide +kernel
theorem d_B_join_26 : decode b_B_join 26 = .ok (.getfield 24, 3) := by decide +kernel
theorem d_B_join_29 : decode b_B_join 29 = .ok (.invokevirtual 42, 3) := by decide +kernel
theorem d_B_join_32 : decode b_B_join 32 = .ok (.aload_n 0, 1) := by decide +kernel
theorem d_B_join_33 : decode b_B_join 33 = .ok (.getfield 24, 3) := by decide +kernel
theorem d_B_join_36 : decode b_B_join 36 = .ok (.invokevirtual 31, 3) := by decide +kernel
theorem d_B_join_39 : decode b_B_join 39 = .ok (.aload_n 0, 1) := by decide +kernel
theorem d_B_join_40 : decode b_B_join 40 = .ok (.getfield 24, 3) := by decide +kernel
theorem d_B_join_43 : decode b_B_join 43 = .ok (.aload_n 0, 1) := by decide +kernel
theorem d_B_join_44 : decode b_B_join 44 = .ok (.getfield 21, 3) := by decide +kernel
theorem d_B_join_47 : decode b_B_join 47 = .ok (.aload_n 0, 1) := by decide +kernel
theorem d_B_join_48 : decode b_B_join 48 = .ok (.getfield 21, 3) := by decide +kernel
theorem d_B_join_51 : decode b_B_join 51 = .ok (.getfield 39, 3) := by decide +kernel
theorem d_B_join_54 : decode b_B_join 54 = .ok (.iconst 2, 1) := by decide +kernel
theorem d_B_join_55 : decode b_B_join 55 = .ok (.isub, 1) := by decide +kernel
theorem d_B_join_56 : decode b_B_join 56 = .ok (.aload_n 0, 1) := by decide +kernel
theorem d_B_join_57 : decode b_B_join 57 = .ok (.getfield 21, 3) := by decide +kernel
theorem d_B_join_60 : decode b_B_join 60 = .ok (.getfield 39, 3) := by decide +kernel
theorem d_B_join_63 : decode b_B_join 63 = .ok (.iconst 1, 1) := by decide +kernel
theorem d_B_join_64 : decode b_B_join 64 = .ok (.isub, 1) := by decide +kernel
theorem d_B_join_65 : decode b_B_join 65 = .ok (.iload_n 1, 1) := by decide +kernel
theorem d_B_join_66 : decode b_B_join 66 = .ok (.invokevirtual 57, 3) := by decide +kernel
theorem d_B_join_69 : decode b_B_join 69 = .ok (.aload_n 0, 1) := by decide +kernel
theorem d_B_join_70 : decode b_B_join 70 = .ok (.iconst 2, 1) := by decide +kernel
theorem d_B_join_71 : decode b_B_join 71 = .ok (.invokevirtual 61, 3) := by decide +kernel
theorem d_B_join_74 : decode b_B_join 74 = .ok (.ireturn, 1) := by decide +kernel
theorem d_B_not_0 : decode b_B_not 0 = .ok (.aload_n 0, 1) := by decide +kernel
theorem d_B_not_1 : decode b_B_not 1 = .ok (.getfield 21, 3) := by decide +kernel
theorem d_B_not_4 : decode b_B_not 4 = .ok (.getfield 39, 3) := by decide +kernel
theorem d_B_not_7 : decode b_B_not 7 = .ok (.iconst 1, 1) := by decide +kernel
theorem d_B_not_8 : decode b_B_not 8 = .ok (.if_icmp .ge 6, 3) := by decide +kernel
theorem d_B_not_11 : decode b_B_not 11 = .ok (.bipush (-4), 2) := by decide +kernel
theorem d_B_not_13 : decode b_B_not 13 = .ok (.ireturn, 1) := by decide +kernel
theorem d_B_not_14 : decode b_B_not 14 = .ok (.aload_n 0, 1) := by decide +kernel
theorem d_B_not_15 : decode b_B_not 15 = .ok (.getfield 24, 3) := by decide +kernel
theorem d_B_not_18 : decode b_B_not 18 = .ok (.invokevirtual 42, 3) := by decide +kernel
theorem d_B_not_21 : decode b_B_not 21 = .ok (.aload_n 0, 1) := by decide +kernel
theorem d_B_not_22 : decode b_B_not 22 = .ok (.getfield 24, 3) := by decide +kernel
theorem d_B_not_25 : decode b_B_not 25 = .ok (.invokevirtual 31, 3) := by decide +kernel
theorem d_B_not_28 : decode b_B_not 28 = .ok (.aload_n 0, 1) := by decide +kernel
theorem d_B_not_29 : decode b_B_not 29 = .ok (.getfield 24, 3) := by decide +kernel
theorem d_B_not_32 : decode b_B_not 32 = .ok (.aload_n 0, 1) := by decide +kernel
theorem d_B_not_33 : decode b_B_not 33 = .ok (.getfield 21, 3) := by decide +kernel
theorem d_B_not_36 : decode b_B_not 36 = .ok (.aload_n 0, 1) := by decide +kernel
theorem d_B_not_37 : decode b_B_not 37 = .ok (.getfield 21, 3) := by decide +kernel
theorem d_B_not_40 : decode b_B_not 40 = .ok (.getfield 39, 3) := by decide +kernel
theorem d_B_not_43 : decode b_B_not 43 = .ok (.iconst 1, 1) := by decide +kernel
theorem d_B_not_44 : decode b_B_not 44 = .ok (.isub, 1) := by decide +kernel
theorem d_B_not_45 : decode b_B_not 45 = .ok (.aload_n 0, 1) := by decide +kernel
theorem d_B_not_46 : decode b_B_not 46 = .ok (.getfield 27, 3) := by decide +kernel
theorem d_B_not_49 : decode b_B_not 49 = .ok (.bipush 31, 2) := by decide +kernel
theorem d_B_not_51 : decode b_B_not 51 = .ok (.irem, 1) := by decide +kernel
theorem d_B_not_52 : decode b_B_not 52 = .ok (.invokevirtual 65, 3) := by decide +kernel
theorem d_B_not_55 : decode b_B_not 55 = .ok (.aload_n 0, 1) := by decide +kernel
theorem d_B_not_56 : decode b_B_not 56 = .ok (.iconst 1, 1) := by decide +kernel
theorem d_B_not_57 : decode b_B_not 57 = .ok (.invokevirtual 61, 3) := by decide +kernel
theorem d_B_not_60 : decode b_B_not 60 = .ok (.ireturn, 1) := by decide +kernel
theorem d_B_count_0 : decode b_B_count 0 = .ok (.aload_n 0, 1) := by decide +kernel
theorem d_B_count_1 : decode b_B_count 1 = .ok (.getfield 21, 3) := by decide +kernel
theorem d_B_count_4 : decode b_B_count 4 = .ok (.getfield 39, 3) := by decide +kernel
theorem d_B_count_7 : decode b_B_count 7 = .ok (.iconst 1, 1) := by decide +kernel
theorem d_B_count_8 : decode b_B_count 8 = .ok (.if_icmp .ge 7, 3) := by decide +kernel
theorem d_B_count_11 : decode b_B_count 11 = .ok (.iconst (-1), 1) := by decide +kernel
theorem d_B_count_12 : decode b_B_count 12 = .ok (.goto 19, 3) := by decide +kernel
theorem d_B_count_15 : decode b_B_count 15 = .ok (.aload_n 0, 1) := by decide +kernel
theorem d_B_count_16 : decode b_B_count 16 = .ok (.getfield 21, 3) := by decide +kernel
theorem d_B_count_19 : decode b_B_count 19 = .ok (.aload_n 0, 1) := by decide +kernel
theorem d_B_count_20 : decode b_B_count 20 = .ok (.getfield 21, 3) := by decide +kernel
theorem d_B_count_23 : decode b_B_count 23 = .ok (.getfield 39, 3) := by decide +kernel
theorem d_B_count_26 : decode b_B_count 26 = .ok (.iconst 1, 1) := by decide +kernel
theorem d_B_count_27 : decode b_B_count 27 = .ok (.isub, 1) := by decide +kernel
theorem d_B_count_28 : decode b_B_count 28 = .ok (.invokevirtual 69, 3) := by decide +kernel
theorem d_B_count_31 : decode b_B_count 31 = .ok (.ireturn, 1) := by decide +kernel
theorem d_B_after_0 : decode b_B_after 0 = .ok (.aload_n 0, 1) := by decide +kernel
theorem d_B_after_1 : decode b_B_after 1 = .ok (.getfield 21, 3) := by decide +kernel
theorem d_B_after_4 : decode b_B_after 4 = .ok (.getfield 39, 3) := by decide +kernel
theorem d_B_after_7 : decode b_B_after 7 = .ok (.iconst 1, 1) := by decide +kernel
theorem d_B_after_8 : decode b_B_after 8 = .ok (.if_icmp .lt 11, 3) := by decide +kernel
theorem d_B_after_11 : decode b_B_after 11 = .ok (.iload_n 1, 1) := by decide +kernel
theorem d_B_after_12 : decode b_B_after 12 = .ok (.aload_n 0, 1) := by decide +kernel
theorem d_B_after_13 : decode b_B_after 13 = .ok (.getfield 27, 3) := by decide +kernel
theorem d_B_after_16 : decode b_B_after 16 = .ok (.if_icmp .lt 5, 3) := by decide +kernel
theorem d_B_after_19 : decode b_B_after 19 = .ok (.iconst (-1), 1) := by decide +kernel
theorem d_B_after_20 : decode b_B_after 20 = .ok (.ireturn, 1) := by decide +kernel
theorem d_B_after_21 : decode b_B_after 21 = .ok (.aload_n 0, 1) := by decide +kernel
theorem d_B_after_22 : decode b_B_after 22 = .ok (.getfield 21, 3) := by decide +kernel
theorem d_B_after_25 : decode b_B_after 25 = .ok (.aload_n 0, 1) := by decide +kernel
theorem d_B_after_26 : decode b_B_after 26 = .ok (.getfield 21, 3) := by decide +kernel
theorem d_B_after_29 : decode b_B_after 29 = .ok (.getfield 39, 3) := by decide +kernel
theorem d_B_after_32 : decode b_B_after 32 = .ok (.iconst 1, 1) := by decide +kernel
theorem d_B_after_33 : decode b_B_after 33 = .ok (.isub, 1) := by decide +kernel
theorem d_B_after_34 : decode b_B_after 34 = .ok (.iload_n 1, 1) := by decide +kernel
theorem d_B_after_35 : decode b_B_after 35 = .ok (.iconst (-1), 1) := by decide +kernel
theorem d_B_after_36 : decode b_B_after 36 = .ok (.invokestatic 72, 3) := by decide +kernel
theorem d_B_after_39 : decode b_B_after 39 = .ok (.iconst 1, 1) := by decide +kernel
theorem d_B_after_40 : decode b_B_after 40 = .ok (.iadd, 1) := by decide +kernel
theorem d_B_after_41 : decode b_B_after 41 = .ok (.invokevirtual 78, 3) := by decide +kernel
theorem d_B_after_44 : decode b_B_after 44 = .ok (.ireturn, 1) := by decide +kernel
theorem d_B_words_0 : decode b_B_words 0 = .ok (.aload_n 0, 1) := by decide +kernel
theorem d_B_words_1 : decode b_B_words 1 = .ok (.getfield 21, 3) := by decide +kernel
theorem d_B_words_4 : decode b_B_words 4 = .ok (.getfield 39, 3) := by decide +kernel
theorem d_B_words_7 : decode b_B_words 7 = .ok (.iconst 1, 1) := by decide +kernel
theorem d_B_words_8 : decode b_B_words 8 = .ok (.if_icmp .ge 7, 3) := by decide +kernel
theorem d_B_words_11 : decode b_B_words 11 = .ok (.iconst (-1), 1) := by decide +kernel
theorem d_B_words_12 : decode b_B_words 12 = .ok (.goto 19, 3) := by decide +kernel
theorem d_B_words_15 : decode b_B_words 15 = .ok (.aload_n 0, 1) := by decide +kernel
theorem d_B_words_16 : decode b_B_words 16 = .ok (.getfield 21, 3) := by decide +kernel
theorem d_B_words_19 : decode b_B_words 19 = .ok (.aload_n 0, 1) := by decide +kernel
theorem d_B_words_20 : decode b_B_words 20 = .ok (.getfield 21, 3) := by decide +kernel
theorem d_B_words_23 : decode b_B_words 23 = .ok (.getfield 39, 3) := by decide +kernel
theorem d_B_words_26 : decode b_B_words 26 = .ok (.iconst 1, 1) := by decide +kernel
theorem d_B_words_27 : decode b_B_words 27 = .ok (.isub, 1) := by decide +kernel
theorem d_B_words_28 : decode b_B_words 28 = .ok (.invokevirtual 81, 3) := by decide +kernel
theorem d_B_words_31 : decode b_B_words 31 = .ok (.ireturn, 1) := by decide +kernel
theorem d_B_word_0 : decode b_B_word 0 = .ok (.aload_n 0, 1) := by decide +kernel
theorem d_B_word_1 : decode b_B_word 1 = .ok (.getfield 21, 3) := by decide +kernel
theorem d_B_word_4 : decode b_B_word 4 = .ok (.getfield 39, 3) := by decide +kernel
theorem d_B_word_7 : decode b_B_word 7 = .ok (.iconst 1, 1) := by decide +kernel
theorem d_B_word_8 : decode b_B_word 8 = .ok (.if_icmp .ge 7, 3) := by decide +kernel
theorem d_B_word_11 : decode b_B_word 11 = .ok (.iconst 0, 1) := by decide +kernel
theorem d_B_word_12 : decode b_B_word 12 = .ok (.goto 20, 3) := by decide +kernel
theorem d_B_word_15 : decode b_B_word 15 = .ok (.aload_n 0, 1) := by decide +kernel
theorem d_B_word_16 : decode b_B_word 16 = .ok (.getfield 21, 3) := by decide +kernel
theorem d_B_word_19 : decode b_B_word 19 = .ok (.aload_n 0, 1) := by decide +kernel
theorem d_B_word_20 : decode b_B_word 20 = .ok (.getfield 21, 3) := by decide +kernel
theorem d_B_word_23 : decode b_B_word 23 = .ok (.getfield 39, 3) := by decide +kernel
theorem d_B_word_26 : decode b_B_word 26 = .ok (.iconst 1, 1) := by decide +kernel
theorem d_B_word_27 : decode b_B_word 27 = .ok (.isub, 1) := by decide +kernel
theorem d_B_word_28 : decode b_B_word 28 = .ok (.iload_n 1, 1) := by decide +kernel
theorem d_B_word_29 : decode b_B_word 29 = .ok (.invokevirtual 84, 3) := by decide +kernel
theorem d_B_word_32 : decode b_B_word 32 = .ok (.ireturn, 1) := by decide +kernel
theorem d_B_pop_0 : decode b_B_pop 0 = .ok (.aload_n 0, 1) := by decide +kernel
theorem d_B_pop_1 : decode b_B_pop 1 = .ok (.getfield 21, 3) := by decide +kernel
theorem d_B_pop_4 : decode b_B_pop 4 = .ok (.getfield 39, 3) := by decide +kernel
theorem d_B_pop_7 : decode b_B_pop 7 = .ok (.iconst 1, 1) := by decide +kernel
theorem d_B_pop_8 : decode b_B_pop 8 = .ok (.if_icmp .ge 6, 3) := by decide +kernel
theorem d_B_pop_11 : decode b_B_pop 11 = .ok (.bipush (-4), 2) := by decide +kernel
theorem d_B_pop_13 : decode b_B_pop 13 = .ok (.ireturn, 1) := by decide +kernel
theorem d_B_pop_14 : decode b_B_pop 14 = .ok (.aload_n 0, 1) := by decide +kernel
theorem d_B_pop_15 : decode b_B_pop 15 = .ok (.getfield 21, 3) := by decide +kernel
theorem d_B_pop_18 : decode b_B_pop 18 = .ok (.invokevirtual 87, 3) := by decide +kernel
theorem d_B_pop_21 : decode b_B_pop 21 = .ok (.aload_n 0, 1) := by decide +kernel
theorem d_B_pop_22 : decode b_B_pop 22 = .ok (.getfield 21, 3) := by decide +kernel
theorem d_B_pop_25 : decode b_B_pop 25 = .ok (.getfield 39, 3) := by decide +kernel
theorem d_B_pop_28 : decode b_B_pop 28 = .ok (.ireturn, 1) := by decide +kernel
theorem d_B_room_0 : decode b_B_room 0 = .ok (.aload_n 0, 1) := by decide +kernel
theorem d_B_room_1 : decode b_B_room 1 = .ok (.getfield 14, 3) := by decide +kernel
theorem d_B_room_4 : decode b_B_room 4 = .ok (.invokevirtual 49, 3) := by decide +kernel
theorem d_B_room_7 : decode b_B_room 7 = .ok (.ireturn, 1) := by decide +kernel
theorem d_B_stackRoom_0 : decode b_B_stackRoom 0 = .ok (.aload_n 0, 1) := by decide +kernel
theorem d_B_stackRoom_1 : decode b_B_stackRoom 1 = .ok (.getfield 21, 3) := by decide +kernel
theorem d_B_stackRoom_4 : decode b_B_stackRoom 4 = .ok (.invokevirtual 49, 3) := by decide +kernel
theorem d_B_stackRoom_7 : decode b_B_stackRoom 7 = .ok (.ireturn, 1) := by decide +kernel
theorem d_B_rows_0 : decode b_B_rows 0 = .ok (.aload_n 0, 1) := by decide +kernel
theorem d_B_rows_1 : decode b_B_rows 1 = .ok (.getfield 27, 3) := by decide +kernel
theorem d_B_rows_4 : decode b_B_rows 4 = .ok (.ireturn, 1) := by decide +kernel
theorem d_B_isValue_0 : decode b_B_isValue 0 = .ok (.iload_n 0, 1) := by decide +kernel
theorem d_B_isValue_1 : decode b_B_isValue 1 = .ok (.ifCond .lt 13, 3) := by decide +kernel
theorem d_B_isValue_4 : decode b_B_isValue 4 = .ok (.iload_n 0, 1) := by decide +kernel
theorem d_B_isValue_5 : decode b_B_isValue 5 = .ok (.bipush 16, 2) := by decide +kernel
theorem d_B_isValue_7 : decode b_B_isValue 7 = .ok (.if_icmp .ge 7, 3) := by decide +kernel
theorem d_B_isValue_10 : decode b_B_isValue 10 = .ok (.iconst 1, 1) := by decide +kernel
theorem d_B_isValue_11 : decode b_B_isValue 11 = .ok (.goto 4, 3) := by decide +kernel
theorem d_B_isValue_14 : decode b_B_isValue 14 = .ok (.iconst 0, 1) := by decide +kernel
theorem d_B_isValue_15 : decode b_B_isValue 15 = .ok (.ireturn, 1) := by decide +kernel
theorem d_B_draftColumn_0 : decode b_B_draftColumn 0 = .ok (.iconst 0, 1) := by decide +kernel
theorem d_B_draftColumn_1 : decode b_B_draftColumn 1 = .ok (.istore 4, 2) := by decide +kernel
theorem d_B_draftColumn_3 : decode b_B_draftColumn 3 = .ok (.iload 4, 2) := by decide +kernel
theorem d_B_draftColumn_5 : decode b_B_draftColumn 5 = .ok (.bipush 16, 2) := by decide +kernel
theorem d_B_draftColumn_7 : decode b_B_draftColumn 7 = .ok (.if_icmp .ge 60, 3) := by decide +kernel
theorem d_B_draftColumn_10 : decode b_B_draftColumn 10 = .ok (.aload_n 0, 1) := by decide +kernel
theorem d_B_draftColumn_11 : decode b_B_draftColumn 11 = .ok (.getfield 18, 3) := by decide +kernel
theorem d_B_draftColumn_14 : decode b_B_draftColumn 14 = .ok (.invokevirtual 31, 3) := by decide +kernel
theorem d_B_draftColumn_17 : decode b_B_draftColumn 17 = .ok (.aload_n 0, 1) := by decide +kernel
theorem d_B_draftColumn_18 : decode b_B_draftColumn 18 = .ok (.getfield 18, 3) := by decide +kernel
theorem d_B_draftColumn_21 : decode b_B_draftColumn 21 = .ok (.aload_n 0, 1) := by decide +kernel
theorem d_B_draftColumn_22 : decode b_B_draftColumn 22 = .ok (.getfield 14, 3) := by decide +kernel
theorem d_B_draftColumn_25 : decode b_B_draftColumn 25 = .ok (.iload_n 1, 1) := by decide +kernel
theorem d_B_draftColumn_26 : decode b_B_draftColumn 26 = .ok (.bipush 16, 2) := by decide +kernel
theorem d_B_draftColumn_28 : decode b_B_draftColumn 28 = .ok (.imul, 1) := by decide +kernel
theorem d_B_draftColumn_29 : decode b_B_draftColumn 29 = .ok (.iload 4, 2) := by decide +kernel
theorem d_B_draftColumn_31 : decode b_B_draftColumn 31 = .ok (.iadd, 1) := by decide +kernel
theorem d_B_draftColumn_32 : decode b_B_draftColumn 32 = .ok (.invokevirtual 90, 3) := by decide +kernel
theorem d_B_draftColumn_35 : decode b_B_draftColumn 35 = .ok (.aload_n 0, 1) := by decide +kernel
theorem d_B_draftColumn_36 : decode b_B_draftColumn 36 = .ok (.getfield 18, 3) := by decide +kernel
theorem d_B_draftColumn_39 : decode b_B_draftColumn 39 = .ok (.iload 4, 2) := by decide +kernel
theorem d_B_draftColumn_41 : decode b_B_draftColumn 41 = .ok (.iload_n 2, 1) := by decide +kernel
theorem d_B_draftColumn_42 : decode b_B_draftColumn 42 = .ok (.if_icmp .ne 7, 3) := by decide +kernel
theorem d_B_draftColumn_45 : decode b_B_draftColumn 45 = .ok (.iconst 1, 1) := by decide +kernel
theorem d_B_draftColumn_46 : decode b_B_draftColumn 46 = .ok (.goto 4, 3) := by decide +kernel
theorem d_B_draftColumn_49 : decode b_B_draftColumn 49 = .ok (.iconst 0, 1) := by decide +kernel
theorem d_B_draftColumn_50 : decode b_B_draftColumn 50 = .ok (.aload_n 0, 1) := by decide +kernel
theorem d_B_draftColumn_51 : decode b_B_draftColumn 51 = .ok (.getfield 27, 3) := by decide +kernel
theorem d_B_draftColumn_54 : decode b_B_draftColumn 54 = .ok (.bipush 31, 2) := by decide +kernel
theorem d_B_draftColumn_56 : decode b_B_draftColumn 56 = .ok (.irem, 1) := by decide +kernel
theorem d_B_draftColumn_57 : decode b_B_draftColumn 57 = .ok (.iload_n 3, 1) := by decide +kernel
theorem d_B_draftColumn_58 : decode b_B_draftColumn 58 = .ok (.invokevirtual 94, 3) := by decide +kernel
theorem d_B_draftColumn_61 : decode b_B_draftColumn 61 = .ok (.iinc 4 1, 3) := by decide +kernel
theorem d_B_draftColumn_64 : decode b_B_draftColumn 64 = .ok (.goto (-61), 3) := by decide +kernel
theorem d_B_draftColumn_67 : decode b_B_draftColumn 67 = .ok (.return_, 1) := by decide +kernel
theorem d_B_stackUp_0 : decode b_B_stackUp 0 = .ok (.aload_n 0, 1) := by decide +kernel
theorem d_B_stackUp_1 : decode b_B_stackUp 1 = .ok (.getfield 21, 3) := by decide +kernel
theorem d_B_stackUp_4 : decode b_B_stackUp 4 = .ok (.getfield 39, 3) := by decide +kernel
theorem d_B_stackUp_7 : decode b_B_stackUp 7 = .ok (.bipush 12, 2) := by decide +kernel
theorem d_B_stackUp_9 : decode b_B_stackUp 9 = .ok (.if_icmp .ge 22, 3) := by decide +kernel
theorem d_B_stackUp_12 : decode b_B_stackUp 12 = .ok (.aload_n 0, 1) := by decide +kernel
theorem d_B_stackUp_13 : decode b_B_stackUp 13 = .ok (.getfield 21, 3) := by decide +kernel
theorem d_B_stackUp_16 : decode b_B_stackUp 16 = .ok (.invokevirtual 49, 3) := by decide +kernel
theorem d_B_stackUp_19 : decode b_B_stackUp 19 = .ok (.aload_n 1, 1) := by decide +kernel
theorem d_B_stackUp_20 : decode b_B_stackUp 20 = .ok (.iload_n 2, 1) := by decide +kernel
theorem d_B_stackUp_21 : decode b_B_stackUp 21 = .ok (.invokevirtual 81, 3) := by decide +kernel
theorem d_B_stackUp_24 : decode b_B_stackUp 24 = .ok (.iadd, 1) := by decide +kernel
theorem d_B_stackUp_25 : decode b_B_stackUp 25 = .ok (.sipush 3000, 3) := by decide +kernel
theorem d_B_stackUp_28 : decode b_B_stackUp 28 = .ok (.if_icmp .le 6, 3) := by decide +kernel
theorem d_B_stackUp_31 : decode b_B_stackUp 31 = .ok (.bipush (-3), 2) := by decide +kernel
theorem d_B_stackUp_33 : decode b_B_stackUp 33 = .ok (.ireturn, 1) := by decide +kernel
theorem d_B_stackUp_34 : decode b_B_stackUp 34 = .ok (.aload_n 0, 1) := by decide +kernel
theorem d_B_stackUp_35 : decode b_B_stackUp 35 = .ok (.getfield 21, 3) := by decide +kernel
theorem d_B_stackUp_38 : decode b_B_stackUp 38 = .ok (.invokevirtual 31, 3) := by decide +kernel
theorem d_B_stackUp_41 : decode b_B_stackUp 41 = .ok (.aload_n 0, 1) := by decide +kernel
theorem d_B_stackUp_42 : decode b_B_stackUp 42 = .ok (.getfield 21, 3) := by decide +kernel
theorem d_B_stackUp_45 : decode b_B_stackUp 45 = .ok (.aload_n 1, 1) := by decide +kernel
theorem d_B_stackUp_46 : decode b_B_stackUp 46 = .ok (.iload_n 2, 1) := by decide +kernel
theorem d_B_stackUp_47 : decode b_B_stackUp 47 = .ok (.invokevirtual 90, 3) := by decide +kernel
theorem d_B_stackUp_50 : decode b_B_stackUp 50 = .ok (.aload_n 0, 1) := by decide +kernel
theorem d_B_stackUp_51 : decode b_B_stackUp 51 = .ok (.getfield 21, 3) := by decide +kernel
theorem d_B_stackUp_54 : decode b_B_stackUp 54 = .ok (.getfield 39, 3) := by decide +kernel
theorem d_B_stackUp_57 : decode b_B_stackUp 57 = .ok (.ireturn, 1) := by decide +kernel
theorem d_B_replaceTop_0 : decode b_B_replaceTop 0 = .ok (.aload_n 0, 1) := by decide +kernel
theorem d_B_replaceTop_1 : decode b_B_replaceTop 1 = .ok (.getfield 21, 3) := by decide +kernel
theorem d_B_replaceTop_4 : decode b_B_replaceTop 4 = .ok (.aload_n 0, 1) := by decide +kernel
theorem d_B_replaceTop_5 : decode b_B_replaceTop 5 = .ok (.getfield 21, 3) := by decide +kernel
theorem d_B_replaceTop_8 : decode b_B_replaceTop 8 = .ok (.getfield 39, 3) := by decide +kernel
theorem d_B_replaceTop_11 : decode b_B_replaceTop 11 = .ok (.iload_n 1, 1) := by decide +kernel
theorem d_B_replaceTop_12 : decode b_B_replaceTop 12 = .ok (.isub, 1) := by decide +kernel
theorem d_B_replaceTop_13 : decode b_B_replaceTop 13 = .ok (.invokevirtual 98, 3) := by decide +kernel
theorem d_B_replaceTop_16 : decode b_B_replaceTop 16 = .ok (.istore_n 2, 1) := by decide +kernel
theorem d_B_replaceTop_17 : decode b_B_replaceTop 17 = .ok (.iload_n 2, 1) := by decide +kernel
theorem d_B_replaceTop_18 : decode b_B_replaceTop 18 = .ok (.aload_n 0, 1) := by decide +kernel
theorem d_B_replaceTop_19 : decode b_B_replaceTop 19 = .ok (.getfield 24, 3) := by decide +kernel
theorem d_B_replaceTop_22 : decode b_B_replaceTop 22 = .ok (.invokevirtual 49, 3) := by decide +kernel
theorem d_B_replaceTop_25 : decode b_B_replaceTop 25 = .ok (.iadd, 1) := by decide +kernel
theorem d_B_replaceTop_26 : decode b_B_replaceTop 26 = .ok (.sipush 3000, 3) := by decide +kernel
theorem d_B_replaceTop_29 : decode b_B_replaceTop 29 = .ok (.if_icmp .le 6, 3) := by decide +kernel
theorem d_B_replaceTop_32 : decode b_B_replaceTop 32 = .ok (.bipush (-3), 2) := by decide +kernel
theorem d_B_replaceTop_34 : decode b_B_replaceTop 34 = .ok (.ireturn, 1) := by decide +kernel
theorem d_B_replaceTop_35 : decode b_B_replaceTop 35 = .ok (.iconst 0, 1) := by decide +kernel
theorem d_B_replaceTop_36 : decode b_B_replaceTop 36 = .ok (.istore_n 3, 1) := by decide +kernel
theorem d_B_replaceTop_37 : decode b_B_replaceTop 37 = .ok (.iload_n 3, 1) := by decide +kernel
theorem d_B_replaceTop_38 : decode b_B_replaceTop 38 = .ok (.iload_n 1, 1) := by decide +kernel
theorem d_B_replaceTop_39 : decode b_B_replaceTop 39 = .ok (.if_icmp .ge 16, 3) := by decide +kernel
theorem d_B_replaceTop_42 : decode b_B_replaceTop 42 = .ok (.aload_n 0, 1) := by decide +kernel
theorem d_B_replaceTop_43 : decode b_B_replaceTop 43 = .ok (.getfield 21, 3) := by decide +kernel
theorem d_B_replaceTop_46 : decode b_B_replaceTop 46 = .ok (.invokevirtual 87, 3) := by decide +kernel
theorem d_B_replaceTop_49 : decode b_B_replaceTop 49 = .ok (.iinc 3 1, 3) := by decide +kernel
theorem d_B_replaceTop_52 : decode b_B_replaceTop 52 = .ok (.goto (-15), 3) := by decide +kernel
theorem d_B_replaceTop_55 : decode b_B_replaceTop 55 = .ok (.aload_n 0, 1) := by decide +kernel
theorem d_B_replaceTop_56 : decode b_B_replaceTop 56 = .ok (.getfield 21, 3) := by decide +kernel
theorem d_B_replaceTop_59 : decode b_B_replaceTop 59 = .ok (.invokevirtual 31, 3) := by decide +kernel
theorem d_B_replaceTop_62 : decode b_B_replaceTop 62 = .ok (.aload_n 0, 1) := by decide +kernel
theorem d_B_replaceTop_63 : decode b_B_replaceTop 63 = .ok (.getfield 21, 3) := by decide +kernel
theorem d_B_replaceTop_66 : decode b_B_replaceTop 66 = .ok (.aload_n 0, 1) := by decide +kernel
theorem d_B_replaceTop_67 : decode b_B_replaceTop 67 = .ok (.getfield 24, 3) := by decide +kernel
theorem d_B_replaceTop_70 : decode b_B_replaceTop 70 = .ok (.iconst 0, 1) := by decide +kernel
theorem d_B_replaceTop_71 : decode b_B_replaceTop 71 = .ok (.invokevirtual 90, 3) := by decide +kernel
theorem d_B_replaceTop_74 : decode b_B_replaceTop 74 = .ok (.aload_n 0, 1) := by decide +kernel
theorem d_B_replaceTop_75 : decode b_B_replaceTop 75 = .ok (.getfield 21, 3) := by decide +kernel
theorem d_B_replaceTop_78 : decode b_B_replaceTop 78 = .ok (.getfield 39, 3) := by decide +kernel
theorem d_B_replaceTop_81 : decode b_B_replaceTop 81 = .ok (.ireturn, 1) := by decide +kernel
theorem d_B_fillOf_0 : decode b_B_fillOf 0 = .ok (.iload_n 0, 1) := by decide +kernel
theorem d_B_fillOf_1 : decode b_B_fillOf 1 = .ok (.ldc 101, 2) := by decide +kernel
theorem d_B_fillOf_3 : decode b_B_fillOf 3 = .ok (.if_icmp .ne 12, 3) := by decide +kernel
theorem d_B_fillOf_6 : decode b_B_fillOf 6 = .ok (.bipush (-2), 2) := by decide +kernel
theorem d_B_fillOf_8 : decode b_B_fillOf 8 = .ok (.iload_n 1, 1) := by decide +kernel
theorem d_B_fillOf_9 : decode b_B_fillOf 9 = .ok (.imul, 1) := by decide +kernel
theorem d_B_fillOf_10 : decode b_B_fillOf 10 = .ok (.iconst 1, 1) := by decide +kernel
theorem d_B_fillOf_11 : decode b_B_fillOf 11 = .ok (.isub, 1) := by decide +kernel
theorem d_B_fillOf_12 : decode b_B_fillOf 12 = .ok (.goto 7, 3) := by decide +kernel
theorem d_B_fillOf_15 : decode b_B_fillOf 15 = .ok (.bipush (-2), 2) := by decide +kernel
theorem d_B_fillOf_17 : decode b_B_fillOf 17 = .ok (.iload_n 1, 1) := by decide +kernel
theorem d_B_fillOf_18 : decode b_B_fillOf 18 = .ok (.imul, 1) := by decide +kernel
theorem d_B_fillOf_19 : decode b_B_fillOf 19 = .ok (.ireturn, 1) := by decide +kernel
theorem d_B_groupsOf_0 : decode b_B_groupsOf 0 = .ok (.iload_n 0, 1) := by decide +kernel
theorem d_B_groupsOf_1 : decode b_B_groupsOf 1 = .ok (.ifCond .ge 10, 3) := by decide +kernel
theorem d_B_groupsOf_4 : decode b_B_groupsOf 4 = .ok (.iload_n 0, 1) := by decide +kernel
theorem d_B_groupsOf_5 : decode b_B_groupsOf 5 = .ok (.ineg, 1) := by decide +kernel
theorem d_B_groupsOf_6 : decode b_B_groupsOf 6 = .ok (.iconst 2, 1) := by decide +kernel
theorem d_B_groupsOf_7 : decode b_B_groupsOf 7 = .ok (.idiv, 1) := by decide +kernel
theorem d_B_groupsOf_8 : decode b_B_groupsOf 8 = .ok (.goto 4, 3) := by decide +kernel
theorem d_B_groupsOf_11 : decode b_B_groupsOf 11 = .ok (.iconst 1, 1) := by decide +kernel
theorem d_B_groupsOf_12 : decode b_B_groupsOf 12 = .ok (.ireturn, 1) := by decide +kernel
theorem d_B_bitsOf_0 : decode b_B_bitsOf 0 = .ok (.iload_n 0, 1) := by decide +kernel
theorem d_B_bitsOf_1 : decode b_B_bitsOf 1 = .ok (.ifCond .lt 5, 3) := by decide +kernel
theorem d_B_bitsOf_4 : decode b_B_bitsOf 4 = .ok (.iload_n 0, 1) := by decide +kernel
theorem d_B_bitsOf_5 : decode b_B_bitsOf 5 = .ok (.ireturn, 1) := by decide +kernel
theorem d_B_bitsOf_6 : decode b_B_bitsOf 6 = .ok (.iload_n 0, 1) := by decide +kernel
theorem d_B_bitsOf_7 : decode b_B_bitsOf 7 = .ok (.iconst 1, 1) := by decide +kernel
theorem d_B_bitsOf_8 : decode b_B_bitsOf 8 = .ok (.iand, 1) := by decide +kernel
theorem d_B_bitsOf_9 : decode b_B_bitsOf 9 = .ok (.iconst 1, 1) := by decide +kernel
theorem d_B_bitsOf_10 : decode b_B_bitsOf 10 = .ok (.if_icmp .ne 8, 3) := by decide +kernel
theorem d_B_bitsOf_13 : decode b_B_bitsOf 13 = .ok (.ldc 101, 2) := by decide +kernel
theorem d_B_bitsOf_15 : decode b_B_bitsOf 15 = .ok (.goto 4, 3) := by decide +kernel
theorem d_B_bitsOf_18 : decode b_B_bitsOf 18 = .ok (.iconst 0, 1) := by decide +kernel
theorem d_B_bitsOf_19 : decode b_B_bitsOf 19 = .ok (.ireturn, 1) := by decide +kernel
theorem d_B_firstBits_0 : decode b_B_firstBits 0 = .ok (.iconst 1, 1) := by decide +kernel
theorem d_B_firstBits_1 : decode b_B_firstBits 1 = .ok (.iload_n 0, 1) := by decide +kernel
theorem d_B_firstBits_2 : decode b_B_firstBits 2 = .ok (.ishl, 1) := by decide +kernel
theorem d_B_firstBits_3 : decode b_B_firstBits 3 = .ok (.iconst 1, 1) := by decide +kernel
theorem d_B_firstBits_4 : decode b_B_firstBits 4 = .ok (.isub, 1) := by decide +kernel
theorem d_B_firstBits_5 : decode b_B_firstBits 5 = .ok (.ireturn, 1) := by decide +kernel
theorem d_B_joinedBits_0 : decode b_B_joinedBits 0 = .ok (.iload_n 0, 1) := by decide +kernel
theorem d_B_joinedBits_1 : decode b_B_joinedBits 1 = .ok (.tableswitch 41 0 2 #[27, 31, 35], 27) := by decide +kernel
theorem d_B_joinedBits_28 : decode b_B_joinedBits 28 = .ok (.iload_n 1, 1) := by decide +kernel
theorem d_B_joinedBits_29 : decode b_B_joinedBits 29 = .ok (.iload_n 2, 1) := by decide +kernel
theorem d_B_joinedBits_30 : decode b_B_joinedBits 30 = .ok (.iand, 1) := by decide +kernel
theorem d_B_joinedBits_31 : decode b_B_joinedBits 31 = .ok (.ireturn, 1) := by decide +kernel
theorem d_B_joinedBits_32 : decode b_B_joinedBits 32 = .ok (.iload_n 1, 1) := by decide +kernel
theorem d_B_joinedBits_33 : decode b_B_joinedBits 33 = .ok (.iload_n 2, 1) := by decide +kernel
theorem d_B_joinedBits_34 : decode b_B_joinedBits 34 = .ok (.ior, 1) := by decide +kernel
theorem d_B_joinedBits_35 : decode b_B_joinedBits 35 = .ok (.ireturn, 1) := by decide +kernel
theorem d_B_joinedBits_36 : decode b_B_joinedBits 36 = .ok (.iload_n 1, 1) := by decide +kernel
theorem d_B_joinedBits_37 : decode b_B_joinedBits 37 = .ok (.iload_n 2, 1) := by decide +kernel
theorem d_B_joinedBits_38 : decode b_B_joinedBits 38 = .ok (.iconst (-1), 1) := by decide +kernel
theorem d_B_joinedBits_39 : decode b_B_joinedBits 39 = .ok (.ixor, 1) := by decide +kernel
theorem d_B_joinedBits_40 : decode b_B_joinedBits 40 = .ok (.iand, 1) := by decide +kernel
theorem d_B_joinedBits_41 : decode b_B_joinedBits 41 = .ok (.ireturn, 1) := by decide +kernel
theorem d_B_joinedBits_42 : decode b_B_joinedBits 42 = .ok (.iload_n 1, 1) := by decide +kernel
theorem d_B_joinedBits_43 : decode b_B_joinedBits 43 = .ok (.iload_n 2, 1) := by decide +kernel
theorem d_B_joinedBits_44 : decode b_B_joinedBits 44 = .ok (.ixor, 1) := by decide +kernel
theorem d_B_joinedBits_45 : decode b_B_joinedBits 45 = .ok (.ireturn, 1) := by decide +kernel
