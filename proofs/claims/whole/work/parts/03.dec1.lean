theorem dJ6_bitCount_0f7a4_0 : decode cJ6_bitCount_0f7a4 0 = .ok (.iload_n 0, 1) := by decide +kernel
theorem dJ6_bitCount_0f7a4_1 : decode cJ6_bitCount_0f7a4 1 = .ok (.iload_n 0, 1) := by decide +kernel
theorem dJ6_bitCount_0f7a4_2 : decode cJ6_bitCount_0f7a4 2 = .ok (.iconst 1, 1) := by decide +kernel
theorem dJ6_bitCount_0f7a4_3 : decode cJ6_bitCount_0f7a4 3 = .ok (.iushr, 1) := by decide +kernel
theorem dJ6_bitCount_0f7a4_4 : decode cJ6_bitCount_0f7a4 4 = .ok (.ldc_w 265, 3) := by decide +kernel
theorem dJ6_bitCount_0f7a4_7 : decode cJ6_bitCount_0f7a4 7 = .ok (.iand, 1) := by decide +kernel
theorem dJ6_bitCount_0f7a4_8 : decode cJ6_bitCount_0f7a4 8 = .ok (.isub, 1) := by decide +kernel
theorem dJ6_bitCount_0f7a4_9 : decode cJ6_bitCount_0f7a4 9 = .ok (.istore_n 0, 1) := by decide +kernel
theorem dJ6_bitCount_0f7a4_10 : decode cJ6_bitCount_0f7a4 10 = .ok (.iload_n 0, 1) := by decide +kernel
theorem dJ6_bitCount_0f7a4_11 : decode cJ6_bitCount_0f7a4 11 = .ok (.ldc_w 266, 3) := by decide +kernel
theorem dJ6_bitCount_0f7a4_14 : decode cJ6_bitCount_0f7a4 14 = .ok (.iand, 1) := by decide +kernel
theorem dJ6_bitCount_0f7a4_15 : decode cJ6_bitCount_0f7a4 15 = .ok (.iload_n 0, 1) := by decide +kernel
theorem dJ6_bitCount_0f7a4_16 : decode cJ6_bitCount_0f7a4 16 = .ok (.iconst 2, 1) := by decide +kernel
theorem dJ6_bitCount_0f7a4_17 : decode cJ6_bitCount_0f7a4 17 = .ok (.iushr, 1) := by decide +kernel
theorem dJ6_bitCount_0f7a4_18 : decode cJ6_bitCount_0f7a4 18 = .ok (.ldc_w 266, 3) := by decide +kernel
theorem dJ6_bitCount_0f7a4_21 : decode cJ6_bitCount_0f7a4 21 = .ok (.iand, 1) := by decide +kernel
theorem dJ6_bitCount_0f7a4_22 : decode cJ6_bitCount_0f7a4 22 = .ok (.iadd, 1) := by decide +kernel
theorem dJ6_bitCount_0f7a4_23 : decode cJ6_bitCount_0f7a4 23 = .ok (.istore_n 0, 1) := by decide +kernel
theorem dJ6_bitCount_0f7a4_24 : decode cJ6_bitCount_0f7a4 24 = .ok (.iload_n 0, 1) := by decide +kernel
theorem dJ6_bitCount_0f7a4_25 : decode cJ6_bitCount_0f7a4 25 = .ok (.iload_n 0, 1) := by decide +kernel
theorem dJ6_bitCount_0f7a4_26 : decode cJ6_bitCount_0f7a4 26 = .ok (.iconst 4, 1) := by decide +kernel
theorem dJ6_bitCount_0f7a4_27 : decode cJ6_bitCount_0f7a4 27 = .ok (.iushr, 1) := by decide +kernel
theorem dJ6_bitCount_0f7a4_28 : decode cJ6_bitCount_0f7a4 28 = .ok (.iadd, 1) := by decide +kernel
theorem dJ6_bitCount_0f7a4_29 : decode cJ6_bitCount_0f7a4 29 = .ok (.ldc_w 267, 3) := by decide +kernel
theorem dJ6_bitCount_0f7a4_32 : decode cJ6_bitCount_0f7a4 32 = .ok (.iand, 1) := by decide +kernel
theorem dJ6_bitCount_0f7a4_33 : decode cJ6_bitCount_0f7a4 33 = .ok (.istore_n 0, 1) := by decide +kernel
theorem dJ6_bitCount_0f7a4_34 : decode cJ6_bitCount_0f7a4 34 = .ok (.iload_n 0, 1) := by decide +kernel
theorem dJ6_bitCount_0f7a4_35 : decode cJ6_bitCount_0f7a4 35 = .ok (.iload_n 0, 1) := by decide +kernel
theorem dJ6_bitCount_0f7a4_36 : decode cJ6_bitCount_0f7a4 36 = .ok (.bipush 8, 2) := by decide +kernel
theorem dJ6_bitCount_0f7a4_38 : decode cJ6_bitCount_0f7a4 38 = .ok (.iushr, 1) := by decide +kernel
theorem dJ6_bitCount_0f7a4_39 : decode cJ6_bitCount_0f7a4 39 = .ok (.iadd, 1) := by decide +kernel
theorem dJ6_bitCount_0f7a4_40 : decode cJ6_bitCount_0f7a4 40 = .ok (.istore_n 0, 1) := by decide +kernel
theorem dJ6_bitCount_0f7a4_41 : decode cJ6_bitCount_0f7a4 41 = .ok (.iload_n 0, 1) := by decide +kernel
theorem dJ6_bitCount_0f7a4_42 : decode cJ6_bitCount_0f7a4 42 = .ok (.iload_n 0, 1) := by decide +kernel
theorem dJ6_bitCount_0f7a4_43 : decode cJ6_bitCount_0f7a4 43 = .ok (.bipush 16, 2) := by decide +kernel
theorem dJ6_bitCount_0f7a4_45 : decode cJ6_bitCount_0f7a4 45 = .ok (.iushr, 1) := by decide +kernel
theorem dJ6_bitCount_0f7a4_46 : decode cJ6_bitCount_0f7a4 46 = .ok (.iadd, 1) := by decide +kernel
theorem dJ6_bitCount_0f7a4_47 : decode cJ6_bitCount_0f7a4 47 = .ok (.istore_n 0, 1) := by decide +kernel
theorem dJ6_bitCount_0f7a4_48 : decode cJ6_bitCount_0f7a4 48 = .ok (.iload_n 0, 1) := by decide +kernel
theorem dJ6_bitCount_0f7a4_49 : decode cJ6_bitCount_0f7a4 49 = .ok (.bipush 63, 2) := by decide +kernel
theorem dJ6_bitCount_0f7a4_51 : decode cJ6_bitCount_0f7a4 51 = .ok (.iand, 1) := by decide +kernel
theorem dJ6_bitCount_0f7a4_52 : decode cJ6_bitCount_0f7a4 52 = .ok (.ireturn, 1) := by decide +kernel
theorem dJ9_abs_0f7a4_0 : decode cJ9_abs_0f7a4 0 = .ok (.iload_n 0, 1) := by decide +kernel
theorem dJ9_abs_0f7a4_1 : decode cJ9_abs_0f7a4 1 = .ok (.ifCond .ge 8, 3) := by decide +kernel
theorem dJ9_abs_0f7a4_4 : decode cJ9_abs_0f7a4 4 = .ok (.iload_n 0, 1) := by decide +kernel
theorem dJ9_abs_0f7a4_5 : decode cJ9_abs_0f7a4 5 = .ok (.ineg, 1) := by decide +kernel
theorem dJ9_abs_0f7a4_6 : decode cJ9_abs_0f7a4 6 = .ok (.goto 4, 3) := by decide +kernel
theorem dJ9_abs_0f7a4_9 : decode cJ9_abs_0f7a4 9 = .ok (.iload_n 0, 1) := by decide +kernel
theorem dJ9_abs_0f7a4_10 : decode cJ9_abs_0f7a4 10 = .ok (.ireturn, 1) := by decide +kernel
theorem dJ9_max_7cf53_0 : decode cJ9_max_7cf53 0 = .ok (.iload_n 0, 1) := by decide +kernel
theorem dJ9_max_7cf53_1 : decode cJ9_max_7cf53 1 = .ok (.iload_n 1, 1) := by decide +kernel
theorem dJ9_max_7cf53_2 : decode cJ9_max_7cf53 2 = .ok (.if_icmp .lt 7, 3) := by decide +kernel
theorem dJ9_max_7cf53_5 : decode cJ9_max_7cf53 5 = .ok (.iload_n 0, 1) := by decide +kernel
theorem dJ9_max_7cf53_6 : decode cJ9_max_7cf53 6 = .ok (.goto 4, 3) := by decide +kernel
theorem dJ9_max_7cf53_9 : decode cJ9_max_7cf53 9 = .ok (.iload_n 1, 1) := by decide +kernel
theorem dJ9_max_7cf53_10 : decode cJ9_max_7cf53 10 = .ok (.ireturn, 1) := by decide +kernel
theorem dJ9_max_f86c9_0 : decode cJ9_max_f86c9 0 = .ok (.lload_n 0, 1) := by decide +kernel
theorem dJ9_max_f86c9_1 : decode cJ9_max_f86c9 1 = .ok (.lload_n 2, 1) := by decide +kernel
theorem dJ9_max_f86c9_2 : decode cJ9_max_f86c9 2 = .ok (.lcmp, 1) := by decide +kernel
theorem dJ9_max_f86c9_3 : decode cJ9_max_f86c9 3 = .ok (.ifCond .lt 7, 3) := by decide +kernel
theorem dJ9_max_f86c9_6 : decode cJ9_max_f86c9 6 = .ok (.lload_n 0, 1) := by decide +kernel
theorem dJ9_max_f86c9_7 : decode cJ9_max_f86c9 7 = .ok (.goto 4, 3) := by decide +kernel
theorem dJ9_max_f86c9_10 : decode cJ9_max_f86c9 10 = .ok (.lload_n 2, 1) := by decide +kernel
theorem dJ9_max_f86c9_11 : decode cJ9_max_f86c9 11 = .ok (.lreturn, 1) := by decide +kernel
theorem dJ9_min_7cf53_0 : decode cJ9_min_7cf53 0 = .ok (.iload_n 0, 1) := by decide +kernel
theorem dJ9_min_7cf53_1 : decode cJ9_min_7cf53 1 = .ok (.iload_n 1, 1) := by decide +kernel
theorem dJ9_min_7cf53_2 : decode cJ9_min_7cf53 2 = .ok (.if_icmp .gt 7, 3) := by decide +kernel
theorem dJ9_min_7cf53_5 : decode cJ9_min_7cf53 5 = .ok (.iload_n 0, 1) := by decide +kernel
theorem dJ9_min_7cf53_6 : decode cJ9_min_7cf53 6 = .ok (.goto 4, 3) := by decide +kernel
theorem dJ9_min_7cf53_9 : decode cJ9_min_7cf53 9 = .ok (.iload_n 1, 1) := by decide +kernel
theorem dJ9_min_7cf53_10 : decode cJ9_min_7cf53 10 = .ok (.ireturn, 1) := by decide +kernel
theorem dX0_init_0 : decode cX0_init 0 = .ok (.aload_n 0, 1) := by decide +kernel
theorem dX0_init_1 : decode cX0_init 1 = .ok (.invokespecial 3, 3) := by decide +kernel
theorem dX0_init_4 : decode cX0_init 4 = .ok (.aload_n 0, 1) := by decide +kernel
theorem dX0_init_5 : decode cX0_init 5 = .ok (.new 9, 3) := by decide +kernel
theorem dX0_init_8 : decode cX0_init 8 = .ok (.dup, 1) := by decide +kernel
theorem dX0_init_9 : decode cX0_init 9 = .ok (.bipush 14, 2) := by decide +kernel
theorem dX0_init_11 : decode cX0_init 11 = .ok (.invokespecial 11, 3) := by decide +kernel
theorem dX0_init_14 : decode cX0_init 14 = .ok (.putfield 14, 3) := by decide +kernel
theorem dX0_init_17 : decode cX0_init 17 = .ok (.return_, 1) := by decide +kernel
theorem dX0_push_0 : decode cX0_push 0 = .ok (.aload_n 0, 1) := by decide +kernel
theorem dX0_push_1 : decode cX0_push 1 = .ok (.getfield 14, 3) := by decide +kernel
theorem dX0_push_4 : decode cX0_push 4 = .ok (.aload_n 0, 1) := by decide +kernel
theorem dX0_push_5 : decode cX0_push 5 = .ok (.getfield 20, 3) := by decide +kernel
theorem dX0_push_8 : decode cX0_push 8 = .ok (.aload_n 1, 1) := by decide +kernel
theorem dX0_push_9 : decode cX0_push 9 = .ok (.invokevirtual 24, 3) := by decide +kernel
theorem dX0_push_12 : decode cX0_push 12 = .ok (.aload_n 0, 1) := by decide +kernel
theorem dX0_push_13 : decode cX0_push 13 = .ok (.aload_n 0, 1) := by decide +kernel
theorem dX0_push_14 : decode cX0_push 14 = .ok (.getfield 20, 3) := by decide +kernel
theorem dX0_push_17 : decode cX0_push 17 = .ok (.iconst 1, 1) := by decide +kernel
theorem dX0_push_18 : decode cX0_push 18 = .ok (.iadd, 1) := by decide +kernel
theorem dX0_push_19 : decode cX0_push 19 = .ok (.bipush 14, 2) := by decide +kernel
theorem dX0_push_21 : decode cX0_push 21 = .ok (.irem, 1) := by decide +kernel
theorem dX0_push_22 : decode cX0_push 22 = .ok (.putfield 20, 3) := by decide +kernel
theorem dX0_push_25 : decode cX0_push 25 = .ok (.aload_n 0, 1) := by decide +kernel
theorem dX0_push_26 : decode cX0_push 26 = .ok (.bipush 14, 2) := by decide +kernel
theorem dX0_push_28 : decode cX0_push 28 = .ok (.aload_n 0, 1) := by decide +kernel
theorem dX0_push_29 : decode cX0_push 29 = .ok (.getfield 28, 3) := by decide +kernel
theorem dX0_push_32 : decode cX0_push 32 = .ok (.iconst 1, 1) := by decide +kernel
theorem dX0_push_33 : decode cX0_push 33 = .ok (.iadd, 1) := by decide +kernel
theorem dX0_push_34 : decode cX0_push 34 = .ok (.invokestatic 31, 3) := by decide +kernel
theorem dX0_push_37 : decode cX0_push 37 = .ok (.putfield 28, 3) := by decide +kernel
theorem dX0_push_40 : decode cX0_push 40 = .ok (.return_, 1) := by decide +kernel
theorem dX0_pop_0 : decode cX0_pop 0 = .ok (.aload_n 0, 1) := by decide +kernel
theorem dX0_pop_1 : decode cX0_pop 1 = .ok (.getfield 28, 3) := by decide +kernel
theorem dX0_pop_4 : decode cX0_pop 4 = .ok (.ifCond .le 41, 3) := by decide +kernel
theorem dX0_pop_7 : decode cX0_pop 7 = .ok (.aload_n 0, 1) := by decide +kernel
theorem dX0_pop_8 : decode cX0_pop 8 = .ok (.dup, 1) := by decide +kernel
theorem dX0_pop_9 : decode cX0_pop 9 = .ok (.getfield 28, 3) := by decide +kernel
theorem dX0_pop_12 : decode cX0_pop 12 = .ok (.iconst 1, 1) := by decide +kernel
theorem dX0_pop_13 : decode cX0_pop 13 = .ok (.isub, 1) := by decide +kernel
theorem dX0_pop_14 : decode cX0_pop 14 = .ok (.putfield 28, 3) := by decide +kernel
theorem dX0_pop_17 : decode cX0_pop 17 = .ok (.aload_n 0, 1) := by decide +kernel
theorem dX0_pop_18 : decode cX0_pop 18 = .ok (.aload_n 0, 1) := by decide +kernel
theorem dX0_pop_19 : decode cX0_pop 19 = .ok (.getfield 20, 3) := by decide +kernel
theorem dX0_pop_22 : decode cX0_pop 22 = .ok (.bipush 14, 2) := by decide +kernel
theorem dX0_pop_24 : decode cX0_pop 24 = .ok (.iadd, 1) := by decide +kernel
theorem dX0_pop_25 : decode cX0_pop 25 = .ok (.iconst 1, 1) := by decide +kernel
theorem dX0_pop_26 : decode cX0_pop 26 = .ok (.isub, 1) := by decide +kernel
theorem dX0_pop_27 : decode cX0_pop 27 = .ok (.bipush 14, 2) := by decide +kernel
theorem dX0_pop_29 : decode cX0_pop 29 = .ok (.irem, 1) := by decide +kernel
theorem dX0_pop_30 : decode cX0_pop 30 = .ok (.putfield 20, 3) := by decide +kernel
theorem dX0_pop_33 : decode cX0_pop 33 = .ok (.aload_n 0, 1) := by decide +kernel
theorem dX0_pop_34 : decode cX0_pop 34 = .ok (.getfield 14, 3) := by decide +kernel
theorem dX0_pop_37 : decode cX0_pop 37 = .ok (.aload_n 0, 1) := by decide +kernel
theorem dX0_pop_38 : decode cX0_pop 38 = .ok (.getfield 20, 3) := by decide +kernel
theorem dX0_pop_41 : decode cX0_pop 41 = .ok (.aload_n 1, 1) := by decide +kernel
theorem dX0_pop_42 : decode cX0_pop 42 = .ok (.invokevirtual 37, 3) := by decide +kernel
theorem dX0_pop_45 : decode cX0_pop 45 = .ok (.return_, 1) := by decide +kernel
theorem dX0_forgetAll_0 : decode cX0_forgetAll 0 = .ok (.aload_n 0, 1) := by decide +kernel
theorem dX0_forgetAll_1 : decode cX0_forgetAll 1 = .ok (.iconst 0, 1) := by decide +kernel
theorem dX0_forgetAll_2 : decode cX0_forgetAll 2 = .ok (.putfield 28, 3) := by decide +kernel
theorem dX0_forgetAll_5 : decode cX0_forgetAll 5 = .ok (.return_, 1) := by decide +kernel
theorem dX1_init_0 : decode cX1_init 0 = .ok (.aload_n 0, 1) := by decide +kernel
theorem dX1_init_1 : decode cX1_init 1 = .ok (.invokespecial 3, 3) := by decide +kernel
theorem dX1_init_4 : decode cX1_init 4 = .ok (.aload_n 0, 1) := by decide +kernel
theorem dX1_init_5 : decode cX1_init 5 = .ok (.aload_n 1, 1) := by decide +kernel
theorem dX1_init_6 : decode cX1_init 6 = .ok (.putfield 9, 3) := by decide +kernel
theorem dX1_init_9 : decode cX1_init 9 = .ok (.aload_n 0, 1) := by decide +kernel
theorem dX1_init_10 : decode cX1_init 10 = .ok (.aload_n 2, 1) := by decide +kernel
theorem dX1_init_11 : decode cX1_init 11 = .ok (.putfield 15, 3) := by decide +kernel
theorem dX1_init_14 : decode cX1_init 14 = .ok (.aload_n 0, 1) := by decide +kernel
theorem dX1_init_15 : decode cX1_init 15 = .ok (.aload_n 3, 1) := by decide +kernel
theorem dX1_init_16 : decode cX1_init 16 = .ok (.putfield 19, 3) := by decide +kernel
theorem dX1_init_19 : decode cX1_init 19 = .ok (.return_, 1) := by decide +kernel
theorem dX1_shareOf_0 : decode cX1_shareOf 0 = .ok (.iconst 0, 1) := by decide +kernel
theorem dX1_shareOf_1 : decode cX1_shareOf 1 = .ok (.istore_n 3, 1) := by decide +kernel
theorem dX1_shareOf_2 : decode cX1_shareOf 2 = .ok (.iconst 0, 1) := by decide +kernel
theorem dX1_shareOf_3 : decode cX1_shareOf 3 = .ok (.istore 4, 2) := by decide +kernel
theorem dX1_shareOf_5 : decode cX1_shareOf 5 = .ok (.iload 4, 2) := by decide +kernel
theorem dX1_shareOf_7 : decode cX1_shareOf 7 = .ok (.iconst 1, 1) := by decide +kernel
theorem dX1_shareOf_8 : decode cX1_shareOf 8 = .ok (.aload_n 0, 1) := by decide +kernel
theorem dX1_shareOf_9 : decode cX1_shareOf 9 = .ok (.getfield 9, 3) := by decide +kernel
theorem dX1_shareOf_12 : decode cX1_shareOf 12 = .ok (.getfield 22, 3) := by decide +kernel
theorem dX1_shareOf_15 : decode cX1_shareOf 15 = .ok (.ishl, 1) := by decide +kernel
theorem dX1_shareOf_16 : decode cX1_shareOf 16 = .ok (.if_icmp .ge 52, 3) := by decide +kernel
theorem dX1_shareOf_19 : decode cX1_shareOf 19 = .ok (.iload 4, 2) := by decide +kernel
theorem dX1_shareOf_21 : decode cX1_shareOf 21 = .ok (.iload_n 1, 1) := by decide +kernel
theorem dX1_shareOf_22 : decode cX1_shareOf 22 = .ok (.invokestatic 28, 3) := by decide +kernel
theorem dX1_shareOf_25 : decode cX1_shareOf 25 = .ok (.ifCond .ne 37, 3) := by decide +kernel
theorem dX1_shareOf_28 : decode cX1_shareOf 28 = .ok (.aload_n 0, 1) := by decide +kernel
theorem dX1_shareOf_29 : decode cX1_shareOf 29 = .ok (.iload 4, 2) := by decide +kernel
theorem dX1_shareOf_31 : decode cX1_shareOf 31 = .ok (.iconst 1, 1) := by decide +kernel
theorem dX1_shareOf_32 : decode cX1_shareOf 32 = .ok (.iload_n 1, 1) := by decide +kernel
theorem dX1_shareOf_33 : decode cX1_shareOf 33 = .ok (.ishl, 1) := by decide +kernel
theorem dX1_shareOf_34 : decode cX1_shareOf 34 = .ok (.ior, 1) := by decide +kernel
theorem dX1_shareOf_35 : decode cX1_shareOf 35 = .ok (.invokevirtual 32, 3) := by decide +kernel
theorem dX1_shareOf_38 : decode cX1_shareOf 38 = .ok (.aload_n 0, 1) := by decide +kernel
theorem dX1_shareOf_39 : decode cX1_shareOf 39 = .ok (.iload 4, 2) := by decide +kernel
theorem dX1_shareOf_41 : decode cX1_shareOf 41 = .ok (.invokevirtual 32, 3) := by decide +kernel
theorem dX1_shareOf_44 : decode cX1_shareOf 44 = .ok (.isub, 1) := by decide +kernel
theorem dX1_shareOf_45 : decode cX1_shareOf 45 = .ok (.istore 5, 2) := by decide +kernel
theorem dX1_shareOf_47 : decode cX1_shareOf 47 = .ok (.iload_n 3, 1) := by decide +kernel
theorem dX1_shareOf_48 : decode cX1_shareOf 48 = .ok (.iload 5, 2) := by decide +kernel
theorem dX1_shareOf_50 : decode cX1_shareOf 50 = .ok (.aload_n 0, 1) := by decide +kernel
theorem dX1_shareOf_51 : decode cX1_shareOf 51 = .ok (.iload 4, 2) := by decide +kernel
theorem dX1_shareOf_53 : decode cX1_shareOf 53 = .ok (.invokestatic 36, 3) := by decide +kernel
theorem dX1_shareOf_56 : decode cX1_shareOf 56 = .ok (.invokevirtual 41, 3) := by decide +kernel
theorem dX1_shareOf_59 : decode cX1_shareOf 59 = .ok (.imul, 1) := by decide +kernel
theorem dX1_shareOf_60 : decode cX1_shareOf 60 = .ok (.iadd, 1) := by decide +kernel
theorem dX1_shareOf_61 : decode cX1_shareOf 61 = .ok (.istore_n 3, 1) := by decide +kernel
theorem dX1_shareOf_62 : decode cX1_shareOf 62 = .ok (.iinc 4 1, 3) := by decide +kernel
theorem dX1_shareOf_65 : decode cX1_shareOf 65 = .ok (.goto (-60), 3) := by decide +kernel
theorem dX1_shareOf_68 : decode cX1_shareOf 68 = .ok (.iload_n 3, 1) := by decide +kernel
theorem dX1_shareOf_69 : decode cX1_shareOf 69 = .ok (.aload_n 0, 1) := by decide +kernel
theorem dX1_shareOf_70 : decode cX1_shareOf 70 = .ok (.getfield 9, 3) := by decide +kernel
theorem dX1_shareOf_73 : decode cX1_shareOf 73 = .ok (.getfield 22, 3) := by decide +kernel
theorem dX1_shareOf_76 : decode cX1_shareOf 76 = .ok (.invokestatic 44, 3) := by decide +kernel
theorem dX1_shareOf_79 : decode cX1_shareOf 79 = .ok (.iload_n 2, 1) := by decide +kernel
theorem dX1_shareOf_80 : decode cX1_shareOf 80 = .ok (.invokestatic 47, 3) := by decide +kernel
theorem dX1_shareOf_83 : decode cX1_shareOf 83 = .ok (.ireturn, 1) := by decide +kernel
theorem dX1_ordersWith_0 : decode cX1_ordersWith 0 = .ok (.iload_n 1, 1) := by decide +kernel
theorem dX1_ordersWith_1 : decode cX1_ordersWith 1 = .ok (.invokestatic 44, 3) := by decide +kernel
theorem dX1_ordersWith_4 : decode cX1_ordersWith 4 = .ok (.aload_n 0, 1) := by decide +kernel
theorem dX1_ordersWith_5 : decode cX1_ordersWith 5 = .ok (.getfield 9, 3) := by decide +kernel
theorem dX1_ordersWith_8 : decode cX1_ordersWith 8 = .ok (.getfield 22, 3) := by decide +kernel
theorem dX1_ordersWith_11 : decode cX1_ordersWith 11 = .ok (.iload_n 1, 1) := by decide +kernel
theorem dX1_ordersWith_12 : decode cX1_ordersWith 12 = .ok (.isub, 1) := by decide +kernel
theorem dX1_ordersWith_13 : decode cX1_ordersWith 13 = .ok (.iconst 1, 1) := by decide +kernel
theorem dX1_ordersWith_14 : decode cX1_ordersWith 14 = .ok (.isub, 1) := by decide +kernel
theorem dX1_ordersWith_15 : decode cX1_ordersWith 15 = .ok (.invokestatic 44, 3) := by decide +kernel
theorem dX1_ordersWith_18 : decode cX1_ordersWith 18 = .ok (.imul, 1) := by decide +kernel
theorem dX1_ordersWith_19 : decode cX1_ordersWith 19 = .ok (.ireturn, 1) := by decide +kernel
theorem dX1_orders_0 : decode cX1_orders 0 = .ok (.iload_n 0, 1) := by decide +kernel
theorem dX1_orders_1 : decode cX1_orders 1 = .ok (.ifCond .lt 19, 3) := by decide +kernel
theorem dX1_orders_4 : decode cX1_orders 4 = .ok (.iload_n 0, 1) := by decide +kernel
theorem dX1_orders_5 : decode cX1_orders 5 = .ok (.getstatic 51, 3) := by decide +kernel
theorem dX1_orders_8 : decode cX1_orders 8 = .ok (.arraylength, 1) := by decide +kernel
theorem dX1_orders_9 : decode cX1_orders 9 = .ok (.if_icmp .ge 11, 3) := by decide +kernel
theorem dX1_orders_12 : decode cX1_orders 12 = .ok (.getstatic 51, 3) := by decide +kernel
theorem dX1_orders_15 : decode cX1_orders 15 = .ok (.iload_n 0, 1) := by decide +kernel
theorem dX1_orders_16 : decode cX1_orders 16 = .ok (.iaload, 1) := by decide +kernel
theorem dX1_orders_17 : decode cX1_orders 17 = .ok (.goto 4, 3) := by decide +kernel
theorem dX1_orders_20 : decode cX1_orders 20 = .ok (.iconst 1, 1) := by decide +kernel
theorem dX1_orders_21 : decode cX1_orders 21 = .ok (.ireturn, 1) := by decide +kernel
theorem dX1_taxesOf_0 : decode cX1_taxesOf 0 = .ok (.aload_n 0, 1) := by decide +kernel
theorem dX1_taxesOf_1 : decode cX1_taxesOf 1 = .ok (.getfield 19, 3) := by decide +kernel
theorem dX1_taxesOf_4 : decode cX1_taxesOf 4 = .ok (.aload_n 0, 1) := by decide +kernel
theorem dX1_taxesOf_5 : decode cX1_taxesOf 5 = .ok (.getfield 15, 3) := by decide +kernel
theorem dX1_taxesOf_8 : decode cX1_taxesOf 8 = .ok (.invokevirtual 55, 3) := by decide +kernel
theorem dX1_taxesOf_11 : decode cX1_taxesOf 11 = .ok (.aload_n 0, 1) := by decide +kernel
theorem dX1_taxesOf_12 : decode cX1_taxesOf 12 = .ok (.getfield 19, 3) := by decide +kernel
theorem dX1_taxesOf_15 : decode cX1_taxesOf 15 = .ok (.iload_n 1, 1) := by decide +kernel
theorem dX1_taxesOf_16 : decode cX1_taxesOf 16 = .ok (.invokevirtual 61, 3) := by decide +kernel
theorem dX1_taxesOf_19 : decode cX1_taxesOf 19 = .ok (.aload_n 0, 1) := by decide +kernel
theorem dX1_taxesOf_20 : decode cX1_taxesOf 20 = .ok (.getfield 19, 3) := by decide +kernel
theorem dX1_taxesOf_23 : decode cX1_taxesOf 23 = .ok (.invokevirtual 65, 3) := by decide +kernel
theorem dX1_taxesOf_26 : decode cX1_taxesOf 26 = .ok (.ireturn, 1) := by decide +kernel
theorem dX1_leakOf_0 : decode cX1_leakOf 0 = .ok (.iconst 0, 1) := by decide +kernel
theorem dX1_leakOf_1 : decode cX1_leakOf 1 = .ok (.istore 4, 2) := by decide +kernel
theorem dX1_leakOf_3 : decode cX1_leakOf 3 = .ok (.iconst 1, 1) := by decide +kernel
theorem dX1_leakOf_4 : decode cX1_leakOf 4 = .ok (.istore 5, 2) := by decide +kernel
theorem dX1_leakOf_6 : decode cX1_leakOf 6 = .ok (.iconst 0, 1) := by decide +kernel
theorem dX1_leakOf_7 : decode cX1_leakOf 7 = .ok (.istore 6, 2) := by decide +kernel
theorem dX1_leakOf_9 : decode cX1_leakOf 9 = .ok (.iconst 0, 1) := by decide +kernel
theorem dX1_leakOf_10 : decode cX1_leakOf 10 = .ok (.istore 7, 2) := by decide +kernel
theorem dX1_leakOf_12 : decode cX1_leakOf 12 = .ok (.iload 7, 2) := by decide +kernel
theorem dX1_leakOf_14 : decode cX1_leakOf 14 = .ok (.iconst 5, 1) := by decide +kernel
theorem dX1_leakOf_15 : decode cX1_leakOf 15 = .ok (.if_icmp .ge 38, 3) := by decide +kernel
theorem dX1_leakOf_18 : decode cX1_leakOf 18 = .ok (.aload_n 0, 1) := by decide +kernel
theorem dX1_leakOf_19 : decode cX1_leakOf 19 = .ok (.getfield 15, 3) := by decide +kernel
theorem dX1_leakOf_22 : decode cX1_leakOf 22 = .ok (.getfield 69, 3) := by decide +kernel
theorem dX1_leakOf_25 : decode cX1_leakOf 25 = .ok (.iload 7, 2) := by decide +kernel
theorem dX1_leakOf_27 : decode cX1_leakOf 27 = .ok (.iaload, 1) := by decide +kernel
theorem dX1_leakOf_28 : decode cX1_leakOf 28 = .ok (.ifCond .le 19, 3) := by decide +kernel
theorem dX1_leakOf_31 : decode cX1_leakOf 31 = .ok (.iload 6, 2) := by decide +kernel
theorem dX1_leakOf_33 : decode cX1_leakOf 33 = .ok (.iconst 1, 1) := by decide +kernel
theorem dX1_leakOf_34 : decode cX1_leakOf 34 = .ok (.iload 7, 2) := by decide +kernel
theorem dX1_leakOf_36 : decode cX1_leakOf 36 = .ok (.ishl, 1) := by decide +kernel
theorem dX1_leakOf_37 : decode cX1_leakOf 37 = .ok (.ior, 1) := by decide +kernel
theorem dX1_leakOf_38 : decode cX1_leakOf 38 = .ok (.istore 6, 2) := by decide +kernel
theorem dX1_leakOf_40 : decode cX1_leakOf 40 = .ok (.iload 5, 2) := by decide +kernel
theorem dX1_leakOf_42 : decode cX1_leakOf 42 = .ok (.bipush 10, 2) := by decide +kernel
theorem dX1_leakOf_44 : decode cX1_leakOf 44 = .ok (.imul, 1) := by decide +kernel
theorem dX1_leakOf_45 : decode cX1_leakOf 45 = .ok (.istore 5, 2) := by decide +kernel
theorem dX1_leakOf_47 : decode cX1_leakOf 47 = .ok (.iinc 7 1, 3) := by decide +kernel
theorem dX1_leakOf_50 : decode cX1_leakOf 50 = .ok (.goto (-38), 3) := by decide +kernel
theorem dX1_leakOf_53 : decode cX1_leakOf 53 = .ok (.iconst 0, 1) := by decide +kernel
theorem dX1_leakOf_54 : decode cX1_leakOf 54 = .ok (.istore 7, 2) := by decide +kernel
theorem dX1_leakOf_56 : decode cX1_leakOf 56 = .ok (.iload 7, 2) := by decide +kernel
theorem dX1_leakOf_58 : decode cX1_leakOf 58 = .ok (.bipush 32, 2) := by decide +kernel
theorem dX1_leakOf_60 : decode cX1_leakOf 60 = .ok (.if_icmp .ge 42, 3) := by decide +kernel
theorem dX1_leakOf_63 : decode cX1_leakOf 63 = .ok (.iload 7, 2) := by decide +kernel
theorem dX1_leakOf_65 : decode cX1_leakOf 65 = .ok (.iload 6, 2) := by decide +kernel
theorem dX1_leakOf_67 : decode cX1_leakOf 67 = .ok (.iconst (-1), 1) := by decide +kernel
theorem dX1_leakOf_68 : decode cX1_leakOf 68 = .ok (.ixor, 1) := by decide +kernel
theorem dX1_leakOf_69 : decode cX1_leakOf 69 = .ok (.iand, 1) := by decide +kernel
theorem dX1_leakOf_70 : decode cX1_leakOf 70 = .ok (.ifCond .ne 26, 3) := by decide +kernel
theorem dX1_leakOf_73 : decode cX1_leakOf 73 = .ok (.aload_n 0, 1) := by decide +kernel
theorem dX1_leakOf_74 : decode cX1_leakOf 74 = .ok (.iload 7, 2) := by decide +kernel
theorem dX1_leakOf_76 : decode cX1_leakOf 76 = .ok (.invokevirtual 72, 3) := by decide +kernel
theorem dX1_leakOf_79 : decode cX1_leakOf 79 = .ok (.iload_n 1, 1) := by decide +kernel
theorem dX1_leakOf_80 : decode cX1_leakOf 80 = .ok (.if_icmp .lt 16, 3) := by decide +kernel
theorem dX1_leakOf_83 : decode cX1_leakOf 83 = .ok (.iload 4, 2) := by decide +kernel
theorem dX1_leakOf_85 : decode cX1_leakOf 85 = .ok (.iload 7, 2) := by decide +kernel
theorem dX1_leakOf_87 : decode cX1_leakOf 87 = .ok (.iload 6, 2) := by decide +kernel
theorem dX1_leakOf_89 : decode cX1_leakOf 89 = .ok (.iload_n 2, 1) := by decide +kernel
theorem dX1_leakOf_90 : decode cX1_leakOf 90 = .ok (.invokestatic 75, 3) := by decide +kernel
theorem dX1_leakOf_93 : decode cX1_leakOf 93 = .ok (.iadd, 1) := by decide +kernel
theorem dX1_leakOf_94 : decode cX1_leakOf 94 = .ok (.istore 4, 2) := by decide +kernel
theorem dX1_leakOf_96 : decode cX1_leakOf 96 = .ok (.iinc 7 1, 3) := by decide +kernel
theorem dX1_leakOf_99 : decode cX1_leakOf 99 = .ok (.goto (-43), 3) := by decide +kernel
theorem dX1_leakOf_102 : decode cX1_leakOf 102 = .ok (.iload 4, 2) := by decide +kernel
theorem dX1_leakOf_104 : decode cX1_leakOf 104 = .ok (.iload 5, 2) := by decide +kernel
theorem dX1_leakOf_106 : decode cX1_leakOf 106 = .ok (.iload_n 3, 1) := by decide +kernel
theorem dX1_leakOf_107 : decode cX1_leakOf 107 = .ok (.invokestatic 47, 3) := by decide +kernel
theorem dX1_leakOf_110 : decode cX1_leakOf 110 = .ok (.ireturn, 1) := by decide +kernel
theorem dX1_taxesByLeaks_0 : decode cX1_taxesByLeaks 0 = .ok (.aload_n 0, 1) := by decide +kernel
theorem dX1_taxesByLeaks_1 : decode cX1_taxesByLeaks 1 = .ok (.getfield 19, 3) := by decide +kernel
theorem dX1_taxesByLeaks_4 : decode cX1_taxesByLeaks 4 = .ok (.aload_n 0, 1) := by decide +kernel
theorem dX1_taxesByLeaks_5 : decode cX1_taxesByLeaks 5 = .ok (.getfield 15, 3) := by decide +kernel
theorem dX1_taxesByLeaks_8 : decode cX1_taxesByLeaks 8 = .ok (.invokevirtual 55, 3) := by decide +kernel
theorem dX1_taxesByLeaks_11 : decode cX1_taxesByLeaks 11 = .ok (.iconst 0, 1) := by decide +kernel
theorem dX1_taxesByLeaks_12 : decode cX1_taxesByLeaks 12 = .ok (.istore_n 2, 1) := by decide +kernel
theorem dX1_taxesByLeaks_13 : decode cX1_taxesByLeaks 13 = .ok (.iload_n 2, 1) := by decide +kernel
theorem dX1_taxesByLeaks_14 : decode cX1_taxesByLeaks 14 = .ok (.iconst 5, 1) := by decide +kernel
theorem dX1_taxesByLeaks_15 : decode cX1_taxesByLeaks 15 = .ok (.if_icmp .ge 30, 3) := by decide +kernel
theorem dX1_taxesByLeaks_18 : decode cX1_taxesByLeaks 18 = .ok (.iload_n 1, 1) := by decide +kernel
theorem dX1_taxesByLeaks_19 : decode cX1_taxesByLeaks 19 = .ok (.iload_n 2, 1) := by decide +kernel
theorem dX1_taxesByLeaks_20 : decode cX1_taxesByLeaks 20 = .ok (.invokestatic 28, 3) := by decide +kernel
theorem dX1_taxesByLeaks_23 : decode cX1_taxesByLeaks 23 = .ok (.ifCond .eq 16, 3) := by decide +kernel
theorem dX1_taxesByLeaks_26 : decode cX1_taxesByLeaks 26 = .ok (.aload_n 0, 1) := by decide +kernel
theorem dX1_taxesByLeaks_27 : decode cX1_taxesByLeaks 27 = .ok (.getfield 19, 3) := by decide +kernel
theorem dX1_taxesByLeaks_30 : decode cX1_taxesByLeaks 30 = .ok (.getfield 69, 3) := by decide +kernel
theorem dX1_taxesByLeaks_33 : decode cX1_taxesByLeaks 33 = .ok (.iload_n 2, 1) := by decide +kernel
theorem dX1_taxesByLeaks_34 : decode cX1_taxesByLeaks 34 = .ok (.dup2, 1) := by decide +kernel
theorem dX1_taxesByLeaks_35 : decode cX1_taxesByLeaks 35 = .ok (.iaload, 1) := by decide +kernel
theorem dX1_taxesByLeaks_36 : decode cX1_taxesByLeaks 36 = .ok (.iconst 1, 1) := by decide +kernel
theorem dX1_taxesByLeaks_37 : decode cX1_taxesByLeaks 37 = .ok (.isub, 1) := by decide +kernel
theorem dX1_taxesByLeaks_38 : decode cX1_taxesByLeaks 38 = .ok (.iastore, 1) := by decide +kernel
theorem dX1_taxesByLeaks_39 : decode cX1_taxesByLeaks 39 = .ok (.iinc 2 1, 3) := by decide +kernel
theorem dX1_taxesByLeaks_42 : decode cX1_taxesByLeaks 42 = .ok (.goto (-29), 3) := by decide +kernel
theorem dX1_taxesByLeaks_45 : decode cX1_taxesByLeaks 45 = .ok (.aload_n 0, 1) := by decide +kernel
theorem dX1_taxesByLeaks_46 : decode cX1_taxesByLeaks 46 = .ok (.getfield 19, 3) := by decide +kernel
theorem dX1_taxesByLeaks_49 : decode cX1_taxesByLeaks 49 = .ok (.bipush 15, 2) := by decide +kernel
theorem dX1_taxesByLeaks_51 : decode cX1_taxesByLeaks 51 = .ok (.invokevirtual 61, 3) := by decide +kernel
theorem dX1_taxesByLeaks_54 : decode cX1_taxesByLeaks 54 = .ok (.aload_n 0, 1) := by decide +kernel
theorem dX1_taxesByLeaks_55 : decode cX1_taxesByLeaks 55 = .ok (.getfield 19, 3) := by decide +kernel
theorem dX1_taxesByLeaks_58 : decode cX1_taxesByLeaks 58 = .ok (.invokevirtual 65, 3) := by decide +kernel
theorem dX1_taxesByLeaks_61 : decode cX1_taxesByLeaks 61 = .ok (.ireturn, 1) := by decide +kernel
theorem dX1_weightOf_0 : decode cX1_weightOf 0 = .ok (.iconst 1, 1) := by decide +kernel
theorem dX1_weightOf_1 : decode cX1_weightOf 1 = .ok (.istore_n 3, 1) := by decide +kernel
theorem dX1_weightOf_2 : decode cX1_weightOf 2 = .ok (.iconst 0, 1) := by decide +kernel
theorem dX1_weightOf_3 : decode cX1_weightOf 3 = .ok (.istore 4, 2) := by decide +kernel
theorem dX1_weightOf_5 : decode cX1_weightOf 5 = .ok (.iload 4, 2) := by decide +kernel
theorem dX1_weightOf_7 : decode cX1_weightOf 7 = .ok (.iconst 5, 1) := by decide +kernel
theorem dX1_weightOf_8 : decode cX1_weightOf 8 = .ok (.if_icmp .ge 38, 3) := by decide +kernel
theorem dX1_weightOf_11 : decode cX1_weightOf 11 = .ok (.iload_n 1, 1) := by decide +kernel
theorem dX1_weightOf_12 : decode cX1_weightOf 12 = .ok (.iload 4, 2) := by decide +kernel
theorem dX1_weightOf_14 : decode cX1_weightOf 14 = .ok (.invokestatic 28, 3) := by decide +kernel
theorem dX1_weightOf_17 : decode cX1_weightOf 17 = .ok (.ifCond .eq 23, 3) := by decide +kernel
theorem dX1_weightOf_20 : decode cX1_weightOf 20 = .ok (.iload_n 3, 1) := by decide +kernel
theorem dX1_weightOf_21 : decode cX1_weightOf 21 = .ok (.iload_n 0, 1) := by decide +kernel
theorem dX1_weightOf_22 : decode cX1_weightOf 22 = .ok (.iload 4, 2) := by decide +kernel
theorem dX1_weightOf_24 : decode cX1_weightOf 24 = .ok (.invokestatic 28, 3) := by decide +kernel
theorem dX1_weightOf_27 : decode cX1_weightOf 27 = .ok (.ifCond .eq 7, 3) := by decide +kernel
theorem dX1_weightOf_30 : decode cX1_weightOf 30 = .ok (.iload_n 2, 1) := by decide +kernel
theorem dX1_weightOf_31 : decode cX1_weightOf 31 = .ok (.goto 7, 3) := by decide +kernel
theorem dX1_weightOf_34 : decode cX1_weightOf 34 = .ok (.bipush 10, 2) := by decide +kernel
theorem dX1_weightOf_36 : decode cX1_weightOf 36 = .ok (.iload_n 2, 1) := by decide +kernel
theorem dX1_weightOf_37 : decode cX1_weightOf 37 = .ok (.isub, 1) := by decide +kernel
theorem dX1_weightOf_38 : decode cX1_weightOf 38 = .ok (.imul, 1) := by decide +kernel
theorem dX1_weightOf_39 : decode cX1_weightOf 39 = .ok (.istore_n 3, 1) := by decide +kernel
theorem dX1_weightOf_40 : decode cX1_weightOf 40 = .ok (.iinc 4 1, 3) := by decide +kernel
theorem dX1_weightOf_43 : decode cX1_weightOf 43 = .ok (.goto (-38), 3) := by decide +kernel
theorem dX1_weightOf_46 : decode cX1_weightOf 46 = .ok (.iload_n 3, 1) := by decide +kernel
theorem dX1_weightOf_47 : decode cX1_weightOf 47 = .ok (.ireturn, 1) := by decide +kernel
theorem dX2_init_0 : decode cX2_init 0 = .ok (.aload_n 0, 1) := by decide +kernel
theorem dX2_init_1 : decode cX2_init 1 = .ok (.invokespecial 3, 3) := by decide +kernel
theorem dX2_init_4 : decode cX2_init 4 = .ok (.aload_n 0, 1) := by decide +kernel
theorem dX2_init_5 : decode cX2_init 5 = .ok (.iconst 5, 1) := by decide +kernel
theorem dX2_init_6 : decode cX2_init 6 = .ok (.newarray .int, 2) := by decide +kernel
theorem dX2_init_8 : decode cX2_init 8 = .ok (.putfield 9, 3) := by decide +kernel
theorem dX2_init_11 : decode cX2_init 11 = .ok (.aload_n 0, 1) := by decide +kernel
theorem dX2_init_12 : decode cX2_init 12 = .ok (.iconst 5, 1) := by decide +kernel
theorem dX2_init_13 : decode cX2_init 13 = .ok (.newarray .int, 2) := by decide +kernel
theorem dX2_init_15 : decode cX2_init 15 = .ok (.putfield 15, 3) := by decide +kernel
theorem dX2_init_18 : decode cX2_init 18 = .ok (.aload_n 0, 1) := by decide +kernel
theorem dX2_init_19 : decode cX2_init 19 = .ok (.iconst 5, 1) := by decide +kernel
theorem dX2_init_20 : decode cX2_init 20 = .ok (.newarray .int, 2) := by decide +kernel
theorem dX2_init_22 : decode cX2_init 22 = .ok (.putfield 18, 3) := by decide +kernel
theorem dX2_init_25 : decode cX2_init 25 = .ok (.aload_n 0, 1) := by decide +kernel
theorem dX2_init_26 : decode cX2_init 26 = .ok (.iconst 4, 1) := by decide +kernel
theorem dX2_init_27 : decode cX2_init 27 = .ok (.newarray .int, 2) := by decide +kernel
theorem dX2_init_29 : decode cX2_init 29 = .ok (.putfield 21, 3) := by decide +kernel
theorem dX2_init_32 : decode cX2_init 32 = .ok (.aload_n 0, 1) := by decide +kernel
theorem dX2_init_33 : decode cX2_init 33 = .ok (.iconst 4, 1) := by decide +kernel
theorem dX2_init_34 : decode cX2_init 34 = .ok (.newarray .int, 2) := by decide +kernel
theorem dX2_init_36 : decode cX2_init 36 = .ok (.putfield 24, 3) := by decide +kernel
theorem dX2_init_39 : decode cX2_init 39 = .ok (.aload_n 0, 1) := by decide +kernel
theorem dX2_init_40 : decode cX2_init 40 = .ok (.iconst 4, 1) := by decide +kernel
theorem dX2_init_41 : decode cX2_init 41 = .ok (.newarray .int, 2) := by decide +kernel
theorem dX2_init_43 : decode cX2_init 43 = .ok (.putfield 27, 3) := by decide +kernel
theorem dX2_init_46 : decode cX2_init 46 = .ok (.return_, 1) := by decide +kernel
theorem dX2_clear_0 : decode cX2_clear 0 = .ok (.aload_n 0, 1) := by decide +kernel
theorem dX2_clear_1 : decode cX2_clear 1 = .ok (.iconst 0, 1) := by decide +kernel
theorem dX2_clear_2 : decode cX2_clear 2 = .ok (.putfield 30, 3) := by decide +kernel
theorem dX2_clear_5 : decode cX2_clear 5 = .ok (.aload_n 0, 1) := by decide +kernel
theorem dX2_clear_6 : decode cX2_clear 6 = .ok (.iconst 0, 1) := by decide +kernel
theorem dX2_clear_7 : decode cX2_clear 7 = .ok (.putfield 34, 3) := by decide +kernel
theorem dX2_clear_10 : decode cX2_clear 10 = .ok (.iconst 0, 1) := by decide +kernel
theorem dX2_clear_11 : decode cX2_clear 11 = .ok (.istore_n 1, 1) := by decide +kernel
theorem dX2_clear_12 : decode cX2_clear 12 = .ok (.iload_n 1, 1) := by decide +kernel
theorem dX2_clear_13 : decode cX2_clear 13 = .ok (.iconst 5, 1) := by decide +kernel
theorem dX2_clear_14 : decode cX2_clear 14 = .ok (.if_icmp .ge 30, 3) := by decide +kernel
theorem dX2_clear_17 : decode cX2_clear 17 = .ok (.aload_n 0, 1) := by decide +kernel
theorem dX2_clear_18 : decode cX2_clear 18 = .ok (.getfield 9, 3) := by decide +kernel
theorem dX2_clear_21 : decode cX2_clear 21 = .ok (.iload_n 1, 1) := by decide +kernel
theorem dX2_clear_22 : decode cX2_clear 22 = .ok (.iconst 0, 1) := by decide +kernel
theorem dX2_clear_23 : decode cX2_clear 23 = .ok (.iastore, 1) := by decide +kernel
theorem dX2_clear_24 : decode cX2_clear 24 = .ok (.aload_n 0, 1) := by decide +kernel
theorem dX2_clear_25 : decode cX2_clear 25 = .ok (.getfield 15, 3) := by decide +kernel
theorem dX2_clear_28 : decode cX2_clear 28 = .ok (.iload_n 1, 1) := by decide +kernel
theorem dX2_clear_29 : decode cX2_clear 29 = .ok (.iconst 0, 1) := by decide +kernel
theorem dX2_clear_30 : decode cX2_clear 30 = .ok (.iastore, 1) := by decide +kernel
theorem dX2_clear_31 : decode cX2_clear 31 = .ok (.aload_n 0, 1) := by decide +kernel
theorem dX2_clear_32 : decode cX2_clear 32 = .ok (.getfield 18, 3) := by decide +kernel
theorem dX2_clear_35 : decode cX2_clear 35 = .ok (.iload_n 1, 1) := by decide +kernel
theorem dX2_clear_36 : decode cX2_clear 36 = .ok (.iconst 0, 1) := by decide +kernel
theorem dX2_clear_37 : decode cX2_clear 37 = .ok (.iastore, 1) := by decide +kernel
theorem dX2_clear_38 : decode cX2_clear 38 = .ok (.iinc 1 1, 3) := by decide +kernel
theorem dX2_clear_41 : decode cX2_clear 41 = .ok (.goto (-29), 3) := by decide +kernel
theorem dX2_clear_44 : decode cX2_clear 44 = .ok (.iconst 0, 1) := by decide +kernel
theorem dX2_clear_45 : decode cX2_clear 45 = .ok (.istore_n 1, 1) := by decide +kernel
theorem dX2_clear_46 : decode cX2_clear 46 = .ok (.iload_n 1, 1) := by decide +kernel
theorem dX2_clear_47 : decode cX2_clear 47 = .ok (.iconst 4, 1) := by decide +kernel
theorem dX2_clear_48 : decode cX2_clear 48 = .ok (.if_icmp .ge 30, 3) := by decide +kernel
theorem dX2_clear_51 : decode cX2_clear 51 = .ok (.aload_n 0, 1) := by decide +kernel
theorem dX2_clear_52 : decode cX2_clear 52 = .ok (.getfield 21, 3) := by decide +kernel
theorem dX2_clear_55 : decode cX2_clear 55 = .ok (.iload_n 1, 1) := by decide +kernel
theorem dX2_clear_56 : decode cX2_clear 56 = .ok (.iconst 0, 1) := by decide +kernel
theorem dX2_clear_57 : decode cX2_clear 57 = .ok (.iastore, 1) := by decide +kernel
theorem dX2_clear_58 : decode cX2_clear 58 = .ok (.aload_n 0, 1) := by decide +kernel
theorem dX2_clear_59 : decode cX2_clear 59 = .ok (.getfield 24, 3) := by decide +kernel
theorem dX2_clear_62 : decode cX2_clear 62 = .ok (.iload_n 1, 1) := by decide +kernel
theorem dX2_clear_63 : decode cX2_clear 63 = .ok (.iconst 0, 1) := by decide +kernel
theorem dX2_clear_64 : decode cX2_clear 64 = .ok (.iastore, 1) := by decide +kernel
theorem dX2_clear_65 : decode cX2_clear 65 = .ok (.aload_n 0, 1) := by decide +kernel
theorem dX2_clear_66 : decode cX2_clear 66 = .ok (.getfield 27, 3) := by decide +kernel
theorem dX2_clear_69 : decode cX2_clear 69 = .ok (.iload_n 1, 1) := by decide +kernel
theorem dX2_clear_70 : decode cX2_clear 70 = .ok (.iconst 0, 1) := by decide +kernel
theorem dX2_clear_71 : decode cX2_clear 71 = .ok (.iastore, 1) := by decide +kernel
theorem dX2_clear_72 : decode cX2_clear 72 = .ok (.iinc 1 1, 3) := by decide +kernel
theorem dX2_clear_75 : decode cX2_clear 75 = .ok (.goto (-29), 3) := by decide +kernel
theorem dX2_clear_78 : decode cX2_clear 78 = .ok (.return_, 1) := by decide +kernel
theorem dX2_copyFrom_0 : decode cX2_copyFrom 0 = .ok (.aload_n 0, 1) := by decide +kernel
theorem dX2_copyFrom_1 : decode cX2_copyFrom 1 = .ok (.aload_n 1, 1) := by decide +kernel
theorem dX2_copyFrom_2 : decode cX2_copyFrom 2 = .ok (.getfield 30, 3) := by decide +kernel
theorem dX2_copyFrom_5 : decode cX2_copyFrom 5 = .ok (.putfield 30, 3) := by decide +kernel
theorem dX2_copyFrom_8 : decode cX2_copyFrom 8 = .ok (.aload_n 0, 1) := by decide +kernel
theorem dX2_copyFrom_9 : decode cX2_copyFrom 9 = .ok (.aload_n 1, 1) := by decide +kernel
theorem dX2_copyFrom_10 : decode cX2_copyFrom 10 = .ok (.getfield 34, 3) := by decide +kernel
theorem dX2_copyFrom_13 : decode cX2_copyFrom 13 = .ok (.putfield 34, 3) := by decide +kernel
theorem dX2_copyFrom_16 : decode cX2_copyFrom 16 = .ok (.aload_n 1, 1) := by decide +kernel
theorem dX2_copyFrom_17 : decode cX2_copyFrom 17 = .ok (.getfield 9, 3) := by decide +kernel
theorem dX2_copyFrom_20 : decode cX2_copyFrom 20 = .ok (.iconst 0, 1) := by decide +kernel
theorem dX2_copyFrom_21 : decode cX2_copyFrom 21 = .ok (.aload_n 0, 1) := by decide +kernel
theorem dX2_copyFrom_22 : decode cX2_copyFrom 22 = .ok (.getfield 9, 3) := by decide +kernel
theorem dX2_copyFrom_25 : decode cX2_copyFrom 25 = .ok (.iconst 0, 1) := by decide +kernel
theorem dX2_copyFrom_26 : decode cX2_copyFrom 26 = .ok (.iconst 5, 1) := by decide +kernel
theorem dX2_copyFrom_27 : decode cX2_copyFrom 27 = .ok (.invokestatic 37, 3) := by decide +kernel
theorem dX2_copyFrom_30 : decode cX2_copyFrom 30 = .ok (.aload_n 1, 1) := by decide +kernel
theorem dX2_copyFrom_31 : decode cX2_copyFrom 31 = .ok (.getfield 15, 3) := by decide +kernel
theorem dX2_copyFrom_34 : decode cX2_copyFrom 34 = .ok (.iconst 0, 1) := by decide +kernel
theorem dX2_copyFrom_35 : decode cX2_copyFrom 35 = .ok (.aload_n 0, 1) := by decide +kernel
theorem dX2_copyFrom_36 : decode cX2_copyFrom 36 = .ok (.getfield 15, 3) := by decide +kernel
theorem dX2_copyFrom_39 : decode cX2_copyFrom 39 = .ok (.iconst 0, 1) := by decide +kernel
theorem dX2_copyFrom_40 : decode cX2_copyFrom 40 = .ok (.iconst 5, 1) := by decide +kernel
theorem dX2_copyFrom_41 : decode cX2_copyFrom 41 = .ok (.invokestatic 37, 3) := by decide +kernel
theorem dX2_copyFrom_44 : decode cX2_copyFrom 44 = .ok (.aload_n 1, 1) := by decide +kernel
theorem dX2_copyFrom_45 : decode cX2_copyFrom 45 = .ok (.getfield 18, 3) := by decide +kernel
theorem dX2_copyFrom_48 : decode cX2_copyFrom 48 = .ok (.iconst 0, 1) := by decide +kernel
theorem dX2_copyFrom_49 : decode cX2_copyFrom 49 = .ok (.aload_n 0, 1) := by decide +kernel
theorem dX2_copyFrom_50 : decode cX2_copyFrom 50 = .ok (.getfield 18, 3) := by decide +kernel
theorem dX2_copyFrom_53 : decode cX2_copyFrom 53 = .ok (.iconst 0, 1) := by decide +kernel
theorem dX2_copyFrom_54 : decode cX2_copyFrom 54 = .ok (.iconst 5, 1) := by decide +kernel
theorem dX2_copyFrom_55 : decode cX2_copyFrom 55 = .ok (.invokestatic 37, 3) := by decide +kernel
theorem dX2_copyFrom_58 : decode cX2_copyFrom 58 = .ok (.aload_n 1, 1) := by decide +kernel
theorem dX2_copyFrom_59 : decode cX2_copyFrom 59 = .ok (.getfield 21, 3) := by decide +kernel
theorem dX2_copyFrom_62 : decode cX2_copyFrom 62 = .ok (.iconst 0, 1) := by decide +kernel
theorem dX2_copyFrom_63 : decode cX2_copyFrom 63 = .ok (.aload_n 0, 1) := by decide +kernel
theorem dX2_copyFrom_64 : decode cX2_copyFrom 64 = .ok (.getfield 21, 3) := by decide +kernel
theorem dX2_copyFrom_67 : decode cX2_copyFrom 67 = .ok (.iconst 0, 1) := by decide +kernel
theorem dX2_copyFrom_68 : decode cX2_copyFrom 68 = .ok (.iconst 4, 1) := by decide +kernel
theorem dX2_copyFrom_69 : decode cX2_copyFrom 69 = .ok (.invokestatic 37, 3) := by decide +kernel
theorem dX2_copyFrom_72 : decode cX2_copyFrom 72 = .ok (.aload_n 1, 1) := by decide +kernel
theorem dX2_copyFrom_73 : decode cX2_copyFrom 73 = .ok (.getfield 24, 3) := by decide +kernel
theorem dX2_copyFrom_76 : decode cX2_copyFrom 76 = .ok (.iconst 0, 1) := by decide +kernel
theorem dX2_copyFrom_77 : decode cX2_copyFrom 77 = .ok (.aload_n 0, 1) := by decide +kernel
theorem dX2_copyFrom_78 : decode cX2_copyFrom 78 = .ok (.getfield 24, 3) := by decide +kernel
theorem dX2_copyFrom_81 : decode cX2_copyFrom 81 = .ok (.iconst 0, 1) := by decide +kernel
theorem dX2_copyFrom_82 : decode cX2_copyFrom 82 = .ok (.iconst 4, 1) := by decide +kernel
theorem dX2_copyFrom_83 : decode cX2_copyFrom 83 = .ok (.invokestatic 37, 3) := by decide +kernel
theorem dX2_copyFrom_86 : decode cX2_copyFrom 86 = .ok (.aload_n 1, 1) := by decide +kernel
theorem dX2_copyFrom_87 : decode cX2_copyFrom 87 = .ok (.getfield 27, 3) := by decide +kernel
theorem dX2_copyFrom_90 : decode cX2_copyFrom 90 = .ok (.iconst 0, 1) := by decide +kernel
theorem dX2_copyFrom_91 : decode cX2_copyFrom 91 = .ok (.aload_n 0, 1) := by decide +kernel
theorem dX2_copyFrom_92 : decode cX2_copyFrom 92 = .ok (.getfield 27, 3) := by decide +kernel
theorem dX2_copyFrom_95 : decode cX2_copyFrom 95 = .ok (.iconst 0, 1) := by decide +kernel
theorem dX2_copyFrom_96 : decode cX2_copyFrom 96 = .ok (.iconst 4, 1) := by decide +kernel
theorem dX2_copyFrom_97 : decode cX2_copyFrom 97 = .ok (.invokestatic 37, 3) := by decide +kernel
theorem dX2_copyFrom_100 : decode cX2_copyFrom 100 = .ok (.return_, 1) := by decide +kernel
theorem dX2_addGlass_0 : decode cX2_addGlass 0 = .ok (.aload_n 0, 1) := by decide +kernel
theorem dX2_addGlass_1 : decode cX2_addGlass 1 = .ok (.getfield 30, 3) := by decide +kernel
theorem dX2_addGlass_4 : decode cX2_addGlass 4 = .ok (.iconst 5, 1) := by decide +kernel
theorem dX2_addGlass_5 : decode cX2_addGlass 5 = .ok (.if_icmp .ge 43, 3) := by decide +kernel
theorem dX2_addGlass_8 : decode cX2_addGlass 8 = .ok (.aload_n 0, 1) := by decide +kernel
theorem dX2_addGlass_9 : decode cX2_addGlass 9 = .ok (.getfield 9, 3) := by decide +kernel
theorem dX2_addGlass_12 : decode cX2_addGlass 12 = .ok (.aload_n 0, 1) := by decide +kernel
theorem dX2_addGlass_13 : decode cX2_addGlass 13 = .ok (.getfield 30, 3) := by decide +kernel
theorem dX2_addGlass_16 : decode cX2_addGlass 16 = .ok (.iload_n 1, 1) := by decide +kernel
theorem dX2_addGlass_17 : decode cX2_addGlass 17 = .ok (.iastore, 1) := by decide +kernel
theorem dX2_addGlass_18 : decode cX2_addGlass 18 = .ok (.aload_n 0, 1) := by decide +kernel
theorem dX2_addGlass_19 : decode cX2_addGlass 19 = .ok (.getfield 15, 3) := by decide +kernel
theorem dX2_addGlass_22 : decode cX2_addGlass 22 = .ok (.aload_n 0, 1) := by decide +kernel
theorem dX2_addGlass_23 : decode cX2_addGlass 23 = .ok (.getfield 30, 3) := by decide +kernel
theorem dX2_addGlass_26 : decode cX2_addGlass 26 = .ok (.iload_n 2, 1) := by decide +kernel
theorem dX2_addGlass_27 : decode cX2_addGlass 27 = .ok (.iastore, 1) := by decide +kernel
theorem dX2_addGlass_28 : decode cX2_addGlass 28 = .ok (.aload_n 0, 1) := by decide +kernel
theorem dX2_addGlass_29 : decode cX2_addGlass 29 = .ok (.getfield 18, 3) := by decide +kernel
theorem dX2_addGlass_32 : decode cX2_addGlass 32 = .ok (.aload_n 0, 1) := by decide +kernel
theorem dX2_addGlass_33 : decode cX2_addGlass 33 = .ok (.getfield 30, 3) := by decide +kernel
theorem dX2_addGlass_36 : decode cX2_addGlass 36 = .ok (.iload_n 3, 1) := by decide +kernel
theorem dX2_addGlass_37 : decode cX2_addGlass 37 = .ok (.iastore, 1) := by decide +kernel
theorem dX2_addGlass_38 : decode cX2_addGlass 38 = .ok (.aload_n 0, 1) := by decide +kernel
theorem dX2_addGlass_39 : decode cX2_addGlass 39 = .ok (.dup, 1) := by decide +kernel
theorem dX2_addGlass_40 : decode cX2_addGlass 40 = .ok (.getfield 30, 3) := by decide +kernel
theorem dX2_addGlass_43 : decode cX2_addGlass 43 = .ok (.iconst 1, 1) := by decide +kernel
theorem dX2_addGlass_44 : decode cX2_addGlass 44 = .ok (.iadd, 1) := by decide +kernel
theorem dX2_addGlass_45 : decode cX2_addGlass 45 = .ok (.putfield 30, 3) := by decide +kernel
theorem dX2_addGlass_48 : decode cX2_addGlass 48 = .ok (.return_, 1) := by decide +kernel
theorem dX2_addDrinker_0 : decode cX2_addDrinker 0 = .ok (.aload_n 0, 1) := by decide +kernel
theorem dX2_addDrinker_1 : decode cX2_addDrinker 1 = .ok (.getfield 34, 3) := by decide +kernel
theorem dX2_addDrinker_4 : decode cX2_addDrinker 4 = .ok (.iconst 4, 1) := by decide +kernel
theorem dX2_addDrinker_5 : decode cX2_addDrinker 5 = .ok (.if_icmp .ge 33, 3) := by decide +kernel
theorem dX2_addDrinker_8 : decode cX2_addDrinker 8 = .ok (.aload_n 0, 1) := by decide +kernel
theorem dX2_addDrinker_9 : decode cX2_addDrinker 9 = .ok (.getfield 21, 3) := by decide +kernel
theorem dX2_addDrinker_12 : decode cX2_addDrinker 12 = .ok (.aload_n 0, 1) := by decide +kernel
theorem dX2_addDrinker_13 : decode cX2_addDrinker 13 = .ok (.getfield 34, 3) := by decide +kernel
theorem dX2_addDrinker_16 : decode cX2_addDrinker 16 = .ok (.iload_n 1, 1) := by decide +kernel
theorem dX2_addDrinker_17 : decode cX2_addDrinker 17 = .ok (.iastore, 1) := by decide +kernel
theorem dX2_addDrinker_18 : decode cX2_addDrinker 18 = .ok (.aload_n 0, 1) := by decide +kernel
theorem dX2_addDrinker_19 : decode cX2_addDrinker 19 = .ok (.getfield 24, 3) := by decide +kernel
theorem dX2_addDrinker_22 : decode cX2_addDrinker 22 = .ok (.aload_n 0, 1) := by decide +kernel
theorem dX2_addDrinker_23 : decode cX2_addDrinker 23 = .ok (.getfield 34, 3) := by decide +kernel
theorem dX2_addDrinker_26 : decode cX2_addDrinker 26 = .ok (.iload_n 2, 1) := by decide +kernel
theorem dX2_addDrinker_27 : decode cX2_addDrinker 27 = .ok (.iastore, 1) := by decide +kernel
theorem dX2_addDrinker_28 : decode cX2_addDrinker 28 = .ok (.aload_n 0, 1) := by decide +kernel
theorem dX2_addDrinker_29 : decode cX2_addDrinker 29 = .ok (.dup, 1) := by decide +kernel
theorem dX2_addDrinker_30 : decode cX2_addDrinker 30 = .ok (.getfield 34, 3) := by decide +kernel
theorem dX2_addDrinker_33 : decode cX2_addDrinker 33 = .ok (.iconst 1, 1) := by decide +kernel
theorem dX2_addDrinker_34 : decode cX2_addDrinker 34 = .ok (.iadd, 1) := by decide +kernel
theorem dX2_addDrinker_35 : decode cX2_addDrinker 35 = .ok (.putfield 34, 3) := by decide +kernel
theorem dX2_addDrinker_38 : decode cX2_addDrinker 38 = .ok (.return_, 1) := by decide +kernel
theorem dX2_hasGlass_0 : decode cX2_hasGlass 0 = .ok (.iload_n 1, 1) := by decide +kernel
theorem dX2_hasGlass_1 : decode cX2_hasGlass 1 = .ok (.ifCond .lt 15, 3) := by decide +kernel
theorem dX2_hasGlass_4 : decode cX2_hasGlass 4 = .ok (.iload_n 1, 1) := by decide +kernel
theorem dX2_hasGlass_5 : decode cX2_hasGlass 5 = .ok (.aload_n 0, 1) := by decide +kernel
theorem dX2_hasGlass_6 : decode cX2_hasGlass 6 = .ok (.getfield 30, 3) := by decide +kernel
theorem dX2_hasGlass_9 : decode cX2_hasGlass 9 = .ok (.if_icmp .ge 7, 3) := by decide +kernel
theorem dX2_hasGlass_12 : decode cX2_hasGlass 12 = .ok (.iconst 1, 1) := by decide +kernel
theorem dX2_hasGlass_13 : decode cX2_hasGlass 13 = .ok (.goto 4, 3) := by decide +kernel
theorem dX2_hasGlass_16 : decode cX2_hasGlass 16 = .ok (.iconst 0, 1) := by decide +kernel
theorem dX2_hasGlass_17 : decode cX2_hasGlass 17 = .ok (.ireturn, 1) := by decide +kernel
theorem dX2_hasDrinker_0 : decode cX2_hasDrinker 0 = .ok (.iload_n 1, 1) := by decide +kernel
theorem dX2_hasDrinker_1 : decode cX2_hasDrinker 1 = .ok (.ifCond .lt 15, 3) := by decide +kernel
theorem dX2_hasDrinker_4 : decode cX2_hasDrinker 4 = .ok (.iload_n 1, 1) := by decide +kernel
theorem dX2_hasDrinker_5 : decode cX2_hasDrinker 5 = .ok (.aload_n 0, 1) := by decide +kernel
theorem dX2_hasDrinker_6 : decode cX2_hasDrinker 6 = .ok (.getfield 34, 3) := by decide +kernel
theorem dX2_hasDrinker_9 : decode cX2_hasDrinker 9 = .ok (.if_icmp .ge 7, 3) := by decide +kernel
theorem dX2_hasDrinker_12 : decode cX2_hasDrinker 12 = .ok (.iconst 1, 1) := by decide +kernel
theorem dX2_hasDrinker_13 : decode cX2_hasDrinker 13 = .ok (.goto 4, 3) := by decide +kernel
theorem dX2_hasDrinker_16 : decode cX2_hasDrinker 16 = .ok (.iconst 0, 1) := by decide +kernel
theorem dX2_hasDrinker_17 : decode cX2_hasDrinker 17 = .ok (.ireturn, 1) := by decide +kernel
theorem dX2_sits_0 : decode cX2_sits 0 = .ok (.aload_n 0, 1) := by decide +kernel
theorem dX2_sits_1 : decode cX2_sits 1 = .ok (.iload_n 1, 1) := by decide +kernel
theorem dX2_sits_2 : decode cX2_sits 2 = .ok (.invokevirtual 43, 3) := by decide +kernel
theorem dX2_sits_5 : decode cX2_sits 5 = .ok (.ifCond .eq 28, 3) := by decide +kernel
theorem dX2_sits_8 : decode cX2_sits 8 = .ok (.aload_n 0, 1) := by decide +kernel
theorem dX2_sits_9 : decode cX2_sits 9 = .ok (.iload_n 2, 1) := by decide +kernel
theorem dX2_sits_10 : decode cX2_sits 10 = .ok (.invokevirtual 47, 3) := by decide +kernel
theorem dX2_sits_13 : decode cX2_sits 13 = .ok (.ifCond .eq 20, 3) := by decide +kernel
theorem dX2_sits_16 : decode cX2_sits 16 = .ok (.aload_n 0, 1) := by decide +kernel
theorem dX2_sits_17 : decode cX2_sits 17 = .ok (.getfield 27, 3) := by decide +kernel
theorem dX2_sits_20 : decode cX2_sits 20 = .ok (.iload_n 1, 1) := by decide +kernel
theorem dX2_sits_21 : decode cX2_sits 21 = .ok (.iaload, 1) := by decide +kernel
theorem dX2_sits_22 : decode cX2_sits 22 = .ok (.iload_n 2, 1) := by decide +kernel
theorem dX2_sits_23 : decode cX2_sits 23 = .ok (.invokestatic 50, 3) := by decide +kernel
theorem dX2_sits_26 : decode cX2_sits 26 = .ok (.ifCond .eq 7, 3) := by decide +kernel
theorem dX2_sits_29 : decode cX2_sits 29 = .ok (.iconst 1, 1) := by decide +kernel
theorem dX2_sits_30 : decode cX2_sits 30 = .ok (.goto 4, 3) := by decide +kernel
theorem dX2_sits_33 : decode cX2_sits 33 = .ok (.iconst 0, 1) := by decide +kernel
theorem dX2_sits_34 : decode cX2_sits 34 = .ok (.ireturn, 1) := by decide +kernel
theorem dX2_canSit_0 : decode cX2_canSit 0 = .ok (.aload_n 0, 1) := by decide +kernel
theorem dX2_canSit_1 : decode cX2_canSit 1 = .ok (.iload_n 1, 1) := by decide +kernel
theorem dX2_canSit_2 : decode cX2_canSit 2 = .ok (.invokevirtual 43, 3) := by decide +kernel
theorem dX2_canSit_5 : decode cX2_canSit 5 = .ok (.ifCond .eq 24, 3) := by decide +kernel
theorem dX2_canSit_8 : decode cX2_canSit 8 = .ok (.aload_n 0, 1) := by decide +kernel
theorem dX2_canSit_9 : decode cX2_canSit 9 = .ok (.getfield 27, 3) := by decide +kernel
theorem dX2_canSit_12 : decode cX2_canSit 12 = .ok (.iload_n 1, 1) := by decide +kernel
theorem dX2_canSit_13 : decode cX2_canSit 13 = .ok (.iaload, 1) := by decide +kernel
theorem dX2_canSit_14 : decode cX2_canSit 14 = .ok (.iconst 1, 1) := by decide +kernel
theorem dX2_canSit_15 : decode cX2_canSit 15 = .ok (.aload_n 0, 1) := by decide +kernel
theorem dX2_canSit_16 : decode cX2_canSit 16 = .ok (.getfield 30, 3) := by decide +kernel
theorem dX2_canSit_19 : decode cX2_canSit 19 = .ok (.ishl, 1) := by decide +kernel
theorem dX2_canSit_20 : decode cX2_canSit 20 = .ok (.iconst 1, 1) := by decide +kernel
theorem dX2_canSit_21 : decode cX2_canSit 21 = .ok (.isub, 1) := by decide +kernel
theorem dX2_canSit_22 : decode cX2_canSit 22 = .ok (.if_icmp .eq 7, 3) := by decide +kernel
theorem dX2_canSit_25 : decode cX2_canSit 25 = .ok (.iconst 1, 1) := by decide +kernel
theorem dX2_canSit_26 : decode cX2_canSit 26 = .ok (.goto 4, 3) := by decide +kernel
theorem dX2_canSit_29 : decode cX2_canSit 29 = .ok (.iconst 0, 1) := by decide +kernel
theorem dX2_canSit_30 : decode cX2_canSit 30 = .ok (.ireturn, 1) := by decide +kernel
theorem dX2_anyCanSit_0 : decode cX2_anyCanSit 0 = .ok (.iconst 0, 1) := by decide +kernel
theorem dX2_anyCanSit_1 : decode cX2_anyCanSit 1 = .ok (.istore_n 1, 1) := by decide +kernel
theorem dX2_anyCanSit_2 : decode cX2_anyCanSit 2 = .ok (.iload_n 1, 1) := by decide +kernel
theorem dX2_anyCanSit_3 : decode cX2_anyCanSit 3 = .ok (.aload_n 0, 1) := by decide +kernel
theorem dX2_anyCanSit_4 : decode cX2_anyCanSit 4 = .ok (.getfield 34, 3) := by decide +kernel
theorem dX2_anyCanSit_7 : decode cX2_anyCanSit 7 = .ok (.if_icmp .ge 19, 3) := by decide +kernel
theorem dX2_anyCanSit_10 : decode cX2_anyCanSit 10 = .ok (.aload_n 0, 1) := by decide +kernel
theorem dX2_anyCanSit_11 : decode cX2_anyCanSit 11 = .ok (.iload_n 1, 1) := by decide +kernel
theorem dX2_anyCanSit_12 : decode cX2_anyCanSit 12 = .ok (.invokevirtual 54, 3) := by decide +kernel
theorem dX2_anyCanSit_15 : decode cX2_anyCanSit 15 = .ok (.ifCond .eq 5, 3) := by decide +kernel
theorem dX2_anyCanSit_18 : decode cX2_anyCanSit 18 = .ok (.iconst 1, 1) := by decide +kernel
theorem dX2_anyCanSit_19 : decode cX2_anyCanSit 19 = .ok (.ireturn, 1) := by decide +kernel
theorem dX2_anyCanSit_20 : decode cX2_anyCanSit 20 = .ok (.iinc 1 1, 3) := by decide +kernel
theorem dX2_anyCanSit_23 : decode cX2_anyCanSit 23 = .ok (.goto (-21), 3) := by decide +kernel
theorem dX2_anyCanSit_26 : decode cX2_anyCanSit 26 = .ok (.iconst 0, 1) := by decide +kernel
theorem dX2_anyCanSit_27 : decode cX2_anyCanSit 27 = .ok (.ireturn, 1) := by decide +kernel
theorem dX2_sittersAt_0 : decode cX2_sittersAt 0 = .ok (.iconst 0, 1) := by decide +kernel
theorem dX2_sittersAt_1 : decode cX2_sittersAt 1 = .ok (.istore_n 2, 1) := by decide +kernel
theorem dX2_sittersAt_2 : decode cX2_sittersAt 2 = .ok (.iconst 0, 1) := by decide +kernel
theorem dX2_sittersAt_3 : decode cX2_sittersAt 3 = .ok (.istore_n 3, 1) := by decide +kernel
theorem dX2_sittersAt_4 : decode cX2_sittersAt 4 = .ok (.iload_n 3, 1) := by decide +kernel
theorem dX2_sittersAt_5 : decode cX2_sittersAt 5 = .ok (.aload_n 0, 1) := by decide +kernel
theorem dX2_sittersAt_6 : decode cX2_sittersAt 6 = .ok (.getfield 34, 3) := by decide +kernel
theorem dX2_sittersAt_9 : decode cX2_sittersAt 9 = .ok (.if_icmp .ge 24, 3) := by decide +kernel
theorem dX2_sittersAt_12 : decode cX2_sittersAt 12 = .ok (.aload_n 0, 1) := by decide +kernel
theorem dX2_sittersAt_13 : decode cX2_sittersAt 13 = .ok (.iload_n 3, 1) := by decide +kernel
theorem dX2_sittersAt_14 : decode cX2_sittersAt 14 = .ok (.iload_n 1, 1) := by decide +kernel
theorem dX2_sittersAt_15 : decode cX2_sittersAt 15 = .ok (.invokevirtual 57, 3) := by decide +kernel
theorem dX2_sittersAt_18 : decode cX2_sittersAt 18 = .ok (.ifCond .eq 9, 3) := by decide +kernel
theorem dX2_sittersAt_21 : decode cX2_sittersAt 21 = .ok (.iload_n 2, 1) := by decide +kernel
theorem dX2_sittersAt_22 : decode cX2_sittersAt 22 = .ok (.iconst 1, 1) := by decide +kernel
theorem dX2_sittersAt_23 : decode cX2_sittersAt 23 = .ok (.iload_n 3, 1) := by decide +kernel
theorem dX2_sittersAt_24 : decode cX2_sittersAt 24 = .ok (.ishl, 1) := by decide +kernel
theorem dX2_sittersAt_25 : decode cX2_sittersAt 25 = .ok (.ior, 1) := by decide +kernel
theorem dX2_sittersAt_26 : decode cX2_sittersAt 26 = .ok (.istore_n 2, 1) := by decide +kernel
theorem dX2_sittersAt_27 : decode cX2_sittersAt 27 = .ok (.iinc 3 1, 3) := by decide +kernel
theorem dX2_sittersAt_30 : decode cX2_sittersAt 30 = .ok (.goto (-26), 3) := by decide +kernel
theorem dX2_sittersAt_33 : decode cX2_sittersAt 33 = .ok (.iload_n 2, 1) := by decide +kernel
theorem dX2_sittersAt_34 : decode cX2_sittersAt 34 = .ok (.ireturn, 1) := by decide +kernel
theorem dX3_init_0 : decode cX3_init 0 = .ok (.aload_n 0, 1) := by decide +kernel
theorem dX3_init_1 : decode cX3_init 1 = .ok (.invokespecial 3, 3) := by decide +kernel
theorem dX3_init_4 : decode cX3_init 4 = .ok (.aload_n 0, 1) := by decide +kernel
theorem dX3_init_5 : decode cX3_init 5 = .ok (.bipush 60, 2) := by decide +kernel
theorem dX3_init_7 : decode cX3_init 7 = .ok (.newarray .int, 2) := by decide +kernel
theorem dX3_init_9 : decode cX3_init 9 = .ok (.putfield 9, 3) := by decide +kernel
theorem dX3_init_12 : decode cX3_init 12 = .ok (.return_, 1) := by decide +kernel
theorem dX3_add_0 : decode cX3_add 0 = .ok (.aload_n 0, 1) := by decide +kernel
theorem dX3_add_1 : decode cX3_add 1 = .ok (.getfield 15, 3) := by decide +kernel
theorem dX3_add_4 : decode cX3_add 4 = .ok (.bipush 60, 2) := by decide +kernel
theorem dX3_add_6 : decode cX3_add 6 = .ok (.if_icmp .lt 6, 3) := by decide +kernel
theorem dX3_add_9 : decode cX3_add 9 = .ok (.bipush (-4), 2) := by decide +kernel
theorem dX3_add_11 : decode cX3_add 11 = .ok (.ireturn, 1) := by decide +kernel
theorem dX3_add_12 : decode cX3_add 12 = .ok (.aload_n 0, 1) := by decide +kernel
theorem dX3_add_13 : decode cX3_add 13 = .ok (.getfield 9, 3) := by decide +kernel
theorem dX3_add_16 : decode cX3_add 16 = .ok (.aload_n 0, 1) := by decide +kernel
theorem dX3_add_17 : decode cX3_add 17 = .ok (.getfield 15, 3) := by decide +kernel
theorem dX3_add_20 : decode cX3_add 20 = .ok (.iload_n 1, 1) := by decide +kernel
theorem dX3_add_21 : decode cX3_add 21 = .ok (.iastore, 1) := by decide +kernel
theorem dX3_add_22 : decode cX3_add 22 = .ok (.aload_n 0, 1) := by decide +kernel
theorem dX3_add_23 : decode cX3_add 23 = .ok (.dup, 1) := by decide +kernel
theorem dX3_add_24 : decode cX3_add 24 = .ok (.getfield 15, 3) := by decide +kernel
theorem dX3_add_27 : decode cX3_add 27 = .ok (.iconst 1, 1) := by decide +kernel
theorem dX3_add_28 : decode cX3_add 28 = .ok (.iadd, 1) := by decide +kernel
theorem dX3_add_29 : decode cX3_add 29 = .ok (.putfield 15, 3) := by decide +kernel
theorem dX3_add_32 : decode cX3_add 32 = .ok (.aload_n 0, 1) := by decide +kernel
theorem dX3_add_33 : decode cX3_add 33 = .ok (.getfield 15, 3) := by decide +kernel
theorem dX3_add_36 : decode cX3_add 36 = .ok (.ireturn, 1) := by decide +kernel
theorem dX4_init_0 : decode cX4_init 0 = .ok (.aload_n 0, 1) := by decide +kernel
theorem dX4_init_1 : decode cX4_init 1 = .ok (.invokespecial 3, 3) := by decide +kernel
theorem dX4_init_4 : decode cX4_init 4 = .ok (.aload_n 0, 1) := by decide +kernel
theorem dX4_init_5 : decode cX4_init 5 = .ok (.aload_n 1, 1) := by decide +kernel
theorem dX4_init_6 : decode cX4_init 6 = .ok (.putfield 9, 3) := by decide +kernel
theorem dX4_init_9 : decode cX4_init 9 = .ok (.aload_n 0, 1) := by decide +kernel
theorem dX4_init_10 : decode cX4_init 10 = .ok (.aload_n 2, 1) := by decide +kernel
theorem dX4_init_11 : decode cX4_init 11 = .ok (.putfield 15, 3) := by decide +kernel
theorem dX4_init_14 : decode cX4_init 14 = .ok (.return_, 1) := by decide +kernel
theorem dX4_findRests_0 : decode cX4_findRests 0 = .ok (.aload_n 0, 1) := by decide +kernel
theorem dX4_findRests_1 : decode cX4_findRests 1 = .ok (.iload_n 1, 1) := by decide +kernel
theorem dX4_findRests_2 : decode cX4_findRests 2 = .ok (.putfield 19, 3) := by decide +kernel
theorem dX4_findRests_5 : decode cX4_findRests 5 = .ok (.aload_n 0, 1) := by decide +kernel
theorem dX4_findRests_6 : decode cX4_findRests 6 = .ok (.iload_n 2, 1) := by decide +kernel
theorem dX4_findRests_7 : decode cX4_findRests 7 = .ok (.putfield 23, 3) := by decide +kernel
theorem dX4_findRests_10 : decode cX4_findRests 10 = .ok (.aload_n 0, 1) := by decide +kernel
theorem dX4_findRests_11 : decode cX4_findRests 11 = .ok (.iconst 0, 1) := by decide +kernel
theorem dX4_findRests_12 : decode cX4_findRests 12 = .ok (.putfield 26, 3) := by decide +kernel
theorem dX4_findRests_15 : decode cX4_findRests 15 = .ok (.aload_n 0, 1) := by decide +kernel
theorem dX4_findRests_16 : decode cX4_findRests 16 = .ok (.bipush (-9), 2) := by decide +kernel
theorem dX4_findRests_18 : decode cX4_findRests 18 = .ok (.putfield 29, 3) := by decide +kernel
theorem dX4_findRests_21 : decode cX4_findRests 21 = .ok (.iconst 0, 1) := by decide +kernel
theorem dX4_findRests_22 : decode cX4_findRests 22 = .ok (.istore_n 3, 1) := by decide +kernel
theorem dX4_findRests_23 : decode cX4_findRests 23 = .ok (.iload_n 3, 1) := by decide +kernel
theorem dX4_findRests_24 : decode cX4_findRests 24 = .ok (.iconst 5, 1) := by decide +kernel
theorem dX4_findRests_25 : decode cX4_findRests 25 = .ok (.if_icmp .ge 100, 3) := by decide +kernel
theorem dX4_findRests_28 : decode cX4_findRests 28 = .ok (.iconst 0, 1) := by decide +kernel
theorem dX4_findRests_29 : decode cX4_findRests 29 = .ok (.istore 4, 2) := by decide +kernel
theorem dX4_findRests_31 : decode cX4_findRests 31 = .ok (.iload 4, 2) := by decide +kernel
theorem dX4_findRests_33 : decode cX4_findRests 33 = .ok (.iconst 5, 1) := by decide +kernel
theorem dX4_findRests_34 : decode cX4_findRests 34 = .ok (.if_icmp .ge 85, 3) := by decide +kernel
theorem dX4_findRests_37 : decode cX4_findRests 37 = .ok (.aload_n 0, 1) := by decide +kernel
theorem dX4_findRests_38 : decode cX4_findRests 38 = .ok (.getfield 9, 3) := by decide +kernel
theorem dX4_findRests_41 : decode cX4_findRests 41 = .ok (.aload_n 0, 1) := by decide +kernel
theorem dX4_findRests_42 : decode cX4_findRests 42 = .ok (.getfield 19, 3) := by decide +kernel
theorem dX4_findRests_45 : decode cX4_findRests 45 = .ok (.iload_n 3, 1) := by decide +kernel
theorem dX4_findRests_46 : decode cX4_findRests 46 = .ok (.invokevirtual 32, 3) := by decide +kernel
theorem dX4_findRests_49 : decode cX4_findRests 49 = .ok (.ifCond .eq 64, 3) := by decide +kernel
theorem dX4_findRests_52 : decode cX4_findRests 52 = .ok (.aload_n 0, 1) := by decide +kernel
theorem dX4_findRests_53 : decode cX4_findRests 53 = .ok (.getfield 9, 3) := by decide +kernel
theorem dX4_findRests_56 : decode cX4_findRests 56 = .ok (.aload_n 0, 1) := by decide +kernel
theorem dX4_findRests_57 : decode cX4_findRests 57 = .ok (.getfield 23, 3) := by decide +kernel
theorem dX4_findRests_60 : decode cX4_findRests 60 = .ok (.iload 4, 2) := by decide +kernel
theorem dX4_findRests_62 : decode cX4_findRests 62 = .ok (.invokevirtual 32, 3) := by decide +kernel
theorem dX4_findRests_65 : decode cX4_findRests 65 = .ok (.ifCond .eq 48, 3) := by decide +kernel
theorem dX4_findRests_68 : decode cX4_findRests 68 = .ok (.aload_n 0, 1) := by decide +kernel
theorem dX4_findRests_69 : decode cX4_findRests 69 = .ok (.iload_n 3, 1) := by decide +kernel
theorem dX4_findRests_70 : decode cX4_findRests 70 = .ok (.iload 4, 2) := by decide +kernel
theorem dX4_findRests_72 : decode cX4_findRests 72 = .ok (.invokevirtual 38, 3) := by decide +kernel
theorem dX4_findRests_75 : decode cX4_findRests 75 = .ok (.ifCond .eq 38, 3) := by decide +kernel
theorem dX4_findRests_78 : decode cX4_findRests 78 = .ok (.aload_n 0, 1) := by decide +kernel
theorem dX4_findRests_79 : decode cX4_findRests 79 = .ok (.aload_n 0, 1) := by decide +kernel
theorem dX4_findRests_80 : decode cX4_findRests 80 = .ok (.getfield 26, 3) := by decide +kernel
theorem dX4_findRests_83 : decode cX4_findRests 83 = .ok (.ifCond .ne 13, 3) := by decide +kernel
theorem dX4_findRests_86 : decode cX4_findRests 86 = .ok (.bipush 10, 2) := by decide +kernel
theorem dX4_findRests_88 : decode cX4_findRests 88 = .ok (.iload_n 3, 1) := by decide +kernel
theorem dX4_findRests_89 : decode cX4_findRests 89 = .ok (.imul, 1) := by decide +kernel
theorem dX4_findRests_90 : decode cX4_findRests 90 = .ok (.iload 4, 2) := by decide +kernel
theorem dX4_findRests_92 : decode cX4_findRests 92 = .ok (.iadd, 1) := by decide +kernel
theorem dX4_findRests_93 : decode cX4_findRests 93 = .ok (.goto 7, 3) := by decide +kernel
theorem dX4_findRests_96 : decode cX4_findRests 96 = .ok (.aload_n 0, 1) := by decide +kernel
theorem dX4_findRests_97 : decode cX4_findRests 97 = .ok (.getfield 29, 3) := by decide +kernel
theorem dX4_findRests_100 : decode cX4_findRests 100 = .ok (.putfield 29, 3) := by decide +kernel
theorem dX4_findRests_103 : decode cX4_findRests 103 = .ok (.aload_n 0, 1) := by decide +kernel
theorem dX4_findRests_104 : decode cX4_findRests 104 = .ok (.dup, 1) := by decide +kernel
theorem dX4_findRests_105 : decode cX4_findRests 105 = .ok (.getfield 26, 3) := by decide +kernel
theorem dX4_findRests_108 : decode cX4_findRests 108 = .ok (.iconst 1, 1) := by decide +kernel
theorem dX4_findRests_109 : decode cX4_findRests 109 = .ok (.iadd, 1) := by decide +kernel
theorem dX4_findRests_110 : decode cX4_findRests 110 = .ok (.putfield 26, 3) := by decide +kernel
theorem dX4_findRests_113 : decode cX4_findRests 113 = .ok (.iinc 4 1, 3) := by decide +kernel
theorem dX4_findRests_116 : decode cX4_findRests 116 = .ok (.goto (-85), 3) := by decide +kernel
theorem dX4_findRests_119 : decode cX4_findRests 119 = .ok (.iinc 3 1, 3) := by decide +kernel
theorem dX4_findRests_122 : decode cX4_findRests 122 = .ok (.goto (-99), 3) := by decide +kernel
theorem dX4_findRests_125 : decode cX4_findRests 125 = .ok (.return_, 1) := by decide +kernel
theorem dX4_isRest_0 : decode cX4_isRest 0 = .ok (.iconst 0, 1) := by decide +kernel
theorem dX4_isRest_1 : decode cX4_isRest 1 = .ok (.istore_n 3, 1) := by decide +kernel
theorem dX4_isRest_2 : decode cX4_isRest 2 = .ok (.iload_n 3, 1) := by decide +kernel
theorem dX4_isRest_3 : decode cX4_isRest 3 = .ok (.iconst 5, 1) := by decide +kernel
theorem dX4_isRest_4 : decode cX4_isRest 4 = .ok (.if_icmp .ge 73, 3) := by decide +kernel
theorem dX4_isRest_7 : decode cX4_isRest 7 = .ok (.aload_n 0, 1) := by decide +kernel
theorem dX4_isRest_8 : decode cX4_isRest 8 = .ok (.getfield 9, 3) := by decide +kernel
theorem dX4_isRest_11 : decode cX4_isRest 11 = .ok (.aload_n 0, 1) := by decide +kernel
theorem dX4_isRest_12 : decode cX4_isRest 12 = .ok (.getfield 19, 3) := by decide +kernel
theorem dX4_isRest_15 : decode cX4_isRest 15 = .ok (.iload_n 3, 1) := by decide +kernel
theorem dX4_isRest_16 : decode cX4_isRest 16 = .ok (.invokevirtual 32, 3) := by decide +kernel
theorem dX4_isRest_19 : decode cX4_isRest 19 = .ok (.ifCond .eq 20, 3) := by decide +kernel
theorem dX4_isRest_22 : decode cX4_isRest 22 = .ok (.aload_n 0, 1) := by decide +kernel
theorem dX4_isRest_23 : decode cX4_isRest 23 = .ok (.iload_n 3, 1) := by decide +kernel
theorem dX4_isRest_24 : decode cX4_isRest 24 = .ok (.iload_n 2, 1) := by decide +kernel
theorem dX4_isRest_25 : decode cX4_isRest 25 = .ok (.invokevirtual 41, 3) := by decide +kernel
theorem dX4_isRest_28 : decode cX4_isRest 28 = .ok (.aload_n 0, 1) := by decide +kernel
theorem dX4_isRest_29 : decode cX4_isRest 29 = .ok (.iload_n 1, 1) := by decide +kernel
theorem dX4_isRest_30 : decode cX4_isRest 30 = .ok (.iload_n 2, 1) := by decide +kernel
theorem dX4_isRest_31 : decode cX4_isRest 31 = .ok (.invokevirtual 41, 3) := by decide +kernel
theorem dX4_isRest_34 : decode cX4_isRest 34 = .ok (.if_icmp .le 5, 3) := by decide +kernel
theorem dX4_isRest_37 : decode cX4_isRest 37 = .ok (.iconst 0, 1) := by decide +kernel
theorem dX4_isRest_38 : decode cX4_isRest 38 = .ok (.ireturn, 1) := by decide +kernel
theorem dX4_isRest_39 : decode cX4_isRest 39 = .ok (.aload_n 0, 1) := by decide +kernel
theorem dX4_isRest_40 : decode cX4_isRest 40 = .ok (.getfield 9, 3) := by decide +kernel
theorem dX4_isRest_43 : decode cX4_isRest 43 = .ok (.aload_n 0, 1) := by decide +kernel
theorem dX4_isRest_44 : decode cX4_isRest 44 = .ok (.getfield 23, 3) := by decide +kernel
theorem dX4_isRest_47 : decode cX4_isRest 47 = .ok (.iload_n 3, 1) := by decide +kernel
theorem dX4_isRest_48 : decode cX4_isRest 48 = .ok (.invokevirtual 32, 3) := by decide +kernel
theorem dX4_isRest_51 : decode cX4_isRest 51 = .ok (.ifCond .eq 20, 3) := by decide +kernel
theorem dX4_isRest_54 : decode cX4_isRest 54 = .ok (.aload_n 0, 1) := by decide +kernel
theorem dX4_isRest_55 : decode cX4_isRest 55 = .ok (.iload_n 1, 1) := by decide +kernel
theorem dX4_isRest_56 : decode cX4_isRest 56 = .ok (.iload_n 3, 1) := by decide +kernel
theorem dX4_isRest_57 : decode cX4_isRest 57 = .ok (.invokevirtual 45, 3) := by decide +kernel
theorem dX4_isRest_60 : decode cX4_isRest 60 = .ok (.aload_n 0, 1) := by decide +kernel
theorem dX4_isRest_61 : decode cX4_isRest 61 = .ok (.iload_n 1, 1) := by decide +kernel
theorem dX4_isRest_62 : decode cX4_isRest 62 = .ok (.iload_n 2, 1) := by decide +kernel
theorem dX4_isRest_63 : decode cX4_isRest 63 = .ok (.invokevirtual 45, 3) := by decide +kernel
theorem dX4_isRest_66 : decode cX4_isRest 66 = .ok (.if_icmp .le 5, 3) := by decide +kernel
theorem dX4_isRest_69 : decode cX4_isRest 69 = .ok (.iconst 0, 1) := by decide +kernel
theorem dX4_isRest_70 : decode cX4_isRest 70 = .ok (.ireturn, 1) := by decide +kernel
theorem dX4_isRest_71 : decode cX4_isRest 71 = .ok (.iinc 3 1, 3) := by decide +kernel
theorem dX4_isRest_74 : decode cX4_isRest 74 = .ok (.goto (-72), 3) := by decide +kernel
theorem dX4_isRest_77 : decode cX4_isRest 77 = .ok (.iconst 1, 1) := by decide +kernel
theorem dX4_isRest_78 : decode cX4_isRest 78 = .ok (.ireturn, 1) := by decide +kernel
theorem dX4_oneHas_0 : decode cX4_oneHas 0 = .ok (.aload_n 0, 1) := by decide +kernel
theorem dX4_oneHas_1 : decode cX4_oneHas 1 = .ok (.getfield 9, 3) := by decide +kernel
theorem dX4_oneHas_4 : decode cX4_oneHas 4 = .ok (.getfield 48, 3) := by decide +kernel
theorem dX4_oneHas_7 : decode cX4_oneHas 7 = .ok (.aload_n 0, 1) := by decide +kernel
theorem dX4_oneHas_8 : decode cX4_oneHas 8 = .ok (.getfield 19, 3) := by decide +kernel
theorem dX4_oneHas_11 : decode cX4_oneHas 11 = .ok (.iaload, 1) := by decide +kernel
theorem dX4_oneHas_12 : decode cX4_oneHas 12 = .ok (.aload_n 0, 1) := by decide +kernel
theorem dX4_oneHas_13 : decode cX4_oneHas 13 = .ok (.getfield 15, 3) := by decide +kernel
theorem dX4_oneHas_16 : decode cX4_oneHas 16 = .ok (.getfield 52, 3) := by decide +kernel
theorem dX4_oneHas_19 : decode cX4_oneHas 19 = .ok (.aload_n 0, 1) := by decide +kernel
theorem dX4_oneHas_20 : decode cX4_oneHas 20 = .ok (.getfield 19, 3) := by decide +kernel
theorem dX4_oneHas_23 : decode cX4_oneHas 23 = .ok (.iaload, 1) := by decide +kernel
theorem dX4_oneHas_24 : decode cX4_oneHas 24 = .ok (.aload_n 0, 1) := by decide +kernel
theorem dX4_oneHas_25 : decode cX4_oneHas 25 = .ok (.getfield 15, 3) := by decide +kernel
theorem dX4_oneHas_28 : decode cX4_oneHas 28 = .ok (.getfield 57, 3) := by decide +kernel
theorem dX4_oneHas_31 : decode cX4_oneHas 31 = .ok (.iload_n 1, 1) := by decide +kernel
theorem dX4_oneHas_32 : decode cX4_oneHas 32 = .ok (.iaload, 1) := by decide +kernel
theorem dX4_oneHas_33 : decode cX4_oneHas 33 = .ok (.invokestatic 60, 3) := by decide +kernel
theorem dX4_oneHas_36 : decode cX4_oneHas 36 = .ok (.istore_n 3, 1) := by decide +kernel
theorem dX4_oneHas_37 : decode cX4_oneHas 37 = .ok (.iload_n 1, 1) := by decide +kernel
theorem dX4_oneHas_38 : decode cX4_oneHas 38 = .ok (.iload_n 2, 1) := by decide +kernel
theorem dX4_oneHas_39 : decode cX4_oneHas 39 = .ok (.if_icmp .ne 9, 3) := by decide +kernel
theorem dX4_oneHas_42 : decode cX4_oneHas 42 = .ok (.iload_n 3, 1) := by decide +kernel
theorem dX4_oneHas_43 : decode cX4_oneHas 43 = .ok (.iconst 1, 1) := by decide +kernel
theorem dX4_oneHas_44 : decode cX4_oneHas 44 = .ok (.isub, 1) := by decide +kernel
theorem dX4_oneHas_45 : decode cX4_oneHas 45 = .ok (.goto 4, 3) := by decide +kernel
theorem dX4_oneHas_48 : decode cX4_oneHas 48 = .ok (.iload_n 3, 1) := by decide +kernel
theorem dX4_oneHas_49 : decode cX4_oneHas 49 = .ok (.ireturn, 1) := by decide +kernel
theorem dX4_otherHas_0 : decode cX4_otherHas 0 = .ok (.aload_n 0, 1) := by decide +kernel
theorem dX4_otherHas_1 : decode cX4_otherHas 1 = .ok (.getfield 9, 3) := by decide +kernel
theorem dX4_otherHas_4 : decode cX4_otherHas 4 = .ok (.getfield 48, 3) := by decide +kernel
theorem dX4_otherHas_7 : decode cX4_otherHas 7 = .ok (.aload_n 0, 1) := by decide +kernel
theorem dX4_otherHas_8 : decode cX4_otherHas 8 = .ok (.getfield 23, 3) := by decide +kernel
theorem dX4_otherHas_11 : decode cX4_otherHas 11 = .ok (.iaload, 1) := by decide +kernel
theorem dX4_otherHas_12 : decode cX4_otherHas 12 = .ok (.istore_n 3, 1) := by decide +kernel
theorem dX4_otherHas_13 : decode cX4_otherHas 13 = .ok (.aload_n 0, 1) := by decide +kernel
theorem dX4_otherHas_14 : decode cX4_otherHas 14 = .ok (.getfield 15, 3) := by decide +kernel
theorem dX4_otherHas_17 : decode cX4_otherHas 17 = .ok (.getfield 52, 3) := by decide +kernel
theorem dX4_otherHas_20 : decode cX4_otherHas 20 = .ok (.aload_n 0, 1) := by decide +kernel
theorem dX4_otherHas_21 : decode cX4_otherHas 21 = .ok (.getfield 23, 3) := by decide +kernel
theorem dX4_otherHas_24 : decode cX4_otherHas 24 = .ok (.iaload, 1) := by decide +kernel
theorem dX4_otherHas_25 : decode cX4_otherHas 25 = .ok (.istore 4, 2) := by decide +kernel
theorem dX4_otherHas_27 : decode cX4_otherHas 27 = .ok (.iload_n 1, 1) := by decide +kernel
theorem dX4_otherHas_28 : decode cX4_otherHas 28 = .ok (.iload_n 2, 1) := by decide +kernel
theorem dX4_otherHas_29 : decode cX4_otherHas 29 = .ok (.if_icmp .eq 19, 3) := by decide +kernel
theorem dX4_otherHas_32 : decode cX4_otherHas 32 = .ok (.iload_n 3, 1) := by decide +kernel
theorem dX4_otherHas_33 : decode cX4_otherHas 33 = .ok (.iload 4, 2) := by decide +kernel
theorem dX4_otherHas_35 : decode cX4_otherHas 35 = .ok (.aload_n 0, 1) := by decide +kernel
theorem dX4_otherHas_36 : decode cX4_otherHas 36 = .ok (.getfield 15, 3) := by decide +kernel
theorem dX4_otherHas_39 : decode cX4_otherHas 39 = .ok (.getfield 57, 3) := by decide +kernel
theorem dX4_otherHas_42 : decode cX4_otherHas 42 = .ok (.iload_n 2, 1) := by decide +kernel
theorem dX4_otherHas_43 : decode cX4_otherHas 43 = .ok (.iaload, 1) := by decide +kernel
theorem dX4_otherHas_44 : decode cX4_otherHas 44 = .ok (.invokestatic 60, 3) := by decide +kernel
theorem dX4_otherHas_47 : decode cX4_otherHas 47 = .ok (.ireturn, 1) := by decide +kernel
theorem dX4_otherHas_48 : decode cX4_otherHas 48 = .ok (.aload_n 0, 1) := by decide +kernel
theorem dX4_otherHas_49 : decode cX4_otherHas 49 = .ok (.getfield 9, 3) := by decide +kernel
theorem dX4_otherHas_52 : decode cX4_otherHas 52 = .ok (.getfield 48, 3) := by decide +kernel
theorem dX4_otherHas_55 : decode cX4_otherHas 55 = .ok (.aload_n 0, 1) := by decide +kernel
theorem dX4_otherHas_56 : decode cX4_otherHas 56 = .ok (.getfield 19, 3) := by decide +kernel
theorem dX4_otherHas_59 : decode cX4_otherHas 59 = .ok (.iaload, 1) := by decide +kernel
theorem dX4_otherHas_60 : decode cX4_otherHas 60 = .ok (.aload_n 0, 1) := by decide +kernel
theorem dX4_otherHas_61 : decode cX4_otherHas 61 = .ok (.getfield 15, 3) := by decide +kernel
theorem dX4_otherHas_64 : decode cX4_otherHas 64 = .ok (.getfield 52, 3) := by decide +kernel
theorem dX4_otherHas_67 : decode cX4_otherHas 67 = .ok (.aload_n 0, 1) := by decide +kernel
theorem dX4_otherHas_68 : decode cX4_otherHas 68 = .ok (.getfield 19, 3) := by decide +kernel
theorem dX4_otherHas_71 : decode cX4_otherHas 71 = .ok (.iaload, 1) := by decide +kernel
theorem dX4_otherHas_72 : decode cX4_otherHas 72 = .ok (.aload_n 0, 1) := by decide +kernel
theorem dX4_otherHas_73 : decode cX4_otherHas 73 = .ok (.getfield 15, 3) := by decide +kernel
theorem dX4_otherHas_76 : decode cX4_otherHas 76 = .ok (.getfield 57, 3) := by decide +kernel
theorem dX4_otherHas_79 : decode cX4_otherHas 79 = .ok (.iload_n 1, 1) := by decide +kernel
theorem dX4_otherHas_80 : decode cX4_otherHas 80 = .ok (.iaload, 1) := by decide +kernel
theorem dX4_otherHas_81 : decode cX4_otherHas 81 = .ok (.invokestatic 60, 3) := by decide +kernel
theorem dX4_otherHas_84 : decode cX4_otherHas 84 = .ok (.istore 5, 2) := by decide +kernel
theorem dX4_otherHas_86 : decode cX4_otherHas 86 = .ok (.iload_n 3, 1) := by decide +kernel
theorem dX4_otherHas_87 : decode cX4_otherHas 87 = .ok (.iload 4, 2) := by decide +kernel
theorem dX4_otherHas_89 : decode cX4_otherHas 89 = .ok (.aload_n 0, 1) := by decide +kernel
theorem dX4_otherHas_90 : decode cX4_otherHas 90 = .ok (.getfield 15, 3) := by decide +kernel
theorem dX4_otherHas_93 : decode cX4_otherHas 93 = .ok (.getfield 57, 3) := by decide +kernel
theorem dX4_otherHas_96 : decode cX4_otherHas 96 = .ok (.iload_n 2, 1) := by decide +kernel
theorem dX4_otherHas_97 : decode cX4_otherHas 97 = .ok (.iaload, 1) := by decide +kernel
theorem dX4_otherHas_98 : decode cX4_otherHas 98 = .ok (.iload 5, 2) := by decide +kernel
theorem dX4_otherHas_100 : decode cX4_otherHas 100 = .ok (.isub, 1) := by decide +kernel
theorem dX4_otherHas_101 : decode cX4_otherHas 101 = .ok (.invokestatic 60, 3) := by decide +kernel
theorem dX4_otherHas_104 : decode cX4_otherHas 104 = .ok (.iconst 1, 1) := by decide +kernel
theorem dX4_otherHas_105 : decode cX4_otherHas 105 = .ok (.isub, 1) := by decide +kernel
theorem dX4_otherHas_106 : decode cX4_otherHas 106 = .ok (.ireturn, 1) := by decide +kernel
theorem dX5_init_0 : decode cX5_init 0 = .ok (.aload_n 0, 1) := by decide +kernel
theorem dX5_init_1 : decode cX5_init 1 = .ok (.invokespecial 3, 3) := by decide +kernel
theorem dX5_init_4 : decode cX5_init 4 = .ok (.return_, 1) := by decide +kernel
theorem dX5_read_0 : decode cX5_read 0 = .ok (.aload_n 2, 1) := by decide +kernel
theorem dX5_read_1 : decode cX5_read 1 = .ok (.invokevirtual 9, 3) := by decide +kernel
theorem dX5_read_4 : decode cX5_read 4 = .ok (.aload_n 0, 1) := by decide +kernel
theorem dX5_read_5 : decode cX5_read 5 = .ok (.iconst 0, 1) := by decide +kernel
theorem dX5_read_6 : decode cX5_read 6 = .ok (.putfield 16, 3) := by decide +kernel
theorem dX5_read_9 : decode cX5_read 9 = .ok (.iconst 0, 1) := by decide +kernel
theorem dX5_read_10 : decode cX5_read 10 = .ok (.istore_n 3, 1) := by decide +kernel
theorem dX5_read_11 : decode cX5_read 11 = .ok (.iload_n 3, 1) := by decide +kernel
theorem dX5_read_12 : decode cX5_read 12 = .ok (.aload_n 1, 1) := by decide +kernel
theorem dX5_read_13 : decode cX5_read 13 = .ok (.getfield 20, 3) := by decide +kernel
theorem dX5_read_16 : decode cX5_read 16 = .ok (.if_icmp .ge 31, 3) := by decide +kernel
theorem dX5_read_19 : decode cX5_read 19 = .ok (.iload_n 3, 1) := by decide +kernel
theorem dX5_read_20 : decode cX5_read 20 = .ok (.bipush 60, 2) := by decide +kernel
theorem dX5_read_22 : decode cX5_read 22 = .ok (.if_icmp .ge 25, 3) := by decide +kernel
theorem dX5_read_25 : decode cX5_read 25 = .ok (.aload_n 0, 1) := by decide +kernel
theorem dX5_read_26 : decode cX5_read 26 = .ok (.aload_n 1, 1) := by decide +kernel
theorem dX5_read_27 : decode cX5_read 27 = .ok (.getfield 25, 3) := by decide +kernel
theorem dX5_read_30 : decode cX5_read 30 = .ok (.iload_n 3, 1) := by decide +kernel
theorem dX5_read_31 : decode cX5_read 31 = .ok (.iaload, 1) := by decide +kernel
theorem dX5_read_32 : decode cX5_read 32 = .ok (.aload_n 2, 1) := by decide +kernel
theorem dX5_read_33 : decode cX5_read 33 = .ok (.invokevirtual 29, 3) := by decide +kernel
theorem dX5_read_36 : decode cX5_read 36 = .ok (.ifCond .ne 5, 3) := by decide +kernel
theorem dX5_read_39 : decode cX5_read 39 = .ok (.iload_n 3, 1) := by decide +kernel
theorem dX5_read_40 : decode cX5_read 40 = .ok (.ireturn, 1) := by decide +kernel
theorem dX5_read_41 : decode cX5_read 41 = .ok (.iinc 3 1, 3) := by decide +kernel
theorem dX5_read_44 : decode cX5_read 44 = .ok (.goto (-33), 3) := by decide +kernel
theorem dX5_read_47 : decode cX5_read 47 = .ok (.aload_n 0, 1) := by decide +kernel
theorem dX5_read_48 : decode cX5_read 48 = .ok (.getfield 16, 3) := by decide +kernel
theorem dX5_read_51 : decode cX5_read 51 = .ok (.iconst 1, 1) := by decide +kernel
theorem dX5_read_52 : decode cX5_read 52 = .ok (.if_icmp .ne 8, 3) := by decide +kernel
theorem dX5_read_55 : decode cX5_read 55 = .ok (.bipush (-9), 2) := by decide +kernel
theorem dX5_read_57 : decode cX5_read 57 = .ok (.goto 7, 3) := by decide +kernel
theorem dX5_read_60 : decode cX5_read 60 = .ok (.aload_n 1, 1) := by decide +kernel
theorem dX5_read_61 : decode cX5_read 61 = .ok (.getfield 20, 3) := by decide +kernel
theorem dX5_read_64 : decode cX5_read 64 = .ok (.ireturn, 1) := by decide +kernel
theorem dX5_takes_0 : decode cX5_takes 0 = .ok (.aload_n 0, 1) := by decide +kernel
theorem dX5_takes_1 : decode cX5_takes 1 = .ok (.getfield 16, 3) := by decide +kernel
theorem dX5_takes_4 : decode cX5_takes 4 = .ok (.ifCond .ne 20, 3) := by decide +kernel
theorem dX5_takes_7 : decode cX5_takes 7 = .ok (.aload_n 0, 1) := by decide +kernel
theorem dX5_takes_8 : decode cX5_takes 8 = .ok (.iconst 1, 1) := by decide +kernel
theorem dX5_takes_9 : decode cX5_takes 9 = .ok (.putfield 16, 3) := by decide +kernel
theorem dX5_takes_12 : decode cX5_takes 12 = .ok (.iload_n 1, 1) := by decide +kernel
theorem dX5_takes_13 : decode cX5_takes 13 = .ok (.bipush 71, 2) := by decide +kernel
theorem dX5_takes_15 : decode cX5_takes 15 = .ok (.if_icmp .ne 7, 3) := by decide +kernel
theorem dX5_takes_18 : decode cX5_takes 18 = .ok (.iconst 1, 1) := by decide +kernel
theorem dX5_takes_19 : decode cX5_takes 19 = .ok (.goto 4, 3) := by decide +kernel
theorem dX5_takes_22 : decode cX5_takes 22 = .ok (.iconst 0, 1) := by decide +kernel
theorem dX5_takes_23 : decode cX5_takes 23 = .ok (.ireturn, 1) := by decide +kernel
theorem dX5_takes_24 : decode cX5_takes 24 = .ok (.aload_n 0, 1) := by decide +kernel
theorem dX5_takes_25 : decode cX5_takes 25 = .ok (.getfield 16, 3) := by decide +kernel
theorem dX5_takes_28 : decode cX5_takes 28 = .ok (.iconst 1, 1) := by decide +kernel
theorem dX5_takes_29 : decode cX5_takes 29 = .ok (.if_icmp .ne 10, 3) := by decide +kernel
theorem dX5_takes_32 : decode cX5_takes 32 = .ok (.aload_n 0, 1) := by decide +kernel
theorem dX5_takes_33 : decode cX5_takes 33 = .ok (.iload_n 1, 1) := by decide +kernel
theorem dX5_takes_34 : decode cX5_takes 34 = .ok (.aload_n 2, 1) := by decide +kernel
theorem dX5_takes_35 : decode cX5_takes 35 = .ok (.invokevirtual 33, 3) := by decide +kernel
theorem dX5_takes_38 : decode cX5_takes 38 = .ok (.ireturn, 1) := by decide +kernel
theorem dX5_takes_39 : decode cX5_takes 39 = .ok (.iload_n 1, 1) := by decide +kernel
theorem dX5_takes_40 : decode cX5_takes 40 = .ok (.bipush 48, 2) := by decide +kernel
theorem dX5_takes_42 : decode cX5_takes 42 = .ok (.if_icmp .lt 25, 3) := by decide +kernel
theorem dX5_takes_45 : decode cX5_takes 45 = .ok (.iload_n 1, 1) := by decide +kernel
theorem dX5_takes_46 : decode cX5_takes 46 = .ok (.bipush 57, 2) := by decide +kernel
theorem dX5_takes_48 : decode cX5_takes 48 = .ok (.if_icmp .gt 19, 3) := by decide +kernel
theorem dX5_takes_51 : decode cX5_takes 51 = .ok (.aload_n 0, 1) := by decide +kernel
theorem dX5_takes_52 : decode cX5_takes 52 = .ok (.iload_n 1, 1) := by decide +kernel
theorem dX5_takes_53 : decode cX5_takes 53 = .ok (.bipush 48, 2) := by decide +kernel
theorem dX5_takes_55 : decode cX5_takes 55 = .ok (.isub, 1) := by decide +kernel
theorem dX5_takes_56 : decode cX5_takes 56 = .ok (.aload_n 2, 1) := by decide +kernel
theorem dX5_takes_57 : decode cX5_takes 57 = .ok (.invokevirtual 36, 3) := by decide +kernel
theorem dX5_takes_60 : decode cX5_takes 60 = .ok (.ifCond .eq 7, 3) := by decide +kernel
theorem dX5_takes_63 : decode cX5_takes 63 = .ok (.iconst 1, 1) := by decide +kernel
theorem dX5_takes_64 : decode cX5_takes 64 = .ok (.goto 4, 3) := by decide +kernel
theorem dX5_takes_67 : decode cX5_takes 67 = .ok (.iconst 0, 1) := by decide +kernel
theorem dX5_takes_68 : decode cX5_takes 68 = .ok (.ireturn, 1) := by decide +kernel
theorem dX5_takesPart_0 : decode cX5_takesPart 0 = .ok (.iload_n 1, 1) := by decide +kernel
theorem dX5_takesPart_1 : decode cX5_takesPart 1 = .ok (.lookupswitch 84 #[(68, 54), (83, 73), (86, 35)], 35) := by decide +kernel
theorem dX5_takesPart_36 : decode cX5_takesPart 36 = .ok (.aload_n 0, 1) := by decide +kernel
theorem dX5_takesPart_37 : decode cX5_takesPart 37 = .ok (.iconst 2, 1) := by decide +kernel
theorem dX5_takesPart_38 : decode cX5_takesPart 38 = .ok (.putfield 16, 3) := by decide +kernel
theorem dX5_takesPart_41 : decode cX5_takesPart 41 = .ok (.aload_n 2, 1) := by decide +kernel
theorem dX5_takesPart_42 : decode cX5_takesPart 42 = .ok (.getfield 39, 3) := by decide +kernel
theorem dX5_takesPart_45 : decode cX5_takesPart 45 = .ok (.iconst 5, 1) := by decide +kernel
theorem dX5_takesPart_46 : decode cX5_takesPart 46 = .ok (.if_icmp .ge 7, 3) := by decide +kernel
theorem dX5_takesPart_49 : decode cX5_takesPart 49 = .ok (.iconst 1, 1) := by decide +kernel
theorem dX5_takesPart_50 : decode cX5_takesPart 50 = .ok (.goto 4, 3) := by decide +kernel
theorem dX5_takesPart_53 : decode cX5_takesPart 53 = .ok (.iconst 0, 1) := by decide +kernel
theorem dX5_takesPart_54 : decode cX5_takesPart 54 = .ok (.ireturn, 1) := by decide +kernel
theorem dX5_takesPart_55 : decode cX5_takesPart 55 = .ok (.aload_n 0, 1) := by decide +kernel
theorem dX5_takesPart_56 : decode cX5_takesPart 56 = .ok (.iconst 5, 1) := by decide +kernel
theorem dX5_takesPart_57 : decode cX5_takesPart 57 = .ok (.putfield 16, 3) := by decide +kernel
theorem dX5_takesPart_60 : decode cX5_takesPart 60 = .ok (.aload_n 2, 1) := by decide +kernel
theorem dX5_takesPart_61 : decode cX5_takesPart 61 = .ok (.getfield 42, 3) := by decide +kernel
theorem dX5_takesPart_64 : decode cX5_takesPart 64 = .ok (.iconst 4, 1) := by decide +kernel
theorem dX5_takesPart_65 : decode cX5_takesPart 65 = .ok (.if_icmp .ge 7, 3) := by decide +kernel
theorem dX5_takesPart_68 : decode cX5_takesPart 68 = .ok (.iconst 1, 1) := by decide +kernel
theorem dX5_takesPart_69 : decode cX5_takesPart 69 = .ok (.goto 4, 3) := by decide +kernel
theorem dX5_takesPart_72 : decode cX5_takesPart 72 = .ok (.iconst 0, 1) := by decide +kernel
theorem dX5_takesPart_73 : decode cX5_takesPart 73 = .ok (.ireturn, 1) := by decide +kernel
theorem dX5_takesPart_74 : decode cX5_takesPart 74 = .ok (.aload_n 0, 1) := by decide +kernel
theorem dX5_takesPart_75 : decode cX5_takesPart 75 = .ok (.bipush 7, 2) := by decide +kernel
theorem dX5_takesPart_77 : decode cX5_takesPart 77 = .ok (.putfield 16, 3) := by decide +kernel
theorem dX5_takesPart_80 : decode cX5_takesPart 80 = .ok (.aload_n 2, 1) := by decide +kernel
theorem dX5_takesPart_81 : decode cX5_takesPart 81 = .ok (.invokevirtual 45, 3) := by decide +kernel
theorem dX5_takesPart_84 : decode cX5_takesPart 84 = .ok (.ireturn, 1) := by decide +kernel
theorem dX5_takesPart_85 : decode cX5_takesPart 85 = .ok (.iconst 0, 1) := by decide +kernel
theorem dX5_takesPart_86 : decode cX5_takesPart 86 = .ok (.ireturn, 1) := by decide +kernel
theorem dX5_takesFigure_0 : decode cX5_takesFigure 0 = .ok (.aload_n 0, 1) := by decide +kernel
theorem dX5_takesFigure_1 : decode cX5_takesFigure 1 = .ok (.getfield 16, 3) := by decide +kernel
theorem dX5_takesFigure_4 : decode cX5_takesFigure 4 = .ok (.tableswitch 115 2 7 #[40, 61, 115, 85, 115, 98], 40) := by decide +kernel
theorem dX5_takesFigure_44 : decode cX5_takesFigure 44 = .ok (.aload_n 0, 1) := by decide +kernel
theorem dX5_takesFigure_45 : decode cX5_takesFigure 45 = .ok (.iload_n 1, 1) := by decide +kernel
theorem dX5_takesFigure_46 : decode cX5_takesFigure 46 = .ok (.putfield 49, 3) := by decide +kernel
theorem dX5_takesFigure_49 : decode cX5_takesFigure 49 = .ok (.aload_n 0, 1) := by decide +kernel
theorem dX5_takesFigure_50 : decode cX5_takesFigure 50 = .ok (.iconst 3, 1) := by decide +kernel
theorem dX5_takesFigure_51 : decode cX5_takesFigure 51 = .ok (.putfield 16, 3) := by decide +kernel
theorem dX5_takesFigure_54 : decode cX5_takesFigure 54 = .ok (.iload_n 1, 1) := by decide +kernel
theorem dX5_takesFigure_55 : decode cX5_takesFigure 55 = .ok (.iconst 1, 1) := by decide +kernel
theorem dX5_takesFigure_56 : decode cX5_takesFigure 56 = .ok (.if_icmp .lt 7, 3) := by decide +kernel
theorem dX5_takesFigure_59 : decode cX5_takesFigure 59 = .ok (.iconst 1, 1) := by decide +kernel
theorem dX5_takesFigure_60 : decode cX5_takesFigure 60 = .ok (.goto 4, 3) := by decide +kernel
theorem dX5_takesFigure_63 : decode cX5_takesFigure 63 = .ok (.iconst 0, 1) := by decide +kernel
theorem dX5_takesFigure_64 : decode cX5_takesFigure 64 = .ok (.ireturn, 1) := by decide +kernel
theorem dX5_takesFigure_65 : decode cX5_takesFigure 65 = .ok (.aload_n 0, 1) := by decide +kernel
theorem dX5_takesFigure_66 : decode cX5_takesFigure 66 = .ok (.iload_n 1, 1) := by decide +kernel
theorem dX5_takesFigure_67 : decode cX5_takesFigure 67 = .ok (.putfield 52, 3) := by decide +kernel
theorem dX5_takesFigure_70 : decode cX5_takesFigure 70 = .ok (.aload_n 0, 1) := by decide +kernel
theorem dX5_takesFigure_71 : decode cX5_takesFigure 71 = .ok (.iconst 4, 1) := by decide +kernel
theorem dX5_takesFigure_72 : decode cX5_takesFigure 72 = .ok (.putfield 16, 3) := by decide +kernel
theorem dX5_takesFigure_75 : decode cX5_takesFigure 75 = .ok (.iload_n 1, 1) := by decide +kernel
theorem dX5_takesFigure_76 : decode cX5_takesFigure 76 = .ok (.aload_n 0, 1) := by decide +kernel
theorem dX5_takesFigure_77 : decode cX5_takesFigure 77 = .ok (.getfield 49, 3) := by decide +kernel
theorem dX5_takesFigure_80 : decode cX5_takesFigure 80 = .ok (.if_icmp .gt 7, 3) := by decide +kernel
theorem dX5_takesFigure_83 : decode cX5_takesFigure 83 = .ok (.iconst 1, 1) := by decide +kernel
theorem dX5_takesFigure_84 : decode cX5_takesFigure 84 = .ok (.goto 4, 3) := by decide +kernel
theorem dX5_takesFigure_87 : decode cX5_takesFigure 87 = .ok (.iconst 0, 1) := by decide +kernel
theorem dX5_takesFigure_88 : decode cX5_takesFigure 88 = .ok (.ireturn, 1) := by decide +kernel
theorem dX5_takesFigure_89 : decode cX5_takesFigure 89 = .ok (.aload_n 0, 1) := by decide +kernel
theorem dX5_takesFigure_90 : decode cX5_takesFigure 90 = .ok (.iload_n 1, 1) := by decide +kernel
theorem dX5_takesFigure_91 : decode cX5_takesFigure 91 = .ok (.putfield 49, 3) := by decide +kernel
theorem dX5_takesFigure_94 : decode cX5_takesFigure 94 = .ok (.aload_n 0, 1) := by decide +kernel
theorem dX5_takesFigure_95 : decode cX5_takesFigure 95 = .ok (.bipush 6, 2) := by decide +kernel
theorem dX5_takesFigure_97 : decode cX5_takesFigure 97 = .ok (.putfield 16, 3) := by decide +kernel
theorem dX5_takesFigure_100 : decode cX5_takesFigure 100 = .ok (.iconst 1, 1) := by decide +kernel
theorem dX5_takesFigure_101 : decode cX5_takesFigure 101 = .ok (.ireturn, 1) := by decide +kernel
theorem dX5_takesFigure_102 : decode cX5_takesFigure 102 = .ok (.aload_n 0, 1) := by decide +kernel
theorem dX5_takesFigure_103 : decode cX5_takesFigure 103 = .ok (.iload_n 1, 1) := by decide +kernel
theorem dX5_takesFigure_104 : decode cX5_takesFigure 104 = .ok (.putfield 49, 3) := by decide +kernel
theorem dX5_takesFigure_107 : decode cX5_takesFigure 107 = .ok (.aload_n 0, 1) := by decide +kernel
theorem dX5_takesFigure_108 : decode cX5_takesFigure 108 = .ok (.bipush 8, 2) := by decide +kernel
theorem dX5_takesFigure_110 : decode cX5_takesFigure 110 = .ok (.putfield 16, 3) := by decide +kernel
theorem dX5_takesFigure_113 : decode cX5_takesFigure 113 = .ok (.aload_n 2, 1) := by decide +kernel
theorem dX5_takesFigure_114 : decode cX5_takesFigure 114 = .ok (.iload_n 1, 1) := by decide +kernel
theorem dX5_takesFigure_115 : decode cX5_takesFigure 115 = .ok (.invokevirtual 55, 3) := by decide +kernel
theorem dX5_takesFigure_118 : decode cX5_takesFigure 118 = .ok (.ireturn, 1) := by decide +kernel
theorem dX5_takesFigure_119 : decode cX5_takesFigure 119 = .ok (.aload_n 0, 1) := by decide +kernel
theorem dX5_takesFigure_120 : decode cX5_takesFigure 120 = .ok (.iload_n 1, 1) := by decide +kernel
theorem dX5_takesFigure_121 : decode cX5_takesFigure 121 = .ok (.aload_n 2, 1) := by decide +kernel
theorem dX5_takesFigure_122 : decode cX5_takesFigure 122 = .ok (.invokevirtual 59, 3) := by decide +kernel
theorem dX5_takesFigure_125 : decode cX5_takesFigure 125 = .ok (.ireturn, 1) := by decide +kernel
theorem dX5_endsPart_0 : decode cX5_endsPart 0 = .ok (.aload_n 0, 1) := by decide +kernel
theorem dX5_endsPart_1 : decode cX5_endsPart 1 = .ok (.getfield 16, 3) := by decide +kernel
theorem dX5_endsPart_4 : decode cX5_endsPart 4 = .ok (.istore_n 3, 1) := by decide +kernel
theorem dX5_endsPart_5 : decode cX5_endsPart 5 = .ok (.aload_n 0, 1) := by decide +kernel
theorem dX5_endsPart_6 : decode cX5_endsPart 6 = .ok (.iconst 1, 1) := by decide +kernel
theorem dX5_endsPart_7 : decode cX5_endsPart 7 = .ok (.putfield 16, 3) := by decide +kernel
theorem dX5_endsPart_10 : decode cX5_endsPart 10 = .ok (.iload_n 3, 1) := by decide +kernel
theorem dX5_endsPart_11 : decode cX5_endsPart 11 = .ok (.bipush 8, 2) := by decide +kernel
theorem dX5_endsPart_13 : decode cX5_endsPart 13 = .ok (.if_icmp .ne 10, 3) := by decide +kernel
theorem dX5_endsPart_16 : decode cX5_endsPart 16 = .ok (.aload_n 0, 1) := by decide +kernel
theorem dX5_endsPart_17 : decode cX5_endsPart 17 = .ok (.iload_n 1, 1) := by decide +kernel
theorem dX5_endsPart_18 : decode cX5_endsPart 18 = .ok (.aload_n 2, 1) := by decide +kernel
theorem dX5_endsPart_19 : decode cX5_endsPart 19 = .ok (.invokevirtual 62, 3) := by decide +kernel
theorem dX5_endsPart_22 : decode cX5_endsPart 22 = .ok (.ireturn, 1) := by decide +kernel
theorem dX5_endsPart_23 : decode cX5_endsPart 23 = .ok (.iload_n 1, 1) := by decide +kernel
theorem dX5_endsPart_24 : decode cX5_endsPart 24 = .ok (.iconst 3, 1) := by decide +kernel
theorem dX5_endsPart_25 : decode cX5_endsPart 25 = .ok (.if_icmp .le 5, 3) := by decide +kernel
theorem dX5_endsPart_28 : decode cX5_endsPart 28 = .ok (.iconst 0, 1) := by decide +kernel
theorem dX5_endsPart_29 : decode cX5_endsPart 29 = .ok (.ireturn, 1) := by decide +kernel
theorem dX5_endsPart_30 : decode cX5_endsPart 30 = .ok (.iload_n 3, 1) := by decide +kernel
theorem dX5_endsPart_31 : decode cX5_endsPart 31 = .ok (.iconst 4, 1) := by decide +kernel
theorem dX5_endsPart_32 : decode cX5_endsPart 32 = .ok (.if_icmp .ne 19, 3) := by decide +kernel
theorem dX5_endsPart_35 : decode cX5_endsPart 35 = .ok (.aload_n 2, 1) := by decide +kernel
theorem dX5_endsPart_36 : decode cX5_endsPart 36 = .ok (.aload_n 0, 1) := by decide +kernel
theorem dX5_endsPart_37 : decode cX5_endsPart 37 = .ok (.getfield 49, 3) := by decide +kernel
theorem dX5_endsPart_40 : decode cX5_endsPart 40 = .ok (.aload_n 0, 1) := by decide +kernel
theorem dX5_endsPart_41 : decode cX5_endsPart 41 = .ok (.getfield 52, 3) := by decide +kernel
theorem dX5_endsPart_44 : decode cX5_endsPart 44 = .ok (.iload_n 1, 1) := by decide +kernel
theorem dX5_endsPart_45 : decode cX5_endsPart 45 = .ok (.invokevirtual 65, 3) := by decide +kernel
theorem dX5_endsPart_48 : decode cX5_endsPart 48 = .ok (.goto 12, 3) := by decide +kernel
theorem dX5_endsPart_51 : decode cX5_endsPart 51 = .ok (.aload_n 2, 1) := by decide +kernel
theorem dX5_endsPart_52 : decode cX5_endsPart 52 = .ok (.aload_n 0, 1) := by decide +kernel
theorem dX5_endsPart_53 : decode cX5_endsPart 53 = .ok (.getfield 49, 3) := by decide +kernel
theorem dX5_endsPart_56 : decode cX5_endsPart 56 = .ok (.iload_n 1, 1) := by decide +kernel
theorem dX5_endsPart_57 : decode cX5_endsPart 57 = .ok (.invokevirtual 69, 3) := by decide +kernel
theorem dX5_endsPart_60 : decode cX5_endsPart 60 = .ok (.iconst 1, 1) := by decide +kernel
theorem dX5_endsPart_61 : decode cX5_endsPart 61 = .ok (.ireturn, 1) := by decide +kernel
theorem dX5_takesSeat_0 : decode cX5_takesSeat 0 = .ok (.aload_n 2, 1) := by decide +kernel
theorem dX5_takesSeat_1 : decode cX5_takesSeat 1 = .ok (.aload_n 0, 1) := by decide +kernel
theorem dX5_takesSeat_2 : decode cX5_takesSeat 2 = .ok (.getfield 49, 3) := by decide +kernel
theorem dX5_takesSeat_5 : decode cX5_takesSeat 5 = .ok (.invokevirtual 73, 3) := by decide +kernel
theorem dX5_takesSeat_8 : decode cX5_takesSeat 8 = .ok (.ifCond .eq 27, 3) := by decide +kernel
theorem dX5_takesSeat_11 : decode cX5_takesSeat 11 = .ok (.aload_n 2, 1) := by decide +kernel
theorem dX5_takesSeat_12 : decode cX5_takesSeat 12 = .ok (.iload_n 1, 1) := by decide +kernel
theorem dX5_takesSeat_13 : decode cX5_takesSeat 13 = .ok (.invokevirtual 76, 3) := by decide +kernel
theorem dX5_takesSeat_16 : decode cX5_takesSeat 16 = .ok (.ifCond .eq 19, 3) := by decide +kernel
theorem dX5_takesSeat_19 : decode cX5_takesSeat 19 = .ok (.aload_n 2, 1) := by decide +kernel
theorem dX5_takesSeat_20 : decode cX5_takesSeat 20 = .ok (.getfield 79, 3) := by decide +kernel
theorem dX5_takesSeat_23 : decode cX5_takesSeat 23 = .ok (.aload_n 0, 1) := by decide +kernel
theorem dX5_takesSeat_24 : decode cX5_takesSeat 24 = .ok (.getfield 49, 3) := by decide +kernel
theorem dX5_takesSeat_27 : decode cX5_takesSeat 27 = .ok (.iaload, 1) := by decide +kernel
theorem dX5_takesSeat_28 : decode cX5_takesSeat 28 = .ok (.iload_n 1, 1) := by decide +kernel
theorem dX5_takesSeat_29 : decode cX5_takesSeat 29 = .ok (.invokestatic 82, 3) := by decide +kernel
theorem dX5_takesSeat_32 : decode cX5_takesSeat 32 = .ok (.ifCond .eq 5, 3) := by decide +kernel
theorem dX5_takesSeat_35 : decode cX5_takesSeat 35 = .ok (.iconst 0, 1) := by decide +kernel
theorem dX5_takesSeat_36 : decode cX5_takesSeat 36 = .ok (.ireturn, 1) := by decide +kernel
theorem dX5_takesSeat_37 : decode cX5_takesSeat 37 = .ok (.aload_n 2, 1) := by decide +kernel
theorem dX5_takesSeat_38 : decode cX5_takesSeat 38 = .ok (.getfield 79, 3) := by decide +kernel
theorem dX5_takesSeat_41 : decode cX5_takesSeat 41 = .ok (.aload_n 0, 1) := by decide +kernel
theorem dX5_takesSeat_42 : decode cX5_takesSeat 42 = .ok (.getfield 49, 3) := by decide +kernel
theorem dX5_takesSeat_45 : decode cX5_takesSeat 45 = .ok (.dup2, 1) := by decide +kernel
theorem dX5_takesSeat_46 : decode cX5_takesSeat 46 = .ok (.iaload, 1) := by decide +kernel
theorem dX5_takesSeat_47 : decode cX5_takesSeat 47 = .ok (.iconst 1, 1) := by decide +kernel
theorem dX5_takesSeat_48 : decode cX5_takesSeat 48 = .ok (.iload_n 1, 1) := by decide +kernel
theorem dX5_takesSeat_49 : decode cX5_takesSeat 49 = .ok (.ishl, 1) := by decide +kernel
theorem dX5_takesSeat_50 : decode cX5_takesSeat 50 = .ok (.ior, 1) := by decide +kernel
theorem dX5_takesSeat_51 : decode cX5_takesSeat 51 = .ok (.iastore, 1) := by decide +kernel
theorem dX5_takesSeat_52 : decode cX5_takesSeat 52 = .ok (.iconst 1, 1) := by decide +kernel
theorem dX5_takesSeat_53 : decode cX5_takesSeat 53 = .ok (.ireturn, 1) := by decide +kernel
theorem dX6_init_0 : decode cX6_init 0 = .ok (.aload_n 0, 1) := by decide +kernel
theorem dX6_init_1 : decode cX6_init 1 = .ok (.invokespecial 3, 3) := by decide +kernel
theorem dX6_init_4 : decode cX6_init 4 = .ok (.aload_n 0, 1) := by decide +kernel
theorem dX6_init_5 : decode cX6_init 5 = .ok (.iconst 5, 1) := by decide +kernel
theorem dX6_init_6 : decode cX6_init 6 = .ok (.newarray .int, 2) := by decide +kernel
theorem dX6_init_8 : decode cX6_init 8 = .ok (.putfield 9, 3) := by decide +kernel
theorem dX6_init_11 : decode cX6_init 11 = .ok (.aload_n 0, 1) := by decide +kernel
theorem dX6_init_12 : decode cX6_init 12 = .ok (.iconst 4, 1) := by decide +kernel
theorem dX6_init_13 : decode cX6_init 13 = .ok (.newarray .int, 2) := by decide +kernel
theorem dX6_init_15 : decode cX6_init 15 = .ok (.putfield 15, 3) := by decide +kernel
theorem dX6_init_18 : decode cX6_init 18 = .ok (.aload_n 0, 1) := by decide +kernel
theorem dX6_init_19 : decode cX6_init 19 = .ok (.aload_n 1, 1) := by decide +kernel
theorem dX6_init_20 : decode cX6_init 20 = .ok (.putfield 18, 3) := by decide +kernel
theorem dX6_init_23 : decode cX6_init 23 = .ok (.aload_n 0, 1) := by decide +kernel
theorem dX6_init_24 : decode cX6_init 24 = .ok (.aload_n 2, 1) := by decide +kernel
theorem dX6_init_25 : decode cX6_init 25 = .ok (.putfield 22, 3) := by decide +kernel
theorem dX6_init_28 : decode cX6_init 28 = .ok (.aload_n 0, 1) := by decide +kernel
theorem dX6_init_29 : decode cX6_init 29 = .ok (.aload_n 3, 1) := by decide +kernel
theorem dX6_init_30 : decode cX6_init 30 = .ok (.putfield 26, 3) := by decide +kernel
theorem dX6_init_33 : decode cX6_init 33 = .ok (.return_, 1) := by decide +kernel
theorem dX6_startAnew_0 : decode cX6_startAnew 0 = .ok (.aload_n 0, 1) := by decide +kernel
theorem dX6_startAnew_1 : decode cX6_startAnew 1 = .ok (.bipush (-9), 2) := by decide +kernel
theorem dX6_startAnew_3 : decode cX6_startAnew 3 = .ok (.putfield 29, 3) := by decide +kernel
theorem dX6_startAnew_6 : decode cX6_startAnew 6 = .ok (.aload_n 0, 1) := by decide +kernel
theorem dX6_startAnew_7 : decode cX6_startAnew 7 = .ok (.bipush (-9), 2) := by decide +kernel
theorem dX6_startAnew_9 : decode cX6_startAnew 9 = .ok (.putfield 33, 3) := by decide +kernel
theorem dX6_startAnew_12 : decode cX6_startAnew 12 = .ok (.return_, 1) := by decide +kernel
theorem dX6_tryPours_0 : decode cX6_tryPours 0 = .ok (.aload_n 0, 1) := by decide +kernel
theorem dX6_tryPours_1 : decode cX6_tryPours 1 = .ok (.getfield 18, 3) := by decide +kernel
theorem dX6_tryPours_4 : decode cX6_tryPours 4 = .ok (.iload_n 1, 1) := by decide +kernel
theorem dX6_tryPours_5 : decode cX6_tryPours 5 = .ok (.invokevirtual 36, 3) := by decide +kernel
theorem dX6_tryPours_8 : decode cX6_tryPours 8 = .ok (.ifCond .ne 13, 3) := by decide +kernel
theorem dX6_tryPours_11 : decode cX6_tryPours 11 = .ok (.iload_n 2, 1) := by decide +kernel
theorem dX6_tryPours_12 : decode cX6_tryPours 12 = .ok (.ifCond .ne 8, 3) := by decide +kernel
theorem dX6_tryPours_15 : decode cX6_tryPours 15 = .ok (.aload_n 0, 1) := by decide +kernel
theorem dX6_tryPours_16 : decode cX6_tryPours 16 = .ok (.iload_n 3, 1) := by decide +kernel
theorem dX6_tryPours_17 : decode cX6_tryPours 17 = .ok (.invokevirtual 42, 3) := by decide +kernel
theorem dX6_tryPours_20 : decode cX6_tryPours 20 = .ok (.return_, 1) := by decide +kernel
theorem dX6_tryPours_21 : decode cX6_tryPours 21 = .ok (.iconst 0, 1) := by decide +kernel
theorem dX6_tryPours_22 : decode cX6_tryPours 22 = .ok (.iload_n 2, 1) := by decide +kernel
theorem dX6_tryPours_23 : decode cX6_tryPours 23 = .ok (.aload_n 0, 1) := by decide +kernel
theorem dX6_tryPours_24 : decode cX6_tryPours 24 = .ok (.iload_n 1, 1) := by decide +kernel
theorem dX6_tryPours_25 : decode cX6_tryPours 25 = .ok (.invokevirtual 46, 3) := by decide +kernel
theorem dX6_tryPours_28 : decode cX6_tryPours 28 = .ok (.isub, 1) := by decide +kernel
theorem dX6_tryPours_29 : decode cX6_tryPours 29 = .ok (.invokestatic 50, 3) := by decide +kernel
theorem dX6_tryPours_32 : decode cX6_tryPours 32 = .ok (.istore 4, 2) := by decide +kernel
theorem dX6_tryPours_34 : decode cX6_tryPours 34 = .ok (.iload_n 2, 1) := by decide +kernel
theorem dX6_tryPours_35 : decode cX6_tryPours 35 = .ok (.aload_n 0, 1) := by decide +kernel
theorem dX6_tryPours_36 : decode cX6_tryPours 36 = .ok (.getfield 22, 3) := by decide +kernel
theorem dX6_tryPours_39 : decode cX6_tryPours 39 = .ok (.iload_n 1, 1) := by decide +kernel
theorem dX6_tryPours_40 : decode cX6_tryPours 40 = .ok (.invokevirtual 56, 3) := by decide +kernel
theorem dX6_tryPours_43 : decode cX6_tryPours 43 = .ok (.invokestatic 61, 3) := by decide +kernel
theorem dX6_tryPours_46 : decode cX6_tryPours 46 = .ok (.istore 5, 2) := by decide +kernel
theorem dX6_tryPours_48 : decode cX6_tryPours 48 = .ok (.iload 4, 2) := by decide +kernel
theorem dX6_tryPours_50 : decode cX6_tryPours 50 = .ok (.istore 6, 2) := by decide +kernel
theorem dX6_tryPours_52 : decode cX6_tryPours 52 = .ok (.iload 6, 2) := by decide +kernel
theorem dX6_tryPours_54 : decode cX6_tryPours 54 = .ok (.iload 5, 2) := by decide +kernel
theorem dX6_tryPours_56 : decode cX6_tryPours 56 = .ok (.if_icmp .gt 35, 3) := by decide +kernel
theorem dX6_tryPours_59 : decode cX6_tryPours 59 = .ok (.aload_n 0, 1) := by decide +kernel
theorem dX6_tryPours_60 : decode cX6_tryPours 60 = .ok (.getfield 9, 3) := by decide +kernel
theorem dX6_tryPours_63 : decode cX6_tryPours 63 = .ok (.iload_n 1, 1) := by decide +kernel
theorem dX6_tryPours_64 : decode cX6_tryPours 64 = .ok (.iload 6, 2) := by decide +kernel
theorem dX6_tryPours_66 : decode cX6_tryPours 66 = .ok (.iastore, 1) := by decide +kernel
theorem dX6_tryPours_67 : decode cX6_tryPours 67 = .ok (.aload_n 0, 1) := by decide +kernel
theorem dX6_tryPours_68 : decode cX6_tryPours 68 = .ok (.iload_n 1, 1) := by decide +kernel
theorem dX6_tryPours_69 : decode cX6_tryPours 69 = .ok (.iconst 1, 1) := by decide +kernel
theorem dX6_tryPours_70 : decode cX6_tryPours 70 = .ok (.iadd, 1) := by decide +kernel
theorem dX6_tryPours_71 : decode cX6_tryPours 71 = .ok (.iload_n 2, 1) := by decide +kernel
theorem dX6_tryPours_72 : decode cX6_tryPours 72 = .ok (.iload 6, 2) := by decide +kernel
theorem dX6_tryPours_74 : decode cX6_tryPours 74 = .ok (.isub, 1) := by decide +kernel
theorem dX6_tryPours_75 : decode cX6_tryPours 75 = .ok (.bipush 10, 2) := by decide +kernel
theorem dX6_tryPours_77 : decode cX6_tryPours 77 = .ok (.iload_n 3, 1) := by decide +kernel
theorem dX6_tryPours_78 : decode cX6_tryPours 78 = .ok (.imul, 1) := by decide +kernel
theorem dX6_tryPours_79 : decode cX6_tryPours 79 = .ok (.iload 6, 2) := by decide +kernel
theorem dX6_tryPours_81 : decode cX6_tryPours 81 = .ok (.iadd, 1) := by decide +kernel
theorem dX6_tryPours_82 : decode cX6_tryPours 82 = .ok (.invokevirtual 64, 3) := by decide +kernel
theorem dX6_tryPours_85 : decode cX6_tryPours 85 = .ok (.iinc 6 1, 3) := by decide +kernel
theorem dX6_tryPours_88 : decode cX6_tryPours 88 = .ok (.goto (-36), 3) := by decide +kernel
theorem dX6_tryPours_91 : decode cX6_tryPours 91 = .ok (.return_, 1) := by decide +kernel
theorem dX6_roomBehind_0 : decode cX6_roomBehind 0 = .ok (.iconst 0, 1) := by decide +kernel
theorem dX6_roomBehind_1 : decode cX6_roomBehind 1 = .ok (.istore_n 2, 1) := by decide +kernel
theorem dX6_roomBehind_2 : decode cX6_roomBehind 2 = .ok (.iload_n 1, 1) := by decide +kernel
theorem dX6_roomBehind_3 : decode cX6_roomBehind 3 = .ok (.iconst 1, 1) := by decide +kernel
theorem dX6_roomBehind_4 : decode cX6_roomBehind 4 = .ok (.iadd, 1) := by decide +kernel
theorem dX6_roomBehind_5 : decode cX6_roomBehind 5 = .ok (.istore_n 3, 1) := by decide +kernel
theorem dX6_roomBehind_6 : decode cX6_roomBehind 6 = .ok (.iload_n 3, 1) := by decide +kernel
theorem dX6_roomBehind_7 : decode cX6_roomBehind 7 = .ok (.aload_n 0, 1) := by decide +kernel
theorem dX6_roomBehind_8 : decode cX6_roomBehind 8 = .ok (.getfield 18, 3) := by decide +kernel
theorem dX6_roomBehind_11 : decode cX6_roomBehind 11 = .ok (.getfield 68, 3) := by decide +kernel
theorem dX6_roomBehind_14 : decode cX6_roomBehind 14 = .ok (.if_icmp .ge 20, 3) := by decide +kernel
theorem dX6_roomBehind_17 : decode cX6_roomBehind 17 = .ok (.iload_n 2, 1) := by decide +kernel
theorem dX6_roomBehind_18 : decode cX6_roomBehind 18 = .ok (.aload_n 0, 1) := by decide +kernel
theorem dX6_roomBehind_19 : decode cX6_roomBehind 19 = .ok (.getfield 22, 3) := by decide +kernel
theorem dX6_roomBehind_22 : decode cX6_roomBehind 22 = .ok (.iload_n 3, 1) := by decide +kernel
theorem dX6_roomBehind_23 : decode cX6_roomBehind 23 = .ok (.invokevirtual 56, 3) := by decide +kernel
theorem dX6_roomBehind_26 : decode cX6_roomBehind 26 = .ok (.iadd, 1) := by decide +kernel
theorem dX6_roomBehind_27 : decode cX6_roomBehind 27 = .ok (.istore_n 2, 1) := by decide +kernel
theorem dX6_roomBehind_28 : decode cX6_roomBehind 28 = .ok (.iinc 3 1, 3) := by decide +kernel
theorem dX6_roomBehind_31 : decode cX6_roomBehind 31 = .ok (.goto (-25), 3) := by decide +kernel
theorem dX6_roomBehind_34 : decode cX6_roomBehind 34 = .ok (.iload_n 2, 1) := by decide +kernel
theorem dX6_roomBehind_35 : decode cX6_roomBehind 35 = .ok (.ireturn, 1) := by decide +kernel
theorem dX6_weighPours_0 : decode cX6_weighPours 0 = .ok (.aload_n 0, 1) := by decide +kernel
theorem dX6_weighPours_1 : decode cX6_weighPours 1 = .ok (.getfield 26, 3) := by decide +kernel
theorem dX6_weighPours_4 : decode cX6_weighPours 4 = .ok (.aload_n 0, 1) := by decide +kernel
theorem dX6_weighPours_5 : decode cX6_weighPours 5 = .ok (.getfield 22, 3) := by decide +kernel
theorem dX6_weighPours_8 : decode cX6_weighPours 8 = .ok (.invokevirtual 71, 3) := by decide +kernel
theorem dX6_weighPours_11 : decode cX6_weighPours 11 = .ok (.iconst 0, 1) := by decide +kernel
theorem dX6_weighPours_12 : decode cX6_weighPours 12 = .ok (.istore_n 2, 1) := by decide +kernel
theorem dX6_weighPours_13 : decode cX6_weighPours 13 = .ok (.iload_n 2, 1) := by decide +kernel
theorem dX6_weighPours_14 : decode cX6_weighPours 14 = .ok (.aload_n 0, 1) := by decide +kernel
theorem dX6_weighPours_15 : decode cX6_weighPours 15 = .ok (.getfield 18, 3) := by decide +kernel
theorem dX6_weighPours_18 : decode cX6_weighPours 18 = .ok (.getfield 68, 3) := by decide +kernel
theorem dX6_weighPours_21 : decode cX6_weighPours 21 = .ok (.if_icmp .ge 33, 3) := by decide +kernel
theorem dX6_weighPours_24 : decode cX6_weighPours 24 = .ok (.aload_n 0, 1) := by decide +kernel
theorem dX6_weighPours_25 : decode cX6_weighPours 25 = .ok (.getfield 9, 3) := by decide +kernel
theorem dX6_weighPours_28 : decode cX6_weighPours 28 = .ok (.iload_n 2, 1) := by decide +kernel
theorem dX6_weighPours_29 : decode cX6_weighPours 29 = .ok (.iaload, 1) := by decide +kernel
theorem dX6_weighPours_30 : decode cX6_weighPours 30 = .ok (.ifCond .le 18, 3) := by decide +kernel
theorem dX6_weighPours_33 : decode cX6_weighPours 33 = .ok (.aload_n 0, 1) := by decide +kernel
theorem dX6_weighPours_34 : decode cX6_weighPours 34 = .ok (.getfield 26, 3) := by decide +kernel
theorem dX6_weighPours_37 : decode cX6_weighPours 37 = .ok (.iload_n 2, 1) := by decide +kernel
theorem dX6_weighPours_38 : decode cX6_weighPours 38 = .ok (.aload_n 0, 1) := by decide +kernel
theorem dX6_weighPours_39 : decode cX6_weighPours 39 = .ok (.getfield 9, 3) := by decide +kernel
theorem dX6_weighPours_42 : decode cX6_weighPours 42 = .ok (.iload_n 2, 1) := by decide +kernel
theorem dX6_weighPours_43 : decode cX6_weighPours 43 = .ok (.iaload, 1) := by decide +kernel
theorem dX6_weighPours_44 : decode cX6_weighPours 44 = .ok (.invokevirtual 75, 3) := by decide +kernel
theorem dX6_weighPours_47 : decode cX6_weighPours 47 = .ok (.pop, 1) := by decide +kernel
theorem dX6_weighPours_48 : decode cX6_weighPours 48 = .ok (.iinc 2 1, 3) := by decide +kernel
theorem dX6_weighPours_51 : decode cX6_weighPours 51 = .ok (.goto (-38), 3) := by decide +kernel
theorem dX6_weighPours_54 : decode cX6_weighPours 54 = .ok (.aload_n 0, 1) := by decide +kernel
theorem dX6_weighPours_55 : decode cX6_weighPours 55 = .ok (.getfield 26, 3) := by decide +kernel
theorem dX6_weighPours_58 : decode cX6_weighPours 58 = .ok (.bipush 15, 2) := by decide +kernel
theorem dX6_weighPours_60 : decode cX6_weighPours 60 = .ok (.invokevirtual 78, 3) := by decide +kernel
theorem dX6_weighPours_63 : decode cX6_weighPours 63 = .ok (.aload_n 0, 1) := by decide +kernel
theorem dX6_weighPours_64 : decode cX6_weighPours 64 = .ok (.aload_n 0, 1) := by decide +kernel
theorem dX6_weighPours_65 : decode cX6_weighPours 65 = .ok (.getfield 26, 3) := by decide +kernel
theorem dX6_weighPours_68 : decode cX6_weighPours 68 = .ok (.invokevirtual 81, 3) := by decide +kernel
theorem dX6_weighPours_71 : decode cX6_weighPours 71 = .ok (.iload_n 1, 1) := by decide +kernel
theorem dX6_weighPours_72 : decode cX6_weighPours 72 = .ok (.invokevirtual 85, 3) := by decide +kernel
theorem dX6_weighPours_75 : decode cX6_weighPours 75 = .ok (.return_, 1) := by decide +kernel
theorem dX6_keepLess_0 : decode cX6_keepLess 0 = .ok (.aload_n 0, 1) := by decide +kernel
theorem dX6_keepLess_1 : decode cX6_keepLess 1 = .ok (.getfield 33, 3) := by decide +kernel
theorem dX6_keepLess_4 : decode cX6_keepLess 4 = .ok (.bipush (-9), 2) := by decide +kernel
theorem dX6_keepLess_6 : decode cX6_keepLess 6 = .ok (.if_icmp .eq 11, 3) := by decide +kernel
theorem dX6_keepLess_9 : decode cX6_keepLess 9 = .ok (.iload_n 1, 1) := by decide +kernel
theorem dX6_keepLess_10 : decode cX6_keepLess 10 = .ok (.aload_n 0, 1) := by decide +kernel
theorem dX6_keepLess_11 : decode cX6_keepLess 11 = .ok (.getfield 29, 3) := by decide +kernel
theorem dX6_keepLess_14 : decode cX6_keepLess 14 = .ok (.if_icmp .ge 13, 3) := by decide +kernel
theorem dX6_keepLess_17 : decode cX6_keepLess 17 = .ok (.aload_n 0, 1) := by decide +kernel
theorem dX6_keepLess_18 : decode cX6_keepLess 18 = .ok (.iload_n 1, 1) := by decide +kernel
theorem dX6_keepLess_19 : decode cX6_keepLess 19 = .ok (.putfield 29, 3) := by decide +kernel
theorem dX6_keepLess_22 : decode cX6_keepLess 22 = .ok (.aload_n 0, 1) := by decide +kernel
theorem dX6_keepLess_23 : decode cX6_keepLess 23 = .ok (.iload_n 2, 1) := by decide +kernel
theorem dX6_keepLess_24 : decode cX6_keepLess 24 = .ok (.putfield 33, 3) := by decide +kernel
theorem dX6_keepLess_27 : decode cX6_keepLess 27 = .ok (.return_, 1) := by decide +kernel
theorem dX6_fewestForWake_0 : decode cX6_fewestForWake 0 = .ok (.bipush (-9), 2) := by decide +kernel
theorem dX6_fewestForWake_2 : decode cX6_fewestForWake 2 = .ok (.istore_n 1, 1) := by decide +kernel
theorem dX6_fewestForWake_3 : decode cX6_fewestForWake 3 = .ok (.iconst 0, 1) := by decide +kernel
theorem dX6_fewestForWake_4 : decode cX6_fewestForWake 4 = .ok (.istore_n 2, 1) := by decide +kernel
theorem dX6_fewestForWake_5 : decode cX6_fewestForWake 5 = .ok (.iload_n 2, 1) := by decide +kernel
theorem dX6_fewestForWake_6 : decode cX6_fewestForWake 6 = .ok (.iconst 1, 1) := by decide +kernel
theorem dX6_fewestForWake_7 : decode cX6_fewestForWake 7 = .ok (.aload_n 0, 1) := by decide +kernel
theorem dX6_fewestForWake_8 : decode cX6_fewestForWake 8 = .ok (.getfield 18, 3) := by decide +kernel
theorem dX6_fewestForWake_11 : decode cX6_fewestForWake 11 = .ok (.getfield 68, 3) := by decide +kernel
theorem dX6_fewestForWake_14 : decode cX6_fewestForWake 14 = .ok (.ishl, 1) := by decide +kernel
theorem dX6_fewestForWake_15 : decode cX6_fewestForWake 15 = .ok (.if_icmp .ge 46, 3) := by decide +kernel
theorem dX6_fewestForWake_18 : decode cX6_fewestForWake 18 = .ok (.iload_n 1, 1) := by decide +kernel
theorem dX6_fewestForWake_19 : decode cX6_fewestForWake 19 = .ok (.bipush (-9), 2) := by decide +kernel
theorem dX6_fewestForWake_21 : decode cX6_fewestForWake 21 = .ok (.if_icmp .eq 14, 3) := by decide +kernel
theorem dX6_fewestForWake_24 : decode cX6_fewestForWake 24 = .ok (.iload_n 2, 1) := by decide +kernel
theorem dX6_fewestForWake_25 : decode cX6_fewestForWake 25 = .ok (.invokestatic 89, 3) := by decide +kernel
theorem dX6_fewestForWake_28 : decode cX6_fewestForWake 28 = .ok (.iload_n 1, 1) := by decide +kernel
theorem dX6_fewestForWake_29 : decode cX6_fewestForWake 29 = .ok (.invokestatic 89, 3) := by decide +kernel
theorem dX6_fewestForWake_32 : decode cX6_fewestForWake 32 = .ok (.if_icmp .ge 7, 3) := by decide +kernel
theorem dX6_fewestForWake_35 : decode cX6_fewestForWake 35 = .ok (.iconst 1, 1) := by decide +kernel
theorem dX6_fewestForWake_36 : decode cX6_fewestForWake 36 = .ok (.goto 4, 3) := by decide +kernel
theorem dX6_fewestForWake_39 : decode cX6_fewestForWake 39 = .ok (.iconst 0, 1) := by decide +kernel
theorem dX6_fewestForWake_40 : decode cX6_fewestForWake 40 = .ok (.istore_n 3, 1) := by decide +kernel
theorem dX6_fewestForWake_41 : decode cX6_fewestForWake 41 = .ok (.iload_n 3, 1) := by decide +kernel
theorem dX6_fewestForWake_42 : decode cX6_fewestForWake 42 = .ok (.ifCond .eq 13, 3) := by decide +kernel
theorem dX6_fewestForWake_45 : decode cX6_fewestForWake 45 = .ok (.aload_n 0, 1) := by decide +kernel
theorem dX6_fewestForWake_46 : decode cX6_fewestForWake 46 = .ok (.iload_n 2, 1) := by decide +kernel
theorem dX6_fewestForWake_47 : decode cX6_fewestForWake 47 = .ok (.invokevirtual 94, 3) := by decide +kernel
theorem dX6_fewestForWake_50 : decode cX6_fewestForWake 50 = .ok (.ifCond .eq 5, 3) := by decide +kernel
theorem dX6_fewestForWake_53 : decode cX6_fewestForWake 53 = .ok (.iload_n 2, 1) := by decide +kernel
theorem dX6_fewestForWake_54 : decode cX6_fewestForWake 54 = .ok (.istore_n 1, 1) := by decide +kernel
theorem dX6_fewestForWake_55 : decode cX6_fewestForWake 55 = .ok (.iinc 2 1, 3) := by decide +kernel
theorem dX6_fewestForWake_58 : decode cX6_fewestForWake 58 = .ok (.goto (-53), 3) := by decide +kernel
theorem dX6_fewestForWake_61 : decode cX6_fewestForWake 61 = .ok (.iload_n 1, 1) := by decide +kernel
theorem dX6_fewestForWake_62 : decode cX6_fewestForWake 62 = .ok (.ireturn, 1) := by decide +kernel
theorem dX6_isEnough_0 : decode cX6_isEnough 0 = .ok (.aload_n 0, 1) := by decide +kernel
theorem dX6_isEnough_1 : decode cX6_isEnough 1 = .ok (.getfield 26, 3) := by decide +kernel
theorem dX6_isEnough_4 : decode cX6_isEnough 4 = .ok (.aload_n 0, 1) := by decide +kernel
theorem dX6_isEnough_5 : decode cX6_isEnough 5 = .ok (.getfield 22, 3) := by decide +kernel
theorem dX6_isEnough_8 : decode cX6_isEnough 8 = .ok (.invokevirtual 71, 3) := by decide +kernel
theorem dX6_isEnough_11 : decode cX6_isEnough 11 = .ok (.aload_n 0, 1) := by decide +kernel
theorem dX6_isEnough_12 : decode cX6_isEnough 12 = .ok (.getfield 26, 3) := by decide +kernel
theorem dX6_isEnough_15 : decode cX6_isEnough 15 = .ok (.iload_n 1, 1) := by decide +kernel
theorem dX6_isEnough_16 : decode cX6_isEnough 16 = .ok (.invokevirtual 97, 3) := by decide +kernel
theorem dX6_isEnough_19 : decode cX6_isEnough 19 = .ok (.aload_n 0, 1) := by decide +kernel
theorem dX6_isEnough_20 : decode cX6_isEnough 20 = .ok (.getfield 26, 3) := by decide +kernel
theorem dX6_isEnough_23 : decode cX6_isEnough 23 = .ok (.bipush 15, 2) := by decide +kernel
theorem dX6_isEnough_25 : decode cX6_isEnough 25 = .ok (.invokevirtual 78, 3) := by decide +kernel
theorem dX6_isEnough_28 : decode cX6_isEnough 28 = .ok (.aload_n 0, 1) := by decide +kernel
theorem dX6_isEnough_29 : decode cX6_isEnough 29 = .ok (.getfield 26, 3) := by decide +kernel
theorem dX6_isEnough_32 : decode cX6_isEnough 32 = .ok (.invokevirtual 100, 3) := by decide +kernel
theorem dX6_isEnough_35 : decode cX6_isEnough 35 = .ok (.ireturn, 1) := by decide +kernel
theorem dX6_tryTurns_0 : decode cX6_tryTurns 0 = .ok (.iload_n 1, 1) := by decide +kernel
theorem dX6_tryTurns_1 : decode cX6_tryTurns 1 = .ok (.aload_n 0, 1) := by decide +kernel
theorem dX6_tryTurns_2 : decode cX6_tryTurns 2 = .ok (.getfield 18, 3) := by decide +kernel
theorem dX6_tryTurns_5 : decode cX6_tryTurns 5 = .ok (.getfield 104, 3) := by decide +kernel
theorem dX6_tryTurns_8 : decode cX6_tryTurns 8 = .ok (.if_icmp .lt 9, 3) := by decide +kernel
theorem dX6_tryTurns_11 : decode cX6_tryTurns 11 = .ok (.aload_n 0, 1) := by decide +kernel
theorem dX6_tryTurns_12 : decode cX6_tryTurns 12 = .ok (.iload_n 3, 1) := by decide +kernel
theorem dX6_tryTurns_13 : decode cX6_tryTurns 13 = .ok (.invokevirtual 107, 3) := by decide +kernel
theorem dX6_tryTurns_16 : decode cX6_tryTurns 16 = .ok (.return_, 1) := by decide +kernel
theorem dX6_tryTurns_17 : decode cX6_tryTurns 17 = .ok (.iconst 0, 1) := by decide +kernel
theorem dX6_tryTurns_18 : decode cX6_tryTurns 18 = .ok (.istore 4, 2) := by decide +kernel
theorem dX6_tryTurns_20 : decode cX6_tryTurns 20 = .ok (.iload 4, 2) := by decide +kernel
theorem dX6_tryTurns_22 : decode cX6_tryTurns 22 = .ok (.aload_n 0, 1) := by decide +kernel
theorem dX6_tryTurns_23 : decode cX6_tryTurns 23 = .ok (.getfield 18, 3) := by decide +kernel
theorem dX6_tryTurns_26 : decode cX6_tryTurns 26 = .ok (.getfield 104, 3) := by decide +kernel
theorem dX6_tryTurns_29 : decode cX6_tryTurns 29 = .ok (.if_icmp .ge 48, 3) := by decide +kernel
theorem dX6_tryTurns_32 : decode cX6_tryTurns 32 = .ok (.iload_n 2, 1) := by decide +kernel
theorem dX6_tryTurns_33 : decode cX6_tryTurns 33 = .ok (.iload 4, 2) := by decide +kernel
theorem dX6_tryTurns_35 : decode cX6_tryTurns 35 = .ok (.invokestatic 110, 3) := by decide +kernel
theorem dX6_tryTurns_38 : decode cX6_tryTurns 38 = .ok (.ifCond .ne 33, 3) := by decide +kernel
theorem dX6_tryTurns_41 : decode cX6_tryTurns 41 = .ok (.aload_n 0, 1) := by decide +kernel
theorem dX6_tryTurns_42 : decode cX6_tryTurns 42 = .ok (.getfield 15, 3) := by decide +kernel
theorem dX6_tryTurns_45 : decode cX6_tryTurns 45 = .ok (.iload_n 1, 1) := by decide +kernel
theorem dX6_tryTurns_46 : decode cX6_tryTurns 46 = .ok (.iload 4, 2) := by decide +kernel
theorem dX6_tryTurns_48 : decode cX6_tryTurns 48 = .ok (.iastore, 1) := by decide +kernel
theorem dX6_tryTurns_49 : decode cX6_tryTurns 49 = .ok (.aload_n 0, 1) := by decide +kernel
theorem dX6_tryTurns_50 : decode cX6_tryTurns 50 = .ok (.iload_n 1, 1) := by decide +kernel
theorem dX6_tryTurns_51 : decode cX6_tryTurns 51 = .ok (.iconst 1, 1) := by decide +kernel
theorem dX6_tryTurns_52 : decode cX6_tryTurns 52 = .ok (.iadd, 1) := by decide +kernel
theorem dX6_tryTurns_53 : decode cX6_tryTurns 53 = .ok (.iload_n 2, 1) := by decide +kernel
theorem dX6_tryTurns_54 : decode cX6_tryTurns 54 = .ok (.iconst 1, 1) := by decide +kernel
theorem dX6_tryTurns_55 : decode cX6_tryTurns 55 = .ok (.iload 4, 2) := by decide +kernel
theorem dX6_tryTurns_57 : decode cX6_tryTurns 57 = .ok (.ishl, 1) := by decide +kernel
theorem dX6_tryTurns_58 : decode cX6_tryTurns 58 = .ok (.ior, 1) := by decide +kernel
theorem dX6_tryTurns_59 : decode cX6_tryTurns 59 = .ok (.bipush 10, 2) := by decide +kernel
theorem dX6_tryTurns_61 : decode cX6_tryTurns 61 = .ok (.iload_n 3, 1) := by decide +kernel
theorem dX6_tryTurns_62 : decode cX6_tryTurns 62 = .ok (.imul, 1) := by decide +kernel
theorem dX6_tryTurns_63 : decode cX6_tryTurns 63 = .ok (.iload 4, 2) := by decide +kernel
theorem dX6_tryTurns_65 : decode cX6_tryTurns 65 = .ok (.iadd, 1) := by decide +kernel
theorem dX6_tryTurns_66 : decode cX6_tryTurns 66 = .ok (.iconst 1, 1) := by decide +kernel
theorem dX6_tryTurns_67 : decode cX6_tryTurns 67 = .ok (.iadd, 1) := by decide +kernel
theorem dX6_tryTurns_68 : decode cX6_tryTurns 68 = .ok (.invokevirtual 114, 3) := by decide +kernel
theorem dX6_tryTurns_71 : decode cX6_tryTurns 71 = .ok (.iinc 4 1, 3) := by decide +kernel
theorem dX6_tryTurns_74 : decode cX6_tryTurns 74 = .ok (.goto (-54), 3) := by decide +kernel
theorem dX6_tryTurns_77 : decode cX6_tryTurns 77 = .ok (.return_, 1) := by decide +kernel
theorem dX6_weighTurns_0 : decode cX6_weighTurns 0 = .ok (.aload_n 0, 1) := by decide +kernel
theorem dX6_weighTurns_1 : decode cX6_weighTurns 1 = .ok (.getfield 26, 3) := by decide +kernel
theorem dX6_weighTurns_4 : decode cX6_weighTurns 4 = .ok (.aload_n 0, 1) := by decide +kernel
theorem dX6_weighTurns_5 : decode cX6_weighTurns 5 = .ok (.getfield 22, 3) := by decide +kernel
theorem dX6_weighTurns_8 : decode cX6_weighTurns 8 = .ok (.invokevirtual 71, 3) := by decide +kernel
theorem dX6_weighTurns_11 : decode cX6_weighTurns 11 = .ok (.iconst 0, 1) := by decide +kernel
theorem dX6_weighTurns_12 : decode cX6_weighTurns 12 = .ok (.istore_n 2, 1) := by decide +kernel
theorem dX6_weighTurns_13 : decode cX6_weighTurns 13 = .ok (.iload_n 2, 1) := by decide +kernel
theorem dX6_weighTurns_14 : decode cX6_weighTurns 14 = .ok (.aload_n 0, 1) := by decide +kernel
theorem dX6_weighTurns_15 : decode cX6_weighTurns 15 = .ok (.getfield 18, 3) := by decide +kernel
theorem dX6_weighTurns_18 : decode cX6_weighTurns 18 = .ok (.getfield 104, 3) := by decide +kernel
theorem dX6_weighTurns_21 : decode cX6_weighTurns 21 = .ok (.if_icmp .ge 22, 3) := by decide +kernel
theorem dX6_weighTurns_24 : decode cX6_weighTurns 24 = .ok (.aload_n 0, 1) := by decide +kernel
theorem dX6_weighTurns_25 : decode cX6_weighTurns 25 = .ok (.getfield 26, 3) := by decide +kernel
theorem dX6_weighTurns_28 : decode cX6_weighTurns 28 = .ok (.aload_n 0, 1) := by decide +kernel
theorem dX6_weighTurns_29 : decode cX6_weighTurns 29 = .ok (.getfield 15, 3) := by decide +kernel
theorem dX6_weighTurns_32 : decode cX6_weighTurns 32 = .ok (.iload_n 2, 1) := by decide +kernel
theorem dX6_weighTurns_33 : decode cX6_weighTurns 33 = .ok (.iaload, 1) := by decide +kernel
theorem dX6_weighTurns_34 : decode cX6_weighTurns 34 = .ok (.invokevirtual 117, 3) := by decide +kernel
theorem dX6_weighTurns_37 : decode cX6_weighTurns 37 = .ok (.iinc 2 1, 3) := by decide +kernel
theorem dX6_weighTurns_40 : decode cX6_weighTurns 40 = .ok (.goto (-27), 3) := by decide +kernel
theorem dX6_weighTurns_43 : decode cX6_weighTurns 43 = .ok (.aload_n 0, 1) := by decide +kernel
theorem dX6_weighTurns_44 : decode cX6_weighTurns 44 = .ok (.aload_n 0, 1) := by decide +kernel
theorem dX6_weighTurns_45 : decode cX6_weighTurns 45 = .ok (.getfield 26, 3) := by decide +kernel
theorem dX6_weighTurns_48 : decode cX6_weighTurns 48 = .ok (.invokevirtual 120, 3) := by decide +kernel
theorem dX6_weighTurns_51 : decode cX6_weighTurns 51 = .ok (.iload_n 1, 1) := by decide +kernel
theorem dX6_weighTurns_52 : decode cX6_weighTurns 52 = .ok (.invokevirtual 85, 3) := by decide +kernel
theorem dX6_weighTurns_55 : decode cX6_weighTurns 55 = .ok (.return_, 1) := by decide +kernel
theorem dX7_init_0 : decode cX7_init 0 = .ok (.aload_n 0, 1) := by decide +kernel
theorem dX7_init_1 : decode cX7_init 1 = .ok (.invokespecial 3, 3) := by decide +kernel
theorem dX7_init_4 : decode cX7_init 4 = .ok (.aload_n 0, 1) := by decide +kernel
theorem dX7_init_5 : decode cX7_init 5 = .ok (.bipush 6, 2) := by decide +kernel
theorem dX7_init_7 : decode cX7_init 7 = .ok (.newarray .int, 2) := by decide +kernel
theorem dX7_init_9 : decode cX7_init 9 = .ok (.putfield 9, 3) := by decide +kernel
theorem dX7_init_12 : decode cX7_init 12 = .ok (.aload_n 0, 1) := by decide +kernel
theorem dX7_init_13 : decode cX7_init 13 = .ok (.bipush 6, 2) := by decide +kernel
theorem dX7_init_15 : decode cX7_init 15 = .ok (.newarray .int, 2) := by decide +kernel
theorem dX7_init_17 : decode cX7_init 17 = .ok (.putfield 15, 3) := by decide +kernel
theorem dX7_init_20 : decode cX7_init 20 = .ok (.aload_n 0, 1) := by decide +kernel
theorem dX7_init_21 : decode cX7_init 21 = .ok (.bipush 6, 2) := by decide +kernel
theorem dX7_init_23 : decode cX7_init 23 = .ok (.newarray .int, 2) := by decide +kernel
theorem dX7_init_25 : decode cX7_init 25 = .ok (.putfield 18, 3) := by decide +kernel
theorem dX7_init_28 : decode cX7_init 28 = .ok (.return_, 1) := by decide +kernel
theorem dX7_add_0 : decode cX7_add 0 = .ok (.aload_n 0, 1) := by decide +kernel
theorem dX7_add_1 : decode cX7_add 1 = .ok (.getfield 21, 3) := by decide +kernel
theorem dX7_add_4 : decode cX7_add 4 = .ok (.bipush 6, 2) := by decide +kernel
theorem dX7_add_6 : decode cX7_add 6 = .ok (.if_icmp .lt 6, 3) := by decide +kernel
theorem dX7_add_9 : decode cX7_add 9 = .ok (.bipush (-4), 2) := by decide +kernel
theorem dX7_add_11 : decode cX7_add 11 = .ok (.ireturn, 1) := by decide +kernel
theorem dX7_add_12 : decode cX7_add 12 = .ok (.aload_n 0, 1) := by decide +kernel
theorem dX7_add_13 : decode cX7_add 13 = .ok (.getfield 9, 3) := by decide +kernel
theorem dX7_add_16 : decode cX7_add 16 = .ok (.aload_n 0, 1) := by decide +kernel
theorem dX7_add_17 : decode cX7_add 17 = .ok (.getfield 21, 3) := by decide +kernel
theorem dX7_add_20 : decode cX7_add 20 = .ok (.iload_n 1, 1) := by decide +kernel
theorem dX7_add_21 : decode cX7_add 21 = .ok (.iastore, 1) := by decide +kernel
theorem dX7_add_22 : decode cX7_add 22 = .ok (.aload_n 0, 1) := by decide +kernel
theorem dX7_add_23 : decode cX7_add 23 = .ok (.getfield 15, 3) := by decide +kernel
theorem dX7_add_26 : decode cX7_add 26 = .ok (.aload_n 0, 1) := by decide +kernel
theorem dX7_add_27 : decode cX7_add 27 = .ok (.getfield 21, 3) := by decide +kernel
theorem dX7_add_30 : decode cX7_add 30 = .ok (.iload_n 2, 1) := by decide +kernel
theorem dX7_add_31 : decode cX7_add 31 = .ok (.iastore, 1) := by decide +kernel
theorem dX7_add_32 : decode cX7_add 32 = .ok (.aload_n 0, 1) := by decide +kernel
theorem dX7_add_33 : decode cX7_add 33 = .ok (.getfield 18, 3) := by decide +kernel
theorem dX7_add_36 : decode cX7_add 36 = .ok (.aload_n 0, 1) := by decide +kernel
theorem dX7_add_37 : decode cX7_add 37 = .ok (.getfield 21, 3) := by decide +kernel
theorem dX7_add_40 : decode cX7_add 40 = .ok (.iload_n 3, 1) := by decide +kernel
theorem dX7_add_41 : decode cX7_add 41 = .ok (.iastore, 1) := by decide +kernel
theorem dX7_add_42 : decode cX7_add 42 = .ok (.aload_n 0, 1) := by decide +kernel
theorem dX7_add_43 : decode cX7_add 43 = .ok (.dup, 1) := by decide +kernel
theorem dX7_add_44 : decode cX7_add 44 = .ok (.getfield 21, 3) := by decide +kernel
theorem dX7_add_47 : decode cX7_add 47 = .ok (.iconst 1, 1) := by decide +kernel
theorem dX7_add_48 : decode cX7_add 48 = .ok (.iadd, 1) := by decide +kernel
theorem dX7_add_49 : decode cX7_add 49 = .ok (.putfield 21, 3) := by decide +kernel
theorem dX7_add_52 : decode cX7_add 52 = .ok (.aload_n 0, 1) := by decide +kernel
theorem dX7_add_53 : decode cX7_add 53 = .ok (.getfield 21, 3) := by decide +kernel
theorem dX7_add_56 : decode cX7_add 56 = .ok (.ireturn, 1) := by decide +kernel
theorem dX7_thirstsOf_0 : decode cX7_thirstsOf 0 = .ok (.iconst 0, 1) := by decide +kernel
theorem dX7_thirstsOf_1 : decode cX7_thirstsOf 1 = .ok (.istore_n 3, 1) := by decide +kernel
theorem dX7_thirstsOf_2 : decode cX7_thirstsOf 2 = .ok (.iconst 0, 1) := by decide +kernel
theorem dX7_thirstsOf_3 : decode cX7_thirstsOf 3 = .ok (.istore 4, 2) := by decide +kernel
theorem dX7_thirstsOf_5 : decode cX7_thirstsOf 5 = .ok (.iload 4, 2) := by decide +kernel
theorem dX7_thirstsOf_7 : decode cX7_thirstsOf 7 = .ok (.bipush 9, 2) := by decide +kernel
theorem dX7_thirstsOf_9 : decode cX7_thirstsOf 9 = .ok (.if_icmp .gt 27, 3) := by decide +kernel
theorem dX7_thirstsOf_12 : decode cX7_thirstsOf 12 = .ok (.aload_n 0, 1) := by decide +kernel
theorem dX7_thirstsOf_13 : decode cX7_thirstsOf 13 = .ok (.iload_n 1, 1) := by decide +kernel
theorem dX7_thirstsOf_14 : decode cX7_thirstsOf 14 = .ok (.iload_n 2, 1) := by decide +kernel
theorem dX7_thirstsOf_15 : decode cX7_thirstsOf 15 = .ok (.iload 4, 2) := by decide +kernel
theorem dX7_thirstsOf_17 : decode cX7_thirstsOf 17 = .ok (.invokevirtual 25, 3) := by decide +kernel
theorem dX7_thirstsOf_20 : decode cX7_thirstsOf 20 = .ok (.ifCond .eq 10, 3) := by decide +kernel
theorem dX7_thirstsOf_23 : decode cX7_thirstsOf 23 = .ok (.iload_n 3, 1) := by decide +kernel
theorem dX7_thirstsOf_24 : decode cX7_thirstsOf 24 = .ok (.iconst 1, 1) := by decide +kernel
theorem dX7_thirstsOf_25 : decode cX7_thirstsOf 25 = .ok (.iload 4, 2) := by decide +kernel
theorem dX7_thirstsOf_27 : decode cX7_thirstsOf 27 = .ok (.ishl, 1) := by decide +kernel
theorem dX7_thirstsOf_28 : decode cX7_thirstsOf 28 = .ok (.ior, 1) := by decide +kernel
theorem dX7_thirstsOf_29 : decode cX7_thirstsOf 29 = .ok (.istore_n 3, 1) := by decide +kernel
theorem dX7_thirstsOf_30 : decode cX7_thirstsOf 30 = .ok (.iinc 4 1, 3) := by decide +kernel
theorem dX7_thirstsOf_33 : decode cX7_thirstsOf 33 = .ok (.goto (-28), 3) := by decide +kernel
theorem dX7_thirstsOf_36 : decode cX7_thirstsOf 36 = .ok (.iload_n 3, 1) := by decide +kernel
theorem dX7_thirstsOf_37 : decode cX7_thirstsOf 37 = .ok (.ireturn, 1) := by decide +kernel
theorem dX7_fits_0 : decode cX7_fits 0 = .ok (.iconst 0, 1) := by decide +kernel
theorem dX7_fits_1 : decode cX7_fits 1 = .ok (.istore 4, 2) := by decide +kernel
theorem dX7_fits_3 : decode cX7_fits 3 = .ok (.iload 4, 2) := by decide +kernel
theorem dX7_fits_5 : decode cX7_fits 5 = .ok (.aload_n 0, 1) := by decide +kernel
theorem dX7_fits_6 : decode cX7_fits 6 = .ok (.getfield 21, 3) := by decide +kernel
theorem dX7_fits_9 : decode cX7_fits 9 = .ok (.if_icmp .ge 59, 3) := by decide +kernel
theorem dX7_fits_12 : decode cX7_fits 12 = .ok (.iload 4, 2) := by decide +kernel
theorem dX7_fits_14 : decode cX7_fits 14 = .ok (.bipush 6, 2) := by decide +kernel
theorem dX7_fits_16 : decode cX7_fits 16 = .ok (.if_icmp .ge 52, 3) := by decide +kernel
theorem dX7_fits_19 : decode cX7_fits 19 = .ok (.aload_n 0, 1) := by decide +kernel
theorem dX7_fits_20 : decode cX7_fits 20 = .ok (.getfield 9, 3) := by decide +kernel
theorem dX7_fits_23 : decode cX7_fits 23 = .ok (.iload 4, 2) := by decide +kernel
theorem dX7_fits_25 : decode cX7_fits 25 = .ok (.iaload, 1) := by decide +kernel
theorem dX7_fits_26 : decode cX7_fits 26 = .ok (.iload_n 1, 1) := by decide +kernel
theorem dX7_fits_27 : decode cX7_fits 27 = .ok (.if_icmp .ne 35, 3) := by decide +kernel
theorem dX7_fits_30 : decode cX7_fits 30 = .ok (.aload_n 0, 1) := by decide +kernel
theorem dX7_fits_31 : decode cX7_fits 31 = .ok (.getfield 15, 3) := by decide +kernel
theorem dX7_fits_34 : decode cX7_fits 34 = .ok (.iload 4, 2) := by decide +kernel
theorem dX7_fits_36 : decode cX7_fits 36 = .ok (.iaload, 1) := by decide +kernel
theorem dX7_fits_37 : decode cX7_fits 37 = .ok (.iload_n 2, 1) := by decide +kernel
theorem dX7_fits_38 : decode cX7_fits 38 = .ok (.iload_n 3, 1) := by decide +kernel
theorem dX7_fits_39 : decode cX7_fits 39 = .ok (.aload_n 0, 1) := by decide +kernel
theorem dX7_fits_40 : decode cX7_fits 40 = .ok (.getfield 15, 3) := by decide +kernel
theorem dX7_fits_43 : decode cX7_fits 43 = .ok (.iload 4, 2) := by decide +kernel
theorem dX7_fits_45 : decode cX7_fits 45 = .ok (.iaload, 1) := by decide +kernel
theorem dX7_fits_46 : decode cX7_fits 46 = .ok (.invokestatic 29, 3) := by decide +kernel
theorem dX7_fits_49 : decode cX7_fits 49 = .ok (.isub, 1) := by decide +kernel
theorem dX7_fits_50 : decode cX7_fits 50 = .ok (.aload_n 0, 1) := by decide +kernel
theorem dX7_fits_51 : decode cX7_fits 51 = .ok (.getfield 18, 3) := by decide +kernel
theorem dX7_fits_54 : decode cX7_fits 54 = .ok (.iload 4, 2) := by decide +kernel
theorem dX7_fits_56 : decode cX7_fits 56 = .ok (.iaload, 1) := by decide +kernel
theorem dX7_fits_57 : decode cX7_fits 57 = .ok (.if_icmp .eq 5, 3) := by decide +kernel
theorem dX7_fits_60 : decode cX7_fits 60 = .ok (.iconst 0, 1) := by decide +kernel
theorem dX7_fits_61 : decode cX7_fits 61 = .ok (.ireturn, 1) := by decide +kernel
theorem dX7_fits_62 : decode cX7_fits 62 = .ok (.iinc 4 1, 3) := by decide +kernel
theorem dX7_fits_65 : decode cX7_fits 65 = .ok (.goto (-62), 3) := by decide +kernel
theorem dX7_fits_68 : decode cX7_fits 68 = .ok (.iconst 1, 1) := by decide +kernel
theorem dX7_fits_69 : decode cX7_fits 69 = .ok (.ireturn, 1) := by decide +kernel
theorem dX8_init_0 : decode cX8_init 0 = .ok (.aload_n 0, 1) := by decide +kernel
theorem dX8_init_1 : decode cX8_init 1 = .ok (.invokespecial 3, 3) := by decide +kernel
theorem dX8_init_4 : decode cX8_init 4 = .ok (.aload_n 0, 1) := by decide +kernel
theorem dX8_init_5 : decode cX8_init 5 = .ok (.iconst 0, 1) := by decide +kernel
theorem dX8_init_6 : decode cX8_init 6 = .ok (.iload_n 1, 1) := by decide +kernel
theorem dX8_init_7 : decode cX8_init 7 = .ok (.invokestatic 9, 3) := by decide +kernel
theorem dX8_init_10 : decode cX8_init 10 = .ok (.putfield 15, 3) := by decide +kernel
theorem dX8_init_13 : decode cX8_init 13 = .ok (.aload_n 0, 1) := by decide +kernel
theorem dX8_init_14 : decode cX8_init 14 = .ok (.aload_n 0, 1) := by decide +kernel
theorem dX8_init_15 : decode cX8_init 15 = .ok (.getfield 15, 3) := by decide +kernel
theorem dX8_init_18 : decode cX8_init 18 = .ok (.bipush 15, 2) := by decide +kernel
theorem dX8_init_20 : decode cX8_init 20 = .ok (.imul, 1) := by decide +kernel
theorem dX8_init_21 : decode cX8_init 21 = .ok (.newarray .int, 2) := by decide +kernel
theorem dX8_init_23 : decode cX8_init 23 = .ok (.putfield 21, 3) := by decide +kernel
theorem dX8_init_26 : decode cX8_init 26 = .ok (.return_, 1) := by decide +kernel
theorem dX8_lay_0 : decode cX8_lay 0 = .ok (.iload_n 1, 1) := by decide +kernel
theorem dX8_lay_1 : decode cX8_lay 1 = .ok (.ifCond .lt 11, 3) := by decide +kernel
theorem dX8_lay_4 : decode cX8_lay 4 = .ok (.iload_n 1, 1) := by decide +kernel
theorem dX8_lay_5 : decode cX8_lay 5 = .ok (.aload_n 0, 1) := by decide +kernel
theorem dX8_lay_6 : decode cX8_lay 6 = .ok (.getfield 15, 3) := by decide +kernel
theorem dX8_lay_9 : decode cX8_lay 9 = .ok (.if_icmp .lt 4, 3) := by decide +kernel
theorem dX8_lay_12 : decode cX8_lay 12 = .ok (.return_, 1) := by decide +kernel
theorem dX8_lay_13 : decode cX8_lay 13 = .ok (.iload_n 1, 1) := by decide +kernel
theorem dX8_lay_14 : decode cX8_lay 14 = .ok (.bipush 15, 2) := by decide +kernel
theorem dX8_lay_16 : decode cX8_lay 16 = .ok (.imul, 1) := by decide +kernel
theorem dX8_lay_17 : decode cX8_lay 17 = .ok (.istore_n 3, 1) := by decide +kernel
theorem dX8_lay_18 : decode cX8_lay 18 = .ok (.aload_n 2, 1) := by decide +kernel
theorem dX8_lay_19 : decode cX8_lay 19 = .ok (.getfield 25, 3) := by decide +kernel
theorem dX8_lay_22 : decode cX8_lay 22 = .ok (.iconst 0, 1) := by decide +kernel
theorem dX8_lay_23 : decode cX8_lay 23 = .ok (.aload_n 0, 1) := by decide +kernel
theorem dX8_lay_24 : decode cX8_lay 24 = .ok (.getfield 21, 3) := by decide +kernel
theorem dX8_lay_27 : decode cX8_lay 27 = .ok (.iload_n 3, 1) := by decide +kernel
theorem dX8_lay_28 : decode cX8_lay 28 = .ok (.iconst 5, 1) := by decide +kernel
theorem dX8_lay_29 : decode cX8_lay 29 = .ok (.invokestatic 30, 3) := by decide +kernel
theorem dX8_lay_32 : decode cX8_lay 32 = .ok (.aload_n 2, 1) := by decide +kernel
theorem dX8_lay_33 : decode cX8_lay 33 = .ok (.getfield 36, 3) := by decide +kernel
theorem dX8_lay_36 : decode cX8_lay 36 = .ok (.iconst 0, 1) := by decide +kernel
theorem dX8_lay_37 : decode cX8_lay 37 = .ok (.aload_n 0, 1) := by decide +kernel
theorem dX8_lay_38 : decode cX8_lay 38 = .ok (.getfield 21, 3) := by decide +kernel
theorem dX8_lay_41 : decode cX8_lay 41 = .ok (.iload_n 3, 1) := by decide +kernel
theorem dX8_lay_42 : decode cX8_lay 42 = .ok (.iconst 5, 1) := by decide +kernel
theorem dX8_lay_43 : decode cX8_lay 43 = .ok (.iadd, 1) := by decide +kernel
theorem dX8_lay_44 : decode cX8_lay 44 = .ok (.iconst 5, 1) := by decide +kernel
theorem dX8_lay_45 : decode cX8_lay 45 = .ok (.invokestatic 30, 3) := by decide +kernel
theorem dX8_lay_48 : decode cX8_lay 48 = .ok (.aload_n 2, 1) := by decide +kernel
theorem dX8_lay_49 : decode cX8_lay 49 = .ok (.getfield 39, 3) := by decide +kernel
theorem dX8_lay_52 : decode cX8_lay 52 = .ok (.iconst 0, 1) := by decide +kernel
theorem dX8_lay_53 : decode cX8_lay 53 = .ok (.aload_n 0, 1) := by decide +kernel
theorem dX8_lay_54 : decode cX8_lay 54 = .ok (.getfield 21, 3) := by decide +kernel
theorem dX8_lay_57 : decode cX8_lay 57 = .ok (.iload_n 3, 1) := by decide +kernel
theorem dX8_lay_58 : decode cX8_lay 58 = .ok (.bipush 10, 2) := by decide +kernel
theorem dX8_lay_60 : decode cX8_lay 60 = .ok (.iadd, 1) := by decide +kernel
theorem dX8_lay_61 : decode cX8_lay 61 = .ok (.iconst 4, 1) := by decide +kernel
theorem dX8_lay_62 : decode cX8_lay 62 = .ok (.invokestatic 30, 3) := by decide +kernel
theorem dX8_lay_65 : decode cX8_lay 65 = .ok (.aload_n 0, 1) := by decide +kernel
theorem dX8_lay_66 : decode cX8_lay 66 = .ok (.getfield 21, 3) := by decide +kernel
theorem dX8_lay_69 : decode cX8_lay 69 = .ok (.iload_n 3, 1) := by decide +kernel
theorem dX8_lay_70 : decode cX8_lay 70 = .ok (.bipush 15, 2) := by decide +kernel
theorem dX8_lay_72 : decode cX8_lay 72 = .ok (.iadd, 1) := by decide +kernel
theorem dX8_lay_73 : decode cX8_lay 73 = .ok (.iconst 1, 1) := by decide +kernel
theorem dX8_lay_74 : decode cX8_lay 74 = .ok (.isub, 1) := by decide +kernel
theorem dX8_lay_75 : decode cX8_lay 75 = .ok (.aload_n 2, 1) := by decide +kernel
theorem dX8_lay_76 : decode cX8_lay 76 = .ok (.getfield 42, 3) := by decide +kernel
theorem dX8_lay_79 : decode cX8_lay 79 = .ok (.iastore, 1) := by decide +kernel
theorem dX8_lay_80 : decode cX8_lay 80 = .ok (.return_, 1) := by decide +kernel
theorem dX8_fetch_0 : decode cX8_fetch 0 = .ok (.iload_n 1, 1) := by decide +kernel
theorem dX8_fetch_1 : decode cX8_fetch 1 = .ok (.ifCond .lt 11, 3) := by decide +kernel
theorem dX8_fetch_4 : decode cX8_fetch 4 = .ok (.iload_n 1, 1) := by decide +kernel
theorem dX8_fetch_5 : decode cX8_fetch 5 = .ok (.aload_n 0, 1) := by decide +kernel
theorem dX8_fetch_6 : decode cX8_fetch 6 = .ok (.getfield 15, 3) := by decide +kernel
theorem dX8_fetch_9 : decode cX8_fetch 9 = .ok (.if_icmp .lt 4, 3) := by decide +kernel
theorem dX8_fetch_12 : decode cX8_fetch 12 = .ok (.return_, 1) := by decide +kernel
theorem dX8_fetch_13 : decode cX8_fetch 13 = .ok (.iload_n 1, 1) := by decide +kernel
theorem dX8_fetch_14 : decode cX8_fetch 14 = .ok (.bipush 15, 2) := by decide +kernel
theorem dX8_fetch_16 : decode cX8_fetch 16 = .ok (.imul, 1) := by decide +kernel
theorem dX8_fetch_17 : decode cX8_fetch 17 = .ok (.istore_n 3, 1) := by decide +kernel
theorem dX8_fetch_18 : decode cX8_fetch 18 = .ok (.aload_n 0, 1) := by decide +kernel
theorem dX8_fetch_19 : decode cX8_fetch 19 = .ok (.getfield 21, 3) := by decide +kernel
theorem dX8_fetch_22 : decode cX8_fetch 22 = .ok (.iload_n 3, 1) := by decide +kernel
theorem dX8_fetch_23 : decode cX8_fetch 23 = .ok (.aload_n 2, 1) := by decide +kernel
theorem dX8_fetch_24 : decode cX8_fetch 24 = .ok (.getfield 25, 3) := by decide +kernel
theorem dX8_fetch_27 : decode cX8_fetch 27 = .ok (.iconst 0, 1) := by decide +kernel
theorem dX8_fetch_28 : decode cX8_fetch 28 = .ok (.iconst 5, 1) := by decide +kernel
theorem dX8_fetch_29 : decode cX8_fetch 29 = .ok (.invokestatic 30, 3) := by decide +kernel
theorem dX8_fetch_32 : decode cX8_fetch 32 = .ok (.aload_n 0, 1) := by decide +kernel
theorem dX8_fetch_33 : decode cX8_fetch 33 = .ok (.getfield 21, 3) := by decide +kernel
theorem dX8_fetch_36 : decode cX8_fetch 36 = .ok (.iload_n 3, 1) := by decide +kernel
theorem dX8_fetch_37 : decode cX8_fetch 37 = .ok (.iconst 5, 1) := by decide +kernel
theorem dX8_fetch_38 : decode cX8_fetch 38 = .ok (.iadd, 1) := by decide +kernel
theorem dX8_fetch_39 : decode cX8_fetch 39 = .ok (.aload_n 2, 1) := by decide +kernel
theorem dX8_fetch_40 : decode cX8_fetch 40 = .ok (.getfield 36, 3) := by decide +kernel
theorem dX8_fetch_43 : decode cX8_fetch 43 = .ok (.iconst 0, 1) := by decide +kernel
theorem dX8_fetch_44 : decode cX8_fetch 44 = .ok (.iconst 5, 1) := by decide +kernel
theorem dX8_fetch_45 : decode cX8_fetch 45 = .ok (.invokestatic 30, 3) := by decide +kernel
theorem dX8_fetch_48 : decode cX8_fetch 48 = .ok (.aload_n 0, 1) := by decide +kernel
theorem dX8_fetch_49 : decode cX8_fetch 49 = .ok (.getfield 21, 3) := by decide +kernel
theorem dX8_fetch_52 : decode cX8_fetch 52 = .ok (.iload_n 3, 1) := by decide +kernel
theorem dX8_fetch_53 : decode cX8_fetch 53 = .ok (.bipush 10, 2) := by decide +kernel
theorem dX8_fetch_55 : decode cX8_fetch 55 = .ok (.iadd, 1) := by decide +kernel
theorem dX8_fetch_56 : decode cX8_fetch 56 = .ok (.aload_n 2, 1) := by decide +kernel
theorem dX8_fetch_57 : decode cX8_fetch 57 = .ok (.getfield 39, 3) := by decide +kernel
theorem dX8_fetch_60 : decode cX8_fetch 60 = .ok (.iconst 0, 1) := by decide +kernel
theorem dX8_fetch_61 : decode cX8_fetch 61 = .ok (.iconst 4, 1) := by decide +kernel
theorem dX8_fetch_62 : decode cX8_fetch 62 = .ok (.invokestatic 30, 3) := by decide +kernel
theorem dX8_fetch_65 : decode cX8_fetch 65 = .ok (.aload_n 2, 1) := by decide +kernel
theorem dX8_fetch_66 : decode cX8_fetch 66 = .ok (.aload_n 0, 1) := by decide +kernel
theorem dX8_fetch_67 : decode cX8_fetch 67 = .ok (.getfield 21, 3) := by decide +kernel
theorem dX8_fetch_70 : decode cX8_fetch 70 = .ok (.iload_n 3, 1) := by decide +kernel
theorem dX8_fetch_71 : decode cX8_fetch 71 = .ok (.bipush 15, 2) := by decide +kernel
theorem dX8_fetch_73 : decode cX8_fetch 73 = .ok (.iadd, 1) := by decide +kernel
theorem dX8_fetch_74 : decode cX8_fetch 74 = .ok (.iconst 1, 1) := by decide +kernel
theorem dX8_fetch_75 : decode cX8_fetch 75 = .ok (.isub, 1) := by decide +kernel
theorem dX8_fetch_76 : decode cX8_fetch 76 = .ok (.iaload, 1) := by decide +kernel
theorem dX8_fetch_77 : decode cX8_fetch 77 = .ok (.putfield 42, 3) := by decide +kernel
theorem dX8_fetch_80 : decode cX8_fetch 80 = .ok (.return_, 1) := by decide +kernel
