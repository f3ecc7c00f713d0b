theorem dX11_tip_44 : decode cX11_tip 44 = .ok (.iconst 0, 1) := by decide +kernel
theorem dX11_tip_45 : decode cX11_tip 45 = .ok (.iload_n 1, 1) := by decide +kernel
theorem dX11_tip_46 : decode cX11_tip 46 = .ok (.iload_n 2, 1) := by decide +kernel
theorem dX11_tip_47 : decode cX11_tip 47 = .ok (.invokevirtual 155, 3) := by decide +kernel
theorem dX11_tip_50 : decode cX11_tip 50 = .ok (.ireturn, 1) := by decide +kernel
theorem dX11_hour_0 : decode cX11_hour 0 = .ok (.aload_n 0, 1) := by decide +kernel
theorem dX11_hour_1 : decode cX11_hour 1 = .ok (.invokevirtual 145, 3) := by decide +kernel
theorem dX11_hour_4 : decode cX11_hour 4 = .ok (.aload_n 0, 1) := by decide +kernel
theorem dX11_hour_5 : decode cX11_hour 5 = .ok (.iconst 0, 1) := by decide +kernel
theorem dX11_hour_6 : decode cX11_hour 6 = .ok (.invokevirtual 158, 3) := by decide +kernel
theorem dX11_hour_9 : decode cX11_hour 9 = .ok (.aload_n 0, 1) := by decide +kernel
theorem dX11_hour_10 : decode cX11_hour 10 = .ok (.iconst 0, 1) := by decide +kernel
theorem dX11_hour_11 : decode cX11_hour 11 = .ok (.invokevirtual 161, 3) := by decide +kernel
theorem dX11_hour_14 : decode cX11_hour 14 = .ok (.ireturn, 1) := by decide +kernel
theorem dX11_undo_0 : decode cX11_undo 0 = .ok (.aload_n 0, 1) := by decide +kernel
theorem dX11_undo_1 : decode cX11_undo 1 = .ok (.getfield 108, 3) := by decide +kernel
theorem dX11_undo_4 : decode cX11_undo 4 = .ok (.ifCond .ne 6, 3) := by decide +kernel
theorem dX11_undo_7 : decode cX11_undo 7 = .ok (.bipush (-3), 2) := by decide +kernel
theorem dX11_undo_9 : decode cX11_undo 9 = .ok (.ireturn, 1) := by decide +kernel
theorem dX11_undo_10 : decode cX11_undo 10 = .ok (.aload_n 0, 1) := by decide +kernel
theorem dX11_undo_11 : decode cX11_undo 11 = .ok (.dup, 1) := by decide +kernel
theorem dX11_undo_12 : decode cX11_undo 12 = .ok (.getfield 108, 3) := by decide +kernel
theorem dX11_undo_15 : decode cX11_undo 15 = .ok (.iconst 1, 1) := by decide +kernel
theorem dX11_undo_16 : decode cX11_undo 16 = .ok (.isub, 1) := by decide +kernel
theorem dX11_undo_17 : decode cX11_undo 17 = .ok (.putfield 108, 3) := by decide +kernel
theorem dX11_undo_20 : decode cX11_undo 20 = .ok (.aload_n 0, 1) := by decide +kernel
theorem dX11_undo_21 : decode cX11_undo 21 = .ok (.aload_n 0, 1) := by decide +kernel
theorem dX11_undo_22 : decode cX11_undo 22 = .ok (.getfield 139, 3) := by decide +kernel
theorem dX11_undo_25 : decode cX11_undo 25 = .ok (.bipush 13, 2) := by decide +kernel
theorem dX11_undo_27 : decode cX11_undo 27 = .ok (.iadd, 1) := by decide +kernel
theorem dX11_undo_28 : decode cX11_undo 28 = .ok (.bipush 14, 2) := by decide +kernel
theorem dX11_undo_30 : decode cX11_undo 30 = .ok (.irem, 1) := by decide +kernel
theorem dX11_undo_31 : decode cX11_undo 31 = .ok (.putfield 139, 3) := by decide +kernel
theorem dX11_undo_34 : decode cX11_undo 34 = .ok (.iconst 0, 1) := by decide +kernel
theorem dX11_undo_35 : decode cX11_undo 35 = .ok (.istore_n 1, 1) := by decide +kernel
theorem dX11_undo_36 : decode cX11_undo 36 = .ok (.iload_n 1, 1) := by decide +kernel
theorem dX11_undo_37 : decode cX11_undo 37 = .ok (.bipush 15, 2) := by decide +kernel
theorem dX11_undo_39 : decode cX11_undo 39 = .ok (.if_icmp .ge 29, 3) := by decide +kernel
theorem dX11_undo_42 : decode cX11_undo 42 = .ok (.aload_n 0, 1) := by decide +kernel
theorem dX11_undo_43 : decode cX11_undo 43 = .ok (.getfield 22, 3) := by decide +kernel
theorem dX11_undo_46 : decode cX11_undo 46 = .ok (.iload_n 1, 1) := by decide +kernel
theorem dX11_undo_47 : decode cX11_undo 47 = .ok (.aload_n 0, 1) := by decide +kernel
theorem dX11_undo_48 : decode cX11_undo 48 = .ok (.getfield 37, 3) := by decide +kernel
theorem dX11_undo_51 : decode cX11_undo 51 = .ok (.bipush 15, 2) := by decide +kernel
theorem dX11_undo_53 : decode cX11_undo 53 = .ok (.aload_n 0, 1) := by decide +kernel
theorem dX11_undo_54 : decode cX11_undo 54 = .ok (.getfield 139, 3) := by decide +kernel
theorem dX11_undo_57 : decode cX11_undo 57 = .ok (.imul, 1) := by decide +kernel
theorem dX11_undo_58 : decode cX11_undo 58 = .ok (.iload_n 1, 1) := by decide +kernel
theorem dX11_undo_59 : decode cX11_undo 59 = .ok (.iadd, 1) := by decide +kernel
theorem dX11_undo_60 : decode cX11_undo 60 = .ok (.iaload, 1) := by decide +kernel
theorem dX11_undo_61 : decode cX11_undo 61 = .ok (.iastore, 1) := by decide +kernel
theorem dX11_undo_62 : decode cX11_undo 62 = .ok (.iinc 1 1, 3) := by decide +kernel
theorem dX11_undo_65 : decode cX11_undo 65 = .ok (.goto (-29), 3) := by decide +kernel
theorem dX11_undo_68 : decode cX11_undo 68 = .ok (.aload_n 0, 1) := by decide +kernel
theorem dX11_undo_69 : decode cX11_undo 69 = .ok (.getfield 108, 3) := by decide +kernel
theorem dX11_undo_72 : decode cX11_undo 72 = .ok (.ireturn, 1) := by decide +kernel
theorem dX11_layTrial_0 : decode cX11_layTrial 0 = .ok (.iconst 0, 1) := by decide +kernel
theorem dX11_layTrial_1 : decode cX11_layTrial 1 = .ok (.istore_n 1, 1) := by decide +kernel
theorem dX11_layTrial_2 : decode cX11_layTrial 2 = .ok (.iload_n 1, 1) := by decide +kernel
theorem dX11_layTrial_3 : decode cX11_layTrial 3 = .ok (.bipush 15, 2) := by decide +kernel
theorem dX11_layTrial_5 : decode cX11_layTrial 5 = .ok (.if_icmp .ge 24, 3) := by decide +kernel
theorem dX11_layTrial_8 : decode cX11_layTrial 8 = .ok (.aload_n 0, 1) := by decide +kernel
theorem dX11_layTrial_9 : decode cX11_layTrial 9 = .ok (.getfield 22, 3) := by decide +kernel
theorem dX11_layTrial_12 : decode cX11_layTrial 12 = .ok (.bipush 15, 2) := by decide +kernel
theorem dX11_layTrial_14 : decode cX11_layTrial 14 = .ok (.iload_n 1, 1) := by decide +kernel
theorem dX11_layTrial_15 : decode cX11_layTrial 15 = .ok (.iadd, 1) := by decide +kernel
theorem dX11_layTrial_16 : decode cX11_layTrial 16 = .ok (.aload_n 0, 1) := by decide +kernel
theorem dX11_layTrial_17 : decode cX11_layTrial 17 = .ok (.getfield 22, 3) := by decide +kernel
theorem dX11_layTrial_20 : decode cX11_layTrial 20 = .ok (.iload_n 1, 1) := by decide +kernel
theorem dX11_layTrial_21 : decode cX11_layTrial 21 = .ok (.iaload, 1) := by decide +kernel
theorem dX11_layTrial_22 : decode cX11_layTrial 22 = .ok (.iastore, 1) := by decide +kernel
theorem dX11_layTrial_23 : decode cX11_layTrial 23 = .ok (.iinc 1 1, 3) := by decide +kernel
theorem dX11_layTrial_26 : decode cX11_layTrial 26 = .ok (.goto (-24), 3) := by decide +kernel
theorem dX11_layTrial_29 : decode cX11_layTrial 29 = .ok (.return_, 1) := by decide +kernel
theorem dX11_left_0 : decode cX11_left 0 = .ok (.aload_n 0, 1) := by decide +kernel
theorem dX11_left_1 : decode cX11_left 1 = .ok (.iload_n 1, 1) := by decide +kernel
theorem dX11_left_2 : decode cX11_left 2 = .ok (.invokevirtual 126, 3) := by decide +kernel
theorem dX11_left_5 : decode cX11_left 5 = .ok (.ifCond .ne 5, 3) := by decide +kernel
theorem dX11_left_8 : decode cX11_left 8 = .ok (.iconst (-1), 1) := by decide +kernel
theorem dX11_left_9 : decode cX11_left 9 = .ok (.ireturn, 1) := by decide +kernel
theorem dX11_left_10 : decode cX11_left 10 = .ok (.aload_n 0, 1) := by decide +kernel
theorem dX11_left_11 : decode cX11_left 11 = .ok (.invokevirtual 164, 3) := by decide +kernel
theorem dX11_left_14 : decode cX11_left 14 = .ok (.aload_n 0, 1) := by decide +kernel
theorem dX11_left_15 : decode cX11_left 15 = .ok (.iconst 1, 1) := by decide +kernel
theorem dX11_left_16 : decode cX11_left 16 = .ok (.bipush 15, 2) := by decide +kernel
theorem dX11_left_18 : decode cX11_left 18 = .ok (.invokevirtual 167, 3) := by decide +kernel
theorem dX11_left_21 : decode cX11_left 21 = .ok (.aload_n 0, 1) := by decide +kernel
theorem dX11_left_22 : decode cX11_left 22 = .ok (.getfield 22, 3) := by decide +kernel
theorem dX11_left_25 : decode cX11_left 25 = .ok (.bipush 15, 2) := by decide +kernel
theorem dX11_left_27 : decode cX11_left 27 = .ok (.iload_n 1, 1) := by decide +kernel
theorem dX11_left_28 : decode cX11_left 28 = .ok (.iadd, 1) := by decide +kernel
theorem dX11_left_29 : decode cX11_left 29 = .ok (.iaload, 1) := by decide +kernel
theorem dX11_left_30 : decode cX11_left 30 = .ok (.ireturn, 1) := by decide +kernel
theorem dX11_evening_0 : decode cX11_evening 0 = .ok (.iload_n 1, 1) := by decide +kernel
theorem dX11_evening_1 : decode cX11_evening 1 = .ok (.i2l, 1) := by decide +kernel
theorem dX11_evening_2 : decode cX11_evening 2 = .ok (.lconst 0, 1) := by decide +kernel
theorem dX11_evening_3 : decode cX11_evening 3 = .ok (.lconst 1, 1) := by decide +kernel
theorem dX11_evening_4 : decode cX11_evening 4 = .ok (.invokestatic 62, 3) := by decide +kernel
theorem dX11_evening_7 : decode cX11_evening 7 = .ok (.ifCond .ne 6, 3) := by decide +kernel
theorem dX11_evening_10 : decode cX11_evening 10 = .ok (.bipush (-2), 2) := by decide +kernel
theorem dX11_evening_12 : decode cX11_evening 12 = .ok (.ireturn, 1) := by decide +kernel
theorem dX11_evening_13 : decode cX11_evening 13 = .ok (.aload_n 0, 1) := by decide +kernel
theorem dX11_evening_14 : decode cX11_evening 14 = .ok (.invokevirtual 164, 3) := by decide +kernel
theorem dX11_evening_17 : decode cX11_evening 17 = .ok (.aload_n 0, 1) := by decide +kernel
theorem dX11_evening_18 : decode cX11_evening 18 = .ok (.iconst 1, 1) := by decide +kernel
theorem dX11_evening_19 : decode cX11_evening 19 = .ok (.bipush 15, 2) := by decide +kernel
theorem dX11_evening_21 : decode cX11_evening 21 = .ok (.invokevirtual 167, 3) := by decide +kernel
theorem dX11_evening_24 : decode cX11_evening 24 = .ok (.iload_n 1, 1) := by decide +kernel
theorem dX11_evening_25 : decode cX11_evening 25 = .ok (.ifCond .ne 11, 3) := by decide +kernel
theorem dX11_evening_28 : decode cX11_evening 28 = .ok (.aload_n 0, 1) := by decide +kernel
theorem dX11_evening_29 : decode cX11_evening 29 = .ok (.iconst 1, 1) := by decide +kernel
theorem dX11_evening_30 : decode cX11_evening 30 = .ok (.invokevirtual 161, 3) := by decide +kernel
theorem dX11_evening_33 : decode cX11_evening 33 = .ok (.goto 9, 3) := by decide +kernel
theorem dX11_evening_36 : decode cX11_evening 36 = .ok (.aload_n 0, 1) := by decide +kernel
theorem dX11_evening_37 : decode cX11_evening 37 = .ok (.iconst 1, 1) := by decide +kernel
theorem dX11_evening_38 : decode cX11_evening 38 = .ok (.iconst 1, 1) := by decide +kernel
theorem dX11_evening_39 : decode cX11_evening 39 = .ok (.invokevirtual 170, 3) := by decide +kernel
theorem dX11_evening_42 : decode cX11_evening 42 = .ok (.ireturn, 1) := by decide +kernel
theorem dX11_tenTo_0 : decode cX11_tenTo 0 = .ok (.iconst 1, 1) := by decide +kernel
theorem dX11_tenTo_1 : decode cX11_tenTo 1 = .ok (.istore_n 1, 1) := by decide +kernel
theorem dX11_tenTo_2 : decode cX11_tenTo 2 = .ok (.iconst 0, 1) := by decide +kernel
theorem dX11_tenTo_3 : decode cX11_tenTo 3 = .ok (.istore_n 2, 1) := by decide +kernel
theorem dX11_tenTo_4 : decode cX11_tenTo 4 = .ok (.iload_n 2, 1) := by decide +kernel
theorem dX11_tenTo_5 : decode cX11_tenTo 5 = .ok (.iload_n 0, 1) := by decide +kernel
theorem dX11_tenTo_6 : decode cX11_tenTo 6 = .ok (.if_icmp .ge 14, 3) := by decide +kernel
theorem dX11_tenTo_9 : decode cX11_tenTo 9 = .ok (.iload_n 1, 1) := by decide +kernel
theorem dX11_tenTo_10 : decode cX11_tenTo 10 = .ok (.bipush 10, 2) := by decide +kernel
theorem dX11_tenTo_12 : decode cX11_tenTo 12 = .ok (.imul, 1) := by decide +kernel
theorem dX11_tenTo_13 : decode cX11_tenTo 13 = .ok (.istore_n 1, 1) := by decide +kernel
theorem dX11_tenTo_14 : decode cX11_tenTo 14 = .ok (.iinc 2 1, 3) := by decide +kernel
theorem dX11_tenTo_17 : decode cX11_tenTo 17 = .ok (.goto (-13), 3) := by decide +kernel
theorem dX11_tenTo_20 : decode cX11_tenTo 20 = .ok (.iload_n 1, 1) := by decide +kernel
theorem dX11_tenTo_21 : decode cX11_tenTo 21 = .ok (.ireturn, 1) := by decide +kernel
theorem dX11_figuresSum_0 : decode cX11_figuresSum 0 = .ok (.iconst 0, 1) := by decide +kernel
theorem dX11_figuresSum_1 : decode cX11_figuresSum 1 = .ok (.istore_n 1, 1) := by decide +kernel
theorem dX11_figuresSum_2 : decode cX11_figuresSum 2 = .ok (.iload_n 0, 1) := by decide +kernel
theorem dX11_figuresSum_3 : decode cX11_figuresSum 3 = .ok (.istore_n 2, 1) := by decide +kernel
theorem dX11_figuresSum_4 : decode cX11_figuresSum 4 = .ok (.iload_n 2, 1) := by decide +kernel
theorem dX11_figuresSum_5 : decode cX11_figuresSum 5 = .ok (.ifCond .le 18, 3) := by decide +kernel
theorem dX11_figuresSum_8 : decode cX11_figuresSum 8 = .ok (.iload_n 1, 1) := by decide +kernel
theorem dX11_figuresSum_9 : decode cX11_figuresSum 9 = .ok (.iload_n 2, 1) := by decide +kernel
theorem dX11_figuresSum_10 : decode cX11_figuresSum 10 = .ok (.bipush 10, 2) := by decide +kernel
theorem dX11_figuresSum_12 : decode cX11_figuresSum 12 = .ok (.irem, 1) := by decide +kernel
theorem dX11_figuresSum_13 : decode cX11_figuresSum 13 = .ok (.iadd, 1) := by decide +kernel
theorem dX11_figuresSum_14 : decode cX11_figuresSum 14 = .ok (.istore_n 1, 1) := by decide +kernel
theorem dX11_figuresSum_15 : decode cX11_figuresSum 15 = .ok (.iload_n 2, 1) := by decide +kernel
theorem dX11_figuresSum_16 : decode cX11_figuresSum 16 = .ok (.bipush 10, 2) := by decide +kernel
theorem dX11_figuresSum_18 : decode cX11_figuresSum 18 = .ok (.idiv, 1) := by decide +kernel
theorem dX11_figuresSum_19 : decode cX11_figuresSum 19 = .ok (.istore_n 2, 1) := by decide +kernel
theorem dX11_figuresSum_20 : decode cX11_figuresSum 20 = .ok (.goto (-16), 3) := by decide +kernel
theorem dX11_figuresSum_23 : decode cX11_figuresSum 23 = .ok (.iload_n 1, 1) := by decide +kernel
theorem dX11_figuresSum_24 : decode cX11_figuresSum 24 = .ok (.ireturn, 1) := by decide +kernel
theorem dX11_taxesBy_0 : decode cX11_taxesBy 0 = .ok (.aload_n 0, 1) := by decide +kernel
theorem dX11_taxesBy_1 : decode cX11_taxesBy 1 = .ok (.invokevirtual 164, 3) := by decide +kernel
theorem dX11_taxesBy_4 : decode cX11_taxesBy 4 = .ok (.iload_n 1, 1) := by decide +kernel
theorem dX11_taxesBy_5 : decode cX11_taxesBy 5 = .ok (.istore_n 2, 1) := by decide +kernel
theorem dX11_taxesBy_6 : decode cX11_taxesBy 6 = .ok (.aload_n 0, 1) := by decide +kernel
theorem dX11_taxesBy_7 : decode cX11_taxesBy 7 = .ok (.getfield 56, 3) := by decide +kernel
theorem dX11_taxesBy_10 : decode cX11_taxesBy 10 = .ok (.iconst 1, 1) := by decide +kernel
theorem dX11_taxesBy_11 : decode cX11_taxesBy 11 = .ok (.isub, 1) := by decide +kernel
theorem dX11_taxesBy_12 : decode cX11_taxesBy 12 = .ok (.istore_n 3, 1) := by decide +kernel
theorem dX11_taxesBy_13 : decode cX11_taxesBy 13 = .ok (.iload_n 3, 1) := by decide +kernel
theorem dX11_taxesBy_14 : decode cX11_taxesBy 14 = .ok (.ifCond .lt 48, 3) := by decide +kernel
theorem dX11_taxesBy_17 : decode cX11_taxesBy 17 = .ok (.iload_n 2, 1) := by decide +kernel
theorem dX11_taxesBy_18 : decode cX11_taxesBy 18 = .ok (.bipush 10, 2) := by decide +kernel
theorem dX11_taxesBy_20 : decode cX11_taxesBy 20 = .ok (.irem, 1) := by decide +kernel
theorem dX11_taxesBy_21 : decode cX11_taxesBy 21 = .ok (.istore 4, 2) := by decide +kernel
theorem dX11_taxesBy_23 : decode cX11_taxesBy 23 = .ok (.iload 4, 2) := by decide +kernel
theorem dX11_taxesBy_25 : decode cX11_taxesBy 25 = .ok (.aload_n 0, 1) := by decide +kernel
theorem dX11_taxesBy_26 : decode cX11_taxesBy 26 = .ok (.iconst 1, 1) := by decide +kernel
theorem dX11_taxesBy_27 : decode cX11_taxesBy 27 = .ok (.iload_n 3, 1) := by decide +kernel
theorem dX11_taxesBy_28 : decode cX11_taxesBy 28 = .ok (.invokevirtual 142, 3) := by decide +kernel
theorem dX11_taxesBy_31 : decode cX11_taxesBy 31 = .ok (.if_icmp .le 6, 3) := by decide +kernel
theorem dX11_taxesBy_34 : decode cX11_taxesBy 34 = .ok (.bipush (-9), 2) := by decide +kernel
theorem dX11_taxesBy_36 : decode cX11_taxesBy 36 = .ok (.ireturn, 1) := by decide +kernel
theorem dX11_taxesBy_37 : decode cX11_taxesBy 37 = .ok (.iload 4, 2) := by decide +kernel
theorem dX11_taxesBy_39 : decode cX11_taxesBy 39 = .ok (.ifCond .le 12, 3) := by decide +kernel
theorem dX11_taxesBy_42 : decode cX11_taxesBy 42 = .ok (.aload_n 0, 1) := by decide +kernel
theorem dX11_taxesBy_43 : decode cX11_taxesBy 43 = .ok (.iconst 1, 1) := by decide +kernel
theorem dX11_taxesBy_44 : decode cX11_taxesBy 44 = .ok (.iload_n 3, 1) := by decide +kernel
theorem dX11_taxesBy_45 : decode cX11_taxesBy 45 = .ok (.iload 4, 2) := by decide +kernel
theorem dX11_taxesBy_47 : decode cX11_taxesBy 47 = .ok (.invokevirtual 148, 3) := by decide +kernel
theorem dX11_taxesBy_50 : decode cX11_taxesBy 50 = .ok (.pop, 1) := by decide +kernel
theorem dX11_taxesBy_51 : decode cX11_taxesBy 51 = .ok (.iload_n 2, 1) := by decide +kernel
theorem dX11_taxesBy_52 : decode cX11_taxesBy 52 = .ok (.bipush 10, 2) := by decide +kernel
theorem dX11_taxesBy_54 : decode cX11_taxesBy 54 = .ok (.idiv, 1) := by decide +kernel
theorem dX11_taxesBy_55 : decode cX11_taxesBy 55 = .ok (.istore_n 2, 1) := by decide +kernel
theorem dX11_taxesBy_56 : decode cX11_taxesBy 56 = .ok (.iinc 3 (-1), 3) := by decide +kernel
theorem dX11_taxesBy_59 : decode cX11_taxesBy 59 = .ok (.goto (-46), 3) := by decide +kernel
theorem dX11_taxesBy_62 : decode cX11_taxesBy 62 = .ok (.aload_n 0, 1) := by decide +kernel
theorem dX11_taxesBy_63 : decode cX11_taxesBy 63 = .ok (.iconst 1, 1) := by decide +kernel
theorem dX11_taxesBy_64 : decode cX11_taxesBy 64 = .ok (.bipush 15, 2) := by decide +kernel
theorem dX11_taxesBy_66 : decode cX11_taxesBy 66 = .ok (.invokevirtual 167, 3) := by decide +kernel
theorem dX11_taxesBy_69 : decode cX11_taxesBy 69 = .ok (.aload_n 0, 1) := by decide +kernel
theorem dX11_taxesBy_70 : decode cX11_taxesBy 70 = .ok (.iconst 1, 1) := by decide +kernel
theorem dX11_taxesBy_71 : decode cX11_taxesBy 71 = .ok (.invokevirtual 161, 3) := by decide +kernel
theorem dX11_taxesBy_74 : decode cX11_taxesBy 74 = .ok (.ireturn, 1) := by decide +kernel
theorem dX11_pouring_0 : decode cX11_pouring 0 = .ok (.iload_n 1, 1) := by decide +kernel
theorem dX11_pouring_1 : decode cX11_pouring 1 = .ok (.i2l, 1) := by decide +kernel
theorem dX11_pouring_2 : decode cX11_pouring 2 = .ok (.lconst 0, 1) := by decide +kernel
theorem dX11_pouring_3 : decode cX11_pouring 3 = .ok (.ldc2_w 75, 3) := by decide +kernel
theorem dX11_pouring_6 : decode cX11_pouring 6 = .ok (.invokestatic 62, 3) := by decide +kernel
theorem dX11_pouring_9 : decode cX11_pouring 9 = .ok (.ifCond .ne 6, 3) := by decide +kernel
theorem dX11_pouring_12 : decode cX11_pouring 12 = .ok (.bipush (-2), 2) := by decide +kernel
theorem dX11_pouring_14 : decode cX11_pouring 14 = .ok (.ireturn, 1) := by decide +kernel
theorem dX11_pouring_15 : decode cX11_pouring 15 = .ok (.bipush (-9), 2) := by decide +kernel
theorem dX11_pouring_17 : decode cX11_pouring 17 = .ok (.istore_n 3, 1) := by decide +kernel
theorem dX11_pouring_18 : decode cX11_pouring 18 = .ok (.bipush (-9), 2) := by decide +kernel
theorem dX11_pouring_20 : decode cX11_pouring 20 = .ok (.istore 4, 2) := by decide +kernel
theorem dX11_pouring_22 : decode cX11_pouring 22 = .ok (.iload_n 1, 1) := by decide +kernel
theorem dX11_pouring_23 : decode cX11_pouring 23 = .ok (.istore 5, 2) := by decide +kernel
theorem dX11_pouring_25 : decode cX11_pouring 25 = .ok (.iload 5, 2) := by decide +kernel
theorem dX11_pouring_27 : decode cX11_pouring 27 = .ok (.aload_n 0, 1) := by decide +kernel
theorem dX11_pouring_28 : decode cX11_pouring 28 = .ok (.getfield 56, 3) := by decide +kernel
theorem dX11_pouring_31 : decode cX11_pouring 31 = .ok (.invokestatic 174, 3) := by decide +kernel
theorem dX11_pouring_34 : decode cX11_pouring 34 = .ok (.if_icmp .ge 83, 3) := by decide +kernel
theorem dX11_pouring_37 : decode cX11_pouring 37 = .ok (.iload 5, 2) := by decide +kernel
theorem dX11_pouring_39 : decode cX11_pouring 39 = .ok (.invokestatic 177, 3) := by decide +kernel
theorem dX11_pouring_42 : decode cX11_pouring 42 = .ok (.iload_n 1, 1) := by decide +kernel
theorem dX11_pouring_43 : decode cX11_pouring 43 = .ok (.if_icmp .ne 12, 3) := by decide +kernel
theorem dX11_pouring_46 : decode cX11_pouring 46 = .ok (.aload_n 0, 1) := by decide +kernel
theorem dX11_pouring_47 : decode cX11_pouring 47 = .ok (.iload 5, 2) := by decide +kernel
theorem dX11_pouring_49 : decode cX11_pouring 49 = .ok (.invokevirtual 180, 3) := by decide +kernel
theorem dX11_pouring_52 : decode cX11_pouring 52 = .ok (.goto 5, 3) := by decide +kernel
theorem dX11_pouring_55 : decode cX11_pouring 55 = .ok (.bipush (-9), 2) := by decide +kernel
theorem dX11_pouring_57 : decode cX11_pouring 57 = .ok (.istore 6, 2) := by decide +kernel
theorem dX11_pouring_59 : decode cX11_pouring 59 = .ok (.iload 6, 2) := by decide +kernel
theorem dX11_pouring_61 : decode cX11_pouring 61 = .ok (.bipush (-9), 2) := by decide +kernel
theorem dX11_pouring_63 : decode cX11_pouring 63 = .ok (.if_icmp .eq 19, 3) := by decide +kernel
theorem dX11_pouring_66 : decode cX11_pouring 66 = .ok (.iload_n 3, 1) := by decide +kernel
theorem dX11_pouring_67 : decode cX11_pouring 67 = .ok (.bipush (-9), 2) := by decide +kernel
theorem dX11_pouring_69 : decode cX11_pouring 69 = .ok (.if_icmp .eq 9, 3) := by decide +kernel
theorem dX11_pouring_72 : decode cX11_pouring 72 = .ok (.iload 6, 2) := by decide +kernel
theorem dX11_pouring_74 : decode cX11_pouring 74 = .ok (.iload_n 3, 1) := by decide +kernel
theorem dX11_pouring_75 : decode cX11_pouring 75 = .ok (.if_icmp .ge 7, 3) := by decide +kernel
theorem dX11_pouring_78 : decode cX11_pouring 78 = .ok (.iconst 1, 1) := by decide +kernel
theorem dX11_pouring_79 : decode cX11_pouring 79 = .ok (.goto 4, 3) := by decide +kernel
theorem dX11_pouring_82 : decode cX11_pouring 82 = .ok (.iconst 0, 1) := by decide +kernel
theorem dX11_pouring_83 : decode cX11_pouring 83 = .ok (.istore 7, 2) := by decide +kernel
theorem dX11_pouring_85 : decode cX11_pouring 85 = .ok (.iload 7, 2) := by decide +kernel
theorem dX11_pouring_87 : decode cX11_pouring 87 = .ok (.ifCond .eq 8, 3) := by decide +kernel
theorem dX11_pouring_90 : decode cX11_pouring 90 = .ok (.iload 5, 2) := by decide +kernel
theorem dX11_pouring_92 : decode cX11_pouring 92 = .ok (.goto 5, 3) := by decide +kernel
theorem dX11_pouring_95 : decode cX11_pouring 95 = .ok (.iload 4, 2) := by decide +kernel
theorem dX11_pouring_97 : decode cX11_pouring 97 = .ok (.istore 4, 2) := by decide +kernel
theorem dX11_pouring_99 : decode cX11_pouring 99 = .ok (.iload 7, 2) := by decide +kernel
theorem dX11_pouring_101 : decode cX11_pouring 101 = .ok (.ifCond .eq 8, 3) := by decide +kernel
theorem dX11_pouring_104 : decode cX11_pouring 104 = .ok (.iload 6, 2) := by decide +kernel
theorem dX11_pouring_106 : decode cX11_pouring 106 = .ok (.goto 4, 3) := by decide +kernel
theorem dX11_pouring_109 : decode cX11_pouring 109 = .ok (.iload_n 3, 1) := by decide +kernel
theorem dX11_pouring_110 : decode cX11_pouring 110 = .ok (.istore_n 3, 1) := by decide +kernel
theorem dX11_pouring_111 : decode cX11_pouring 111 = .ok (.iinc 5 9, 3) := by decide +kernel
theorem dX11_pouring_114 : decode cX11_pouring 114 = .ok (.goto (-89), 3) := by decide +kernel
theorem dX11_pouring_117 : decode cX11_pouring 117 = .ok (.iload_n 2, 1) := by decide +kernel
theorem dX11_pouring_118 : decode cX11_pouring 118 = .ok (.ifCond .eq 8, 3) := by decide +kernel
theorem dX11_pouring_121 : decode cX11_pouring 121 = .ok (.iload 4, 2) := by decide +kernel
theorem dX11_pouring_123 : decode cX11_pouring 123 = .ok (.goto 4, 3) := by decide +kernel
theorem dX11_pouring_126 : decode cX11_pouring 126 = .ok (.iload_n 3, 1) := by decide +kernel
theorem dX11_pouring_127 : decode cX11_pouring 127 = .ok (.ireturn, 1) := by decide +kernel
theorem dX11_wake_0 : decode cX11_wake 0 = .ok (.bipush (-9), 2) := by decide +kernel
theorem dX11_wake_2 : decode cX11_wake 2 = .ok (.istore_n 1, 1) := by decide +kernel
theorem dX11_wake_3 : decode cX11_wake 3 = .ok (.iconst 0, 1) := by decide +kernel
theorem dX11_wake_4 : decode cX11_wake 4 = .ok (.istore_n 2, 1) := by decide +kernel
theorem dX11_wake_5 : decode cX11_wake 5 = .ok (.iload_n 2, 1) := by decide +kernel
theorem dX11_wake_6 : decode cX11_wake 6 = .ok (.iconst 1, 1) := by decide +kernel
theorem dX11_wake_7 : decode cX11_wake 7 = .ok (.aload_n 0, 1) := by decide +kernel
theorem dX11_wake_8 : decode cX11_wake 8 = .ok (.getfield 56, 3) := by decide +kernel
theorem dX11_wake_11 : decode cX11_wake 11 = .ok (.ishl, 1) := by decide +kernel
theorem dX11_wake_12 : decode cX11_wake 12 = .ok (.if_icmp .ge 105, 3) := by decide +kernel
theorem dX11_wake_15 : decode cX11_wake 15 = .ok (.iload_n 1, 1) := by decide +kernel
theorem dX11_wake_16 : decode cX11_wake 16 = .ok (.bipush (-9), 2) := by decide +kernel
theorem dX11_wake_18 : decode cX11_wake 18 = .ok (.if_icmp .eq 14, 3) := by decide +kernel
theorem dX11_wake_21 : decode cX11_wake 21 = .ok (.iload_n 2, 1) := by decide +kernel
theorem dX11_wake_22 : decode cX11_wake 22 = .ok (.invokestatic 183, 3) := by decide +kernel
theorem dX11_wake_25 : decode cX11_wake 25 = .ok (.iload_n 1, 1) := by decide +kernel
theorem dX11_wake_26 : decode cX11_wake 26 = .ok (.invokestatic 183, 3) := by decide +kernel
theorem dX11_wake_29 : decode cX11_wake 29 = .ok (.if_icmp .ge 82, 3) := by decide +kernel
theorem dX11_wake_32 : decode cX11_wake 32 = .ok (.aload_n 0, 1) := by decide +kernel
theorem dX11_wake_33 : decode cX11_wake 33 = .ok (.invokevirtual 164, 3) := by decide +kernel
theorem dX11_wake_36 : decode cX11_wake 36 = .ok (.iconst 0, 1) := by decide +kernel
theorem dX11_wake_37 : decode cX11_wake 37 = .ok (.istore_n 3, 1) := by decide +kernel
theorem dX11_wake_38 : decode cX11_wake 38 = .ok (.iload_n 3, 1) := by decide +kernel
theorem dX11_wake_39 : decode cX11_wake 39 = .ok (.aload_n 0, 1) := by decide +kernel
theorem dX11_wake_40 : decode cX11_wake 40 = .ok (.getfield 56, 3) := by decide +kernel
theorem dX11_wake_43 : decode cX11_wake 43 = .ok (.if_icmp .ge 46, 3) := by decide +kernel
theorem dX11_wake_46 : decode cX11_wake 46 = .ok (.aload_n 0, 1) := by decide +kernel
theorem dX11_wake_47 : decode cX11_wake 47 = .ok (.getfield 22, 3) := by decide +kernel
theorem dX11_wake_50 : decode cX11_wake 50 = .ok (.bipush 15, 2) := by decide +kernel
theorem dX11_wake_52 : decode cX11_wake 52 = .ok (.iload_n 3, 1) := by decide +kernel
theorem dX11_wake_53 : decode cX11_wake 53 = .ok (.iadd, 1) := by decide +kernel
theorem dX11_wake_54 : decode cX11_wake 54 = .ok (.iload_n 2, 1) := by decide +kernel
theorem dX11_wake_55 : decode cX11_wake 55 = .ok (.iload_n 3, 1) := by decide +kernel
theorem dX11_wake_56 : decode cX11_wake 56 = .ok (.invokestatic 77, 3) := by decide +kernel
theorem dX11_wake_59 : decode cX11_wake 59 = .ok (.ifCond .eq 12, 3) := by decide +kernel
theorem dX11_wake_62 : decode cX11_wake 62 = .ok (.aload_n 0, 1) := by decide +kernel
theorem dX11_wake_63 : decode cX11_wake 63 = .ok (.getfield 7, 3) := by decide +kernel
theorem dX11_wake_66 : decode cX11_wake 66 = .ok (.iload_n 3, 1) := by decide +kernel
theorem dX11_wake_67 : decode cX11_wake 67 = .ok (.iaload, 1) := by decide +kernel
theorem dX11_wake_68 : decode cX11_wake 68 = .ok (.goto 4, 3) := by decide +kernel
theorem dX11_wake_71 : decode cX11_wake 71 = .ok (.iconst 0, 1) := by decide +kernel
theorem dX11_wake_72 : decode cX11_wake 72 = .ok (.iastore, 1) := by decide +kernel
theorem dX11_wake_73 : decode cX11_wake 73 = .ok (.aload_n 0, 1) := by decide +kernel
theorem dX11_wake_74 : decode cX11_wake 74 = .ok (.getfield 22, 3) := by decide +kernel
theorem dX11_wake_77 : decode cX11_wake 77 = .ok (.bipush 20, 2) := by decide +kernel
theorem dX11_wake_79 : decode cX11_wake 79 = .ok (.iload_n 3, 1) := by decide +kernel
theorem dX11_wake_80 : decode cX11_wake 80 = .ok (.iadd, 1) := by decide +kernel
theorem dX11_wake_81 : decode cX11_wake 81 = .ok (.iconst 0, 1) := by decide +kernel
theorem dX11_wake_82 : decode cX11_wake 82 = .ok (.iastore, 1) := by decide +kernel
theorem dX11_wake_83 : decode cX11_wake 83 = .ok (.iinc 3 1, 3) := by decide +kernel
theorem dX11_wake_86 : decode cX11_wake 86 = .ok (.goto (-48), 3) := by decide +kernel
theorem dX11_wake_89 : decode cX11_wake 89 = .ok (.aload_n 0, 1) := by decide +kernel
theorem dX11_wake_90 : decode cX11_wake 90 = .ok (.iconst 1, 1) := by decide +kernel
theorem dX11_wake_91 : decode cX11_wake 91 = .ok (.bipush 15, 2) := by decide +kernel
theorem dX11_wake_93 : decode cX11_wake 93 = .ok (.invokevirtual 167, 3) := by decide +kernel
theorem dX11_wake_96 : decode cX11_wake 96 = .ok (.aload_n 0, 1) := by decide +kernel
theorem dX11_wake_97 : decode cX11_wake 97 = .ok (.iconst 1, 1) := by decide +kernel
theorem dX11_wake_98 : decode cX11_wake 98 = .ok (.iconst 0, 1) := by decide +kernel
theorem dX11_wake_99 : decode cX11_wake 99 = .ok (.invokevirtual 170, 3) := by decide +kernel
theorem dX11_wake_102 : decode cX11_wake 102 = .ok (.ifCond .ne 7, 3) := by decide +kernel
theorem dX11_wake_105 : decode cX11_wake 105 = .ok (.iload_n 2, 1) := by decide +kernel
theorem dX11_wake_106 : decode cX11_wake 106 = .ok (.goto 4, 3) := by decide +kernel
theorem dX11_wake_109 : decode cX11_wake 109 = .ok (.iload_n 1, 1) := by decide +kernel
theorem dX11_wake_110 : decode cX11_wake 110 = .ok (.istore_n 1, 1) := by decide +kernel
theorem dX11_wake_111 : decode cX11_wake 111 = .ok (.iinc 2 1, 3) := by decide +kernel
theorem dX11_wake_114 : decode cX11_wake 114 = .ok (.goto (-109), 3) := by decide +kernel
theorem dX11_wake_117 : decode cX11_wake 117 = .ok (.iload_n 1, 1) := by decide +kernel
theorem dX11_wake_118 : decode cX11_wake 118 = .ok (.ireturn, 1) := by decide +kernel
theorem dX11_thirstBy_0 : decode cX11_thirstBy 0 = .ok (.aload_n 0, 1) := by decide +kernel
theorem dX11_thirstBy_1 : decode cX11_thirstBy 1 = .ok (.invokevirtual 164, 3) := by decide +kernel
theorem dX11_thirstBy_4 : decode cX11_thirstBy 4 = .ok (.iconst 0, 1) := by decide +kernel
theorem dX11_thirstBy_5 : decode cX11_thirstBy 5 = .ok (.istore_n 2, 1) := by decide +kernel
theorem dX11_thirstBy_6 : decode cX11_thirstBy 6 = .ok (.aload_n 0, 1) := by decide +kernel
theorem dX11_thirstBy_7 : decode cX11_thirstBy 7 = .ok (.getfield 105, 3) := by decide +kernel
theorem dX11_thirstBy_10 : decode cX11_thirstBy 10 = .ok (.iconst 1, 1) := by decide +kernel
theorem dX11_thirstBy_11 : decode cX11_thirstBy 11 = .ok (.isub, 1) := by decide +kernel
theorem dX11_thirstBy_12 : decode cX11_thirstBy 12 = .ok (.istore_n 3, 1) := by decide +kernel
theorem dX11_thirstBy_13 : decode cX11_thirstBy 13 = .ok (.iload_n 3, 1) := by decide +kernel
theorem dX11_thirstBy_14 : decode cX11_thirstBy 14 = .ok (.ifCond .lt 57, 3) := by decide +kernel
theorem dX11_thirstBy_17 : decode cX11_thirstBy 17 = .ok (.iload_n 1, 1) := by decide +kernel
theorem dX11_thirstBy_18 : decode cX11_thirstBy 18 = .ok (.iload_n 3, 1) := by decide +kernel
theorem dX11_thirstBy_19 : decode cX11_thirstBy 19 = .ok (.invokestatic 174, 3) := by decide +kernel
theorem dX11_thirstBy_22 : decode cX11_thirstBy 22 = .ok (.idiv, 1) := by decide +kernel
theorem dX11_thirstBy_23 : decode cX11_thirstBy 23 = .ok (.bipush 10, 2) := by decide +kernel
theorem dX11_thirstBy_25 : decode cX11_thirstBy 25 = .ok (.irem, 1) := by decide +kernel
theorem dX11_thirstBy_26 : decode cX11_thirstBy 26 = .ok (.iconst 1, 1) := by decide +kernel
theorem dX11_thirstBy_27 : decode cX11_thirstBy 27 = .ok (.isub, 1) := by decide +kernel
theorem dX11_thirstBy_28 : decode cX11_thirstBy 28 = .ok (.istore 4, 2) := by decide +kernel
theorem dX11_thirstBy_30 : decode cX11_thirstBy 30 = .ok (.aload_n 0, 1) := by decide +kernel
theorem dX11_thirstBy_31 : decode cX11_thirstBy 31 = .ok (.iload 4, 2) := by decide +kernel
theorem dX11_thirstBy_33 : decode cX11_thirstBy 33 = .ok (.invokevirtual 133, 3) := by decide +kernel
theorem dX11_thirstBy_36 : decode cX11_thirstBy 36 = .ok (.ifCond .eq 12, 3) := by decide +kernel
theorem dX11_thirstBy_39 : decode cX11_thirstBy 39 = .ok (.iload_n 2, 1) := by decide +kernel
theorem dX11_thirstBy_40 : decode cX11_thirstBy 40 = .ok (.iload 4, 2) := by decide +kernel
theorem dX11_thirstBy_42 : decode cX11_thirstBy 42 = .ok (.invokestatic 77, 3) := by decide +kernel
theorem dX11_thirstBy_45 : decode cX11_thirstBy 45 = .ok (.ifCond .eq 6, 3) := by decide +kernel
theorem dX11_thirstBy_48 : decode cX11_thirstBy 48 = .ok (.bipush (-9), 2) := by decide +kernel
theorem dX11_thirstBy_50 : decode cX11_thirstBy 50 = .ok (.ireturn, 1) := by decide +kernel
theorem dX11_thirstBy_51 : decode cX11_thirstBy 51 = .ok (.iload_n 2, 1) := by decide +kernel
theorem dX11_thirstBy_52 : decode cX11_thirstBy 52 = .ok (.iconst 1, 1) := by decide +kernel
theorem dX11_thirstBy_53 : decode cX11_thirstBy 53 = .ok (.iload 4, 2) := by decide +kernel
theorem dX11_thirstBy_55 : decode cX11_thirstBy 55 = .ok (.ishl, 1) := by decide +kernel
theorem dX11_thirstBy_56 : decode cX11_thirstBy 56 = .ok (.ior, 1) := by decide +kernel
theorem dX11_thirstBy_57 : decode cX11_thirstBy 57 = .ok (.istore_n 2, 1) := by decide +kernel
theorem dX11_thirstBy_58 : decode cX11_thirstBy 58 = .ok (.aload_n 0, 1) := by decide +kernel
theorem dX11_thirstBy_59 : decode cX11_thirstBy 59 = .ok (.iconst 1, 1) := by decide +kernel
theorem dX11_thirstBy_60 : decode cX11_thirstBy 60 = .ok (.iload 4, 2) := by decide +kernel
theorem dX11_thirstBy_62 : decode cX11_thirstBy 62 = .ok (.invokevirtual 118, 3) := by decide +kernel
theorem dX11_thirstBy_65 : decode cX11_thirstBy 65 = .ok (.iinc 3 (-1), 3) := by decide +kernel
theorem dX11_thirstBy_68 : decode cX11_thirstBy 68 = .ok (.goto (-55), 3) := by decide +kernel
theorem dX11_thirstBy_71 : decode cX11_thirstBy 71 = .ok (.aload_n 0, 1) := by decide +kernel
theorem dX11_thirstBy_72 : decode cX11_thirstBy 72 = .ok (.iconst 1, 1) := by decide +kernel
theorem dX11_thirstBy_73 : decode cX11_thirstBy 73 = .ok (.iconst 1, 1) := by decide +kernel
theorem dX11_thirstBy_74 : decode cX11_thirstBy 74 = .ok (.invokevirtual 170, 3) := by decide +kernel
theorem dX11_thirstBy_77 : decode cX11_thirstBy 77 = .ok (.ireturn, 1) := by decide +kernel
theorem dX11_order_0 : decode cX11_order 0 = .ok (.bipush (-9), 2) := by decide +kernel
theorem dX11_order_2 : decode cX11_order 2 = .ok (.istore_n 2, 1) := by decide +kernel
theorem dX11_order_3 : decode cX11_order 3 = .ok (.bipush (-9), 2) := by decide +kernel
theorem dX11_order_5 : decode cX11_order 5 = .ok (.istore_n 3, 1) := by decide +kernel
theorem dX11_order_6 : decode cX11_order 6 = .ok (.iconst 0, 1) := by decide +kernel
theorem dX11_order_7 : decode cX11_order 7 = .ok (.istore 4, 2) := by decide +kernel
theorem dX11_order_9 : decode cX11_order 9 = .ok (.iload 4, 2) := by decide +kernel
theorem dX11_order_11 : decode cX11_order 11 = .ok (.aload_n 0, 1) := by decide +kernel
theorem dX11_order_12 : decode cX11_order 12 = .ok (.getfield 105, 3) := by decide +kernel
theorem dX11_order_15 : decode cX11_order 15 = .ok (.invokestatic 174, 3) := by decide +kernel
theorem dX11_order_18 : decode cX11_order 18 = .ok (.if_icmp .ge 67, 3) := by decide +kernel
theorem dX11_order_21 : decode cX11_order 21 = .ok (.aload_n 0, 1) := by decide +kernel
theorem dX11_order_22 : decode cX11_order 22 = .ok (.iload 4, 2) := by decide +kernel
theorem dX11_order_24 : decode cX11_order 24 = .ok (.invokevirtual 186, 3) := by decide +kernel
theorem dX11_order_27 : decode cX11_order 27 = .ok (.istore 5, 2) := by decide +kernel
theorem dX11_order_29 : decode cX11_order 29 = .ok (.iload 5, 2) := by decide +kernel
theorem dX11_order_31 : decode cX11_order 31 = .ok (.bipush (-9), 2) := by decide +kernel
theorem dX11_order_33 : decode cX11_order 33 = .ok (.if_icmp .eq 19, 3) := by decide +kernel
theorem dX11_order_36 : decode cX11_order 36 = .ok (.iload_n 2, 1) := by decide +kernel
theorem dX11_order_37 : decode cX11_order 37 = .ok (.bipush (-9), 2) := by decide +kernel
theorem dX11_order_39 : decode cX11_order 39 = .ok (.if_icmp .eq 9, 3) := by decide +kernel
theorem dX11_order_42 : decode cX11_order 42 = .ok (.iload 5, 2) := by decide +kernel
theorem dX11_order_44 : decode cX11_order 44 = .ok (.iload_n 2, 1) := by decide +kernel
theorem dX11_order_45 : decode cX11_order 45 = .ok (.if_icmp .ge 7, 3) := by decide +kernel
theorem dX11_order_48 : decode cX11_order 48 = .ok (.iconst 1, 1) := by decide +kernel
theorem dX11_order_49 : decode cX11_order 49 = .ok (.goto 4, 3) := by decide +kernel
theorem dX11_order_52 : decode cX11_order 52 = .ok (.iconst 0, 1) := by decide +kernel
theorem dX11_order_53 : decode cX11_order 53 = .ok (.istore 6, 2) := by decide +kernel
theorem dX11_order_55 : decode cX11_order 55 = .ok (.iload 6, 2) := by decide +kernel
theorem dX11_order_57 : decode cX11_order 57 = .ok (.ifCond .eq 8, 3) := by decide +kernel
theorem dX11_order_60 : decode cX11_order 60 = .ok (.iload 4, 2) := by decide +kernel
theorem dX11_order_62 : decode cX11_order 62 = .ok (.goto 4, 3) := by decide +kernel
theorem dX11_order_65 : decode cX11_order 65 = .ok (.iload_n 3, 1) := by decide +kernel
theorem dX11_order_66 : decode cX11_order 66 = .ok (.istore_n 3, 1) := by decide +kernel
theorem dX11_order_67 : decode cX11_order 67 = .ok (.iload 6, 2) := by decide +kernel
theorem dX11_order_69 : decode cX11_order 69 = .ok (.ifCond .eq 8, 3) := by decide +kernel
theorem dX11_order_72 : decode cX11_order 72 = .ok (.iload 5, 2) := by decide +kernel
theorem dX11_order_74 : decode cX11_order 74 = .ok (.goto 4, 3) := by decide +kernel
theorem dX11_order_77 : decode cX11_order 77 = .ok (.iload_n 2, 1) := by decide +kernel
theorem dX11_order_78 : decode cX11_order 78 = .ok (.istore_n 2, 1) := by decide +kernel
theorem dX11_order_79 : decode cX11_order 79 = .ok (.iinc 4 1, 3) := by decide +kernel
theorem dX11_order_82 : decode cX11_order 82 = .ok (.goto (-73), 3) := by decide +kernel
theorem dX11_order_85 : decode cX11_order 85 = .ok (.iload_n 1, 1) := by decide +kernel
theorem dX11_order_86 : decode cX11_order 86 = .ok (.ifCond .eq 7, 3) := by decide +kernel
theorem dX11_order_89 : decode cX11_order 89 = .ok (.iload_n 3, 1) := by decide +kernel
theorem dX11_order_90 : decode cX11_order 90 = .ok (.goto 4, 3) := by decide +kernel
theorem dX11_order_93 : decode cX11_order 93 = .ok (.iload_n 2, 1) := by decide +kernel
theorem dX11_order_94 : decode cX11_order 94 = .ok (.ireturn, 1) := by decide +kernel
theorem dX11_hall_0 : decode cX11_hall 0 = .ok (.iload_n 1, 1) := by decide +kernel
theorem dX11_hall_1 : decode cX11_hall 1 = .ok (.i2l, 1) := by decide +kernel
theorem dX11_hall_2 : decode cX11_hall 2 = .ok (.lconst 0, 1) := by decide +kernel
theorem dX11_hall_3 : decode cX11_hall 3 = .ok (.ldc2_w 75, 3) := by decide +kernel
theorem dX11_hall_6 : decode cX11_hall 6 = .ok (.invokestatic 62, 3) := by decide +kernel
theorem dX11_hall_9 : decode cX11_hall 9 = .ok (.ifCond .ne 6, 3) := by decide +kernel
theorem dX11_hall_12 : decode cX11_hall 12 = .ok (.bipush (-2), 2) := by decide +kernel
theorem dX11_hall_14 : decode cX11_hall 14 = .ok (.ireturn, 1) := by decide +kernel
theorem dX11_hall_15 : decode cX11_hall 15 = .ok (.aload_n 0, 1) := by decide +kernel
theorem dX11_hall_16 : decode cX11_hall 16 = .ok (.invokevirtual 164, 3) := by decide +kernel
theorem dX11_hall_19 : decode cX11_hall 19 = .ok (.iconst 0, 1) := by decide +kernel
theorem dX11_hall_20 : decode cX11_hall 20 = .ok (.istore_n 2, 1) := by decide +kernel
theorem dX11_hall_21 : decode cX11_hall 21 = .ok (.iload_n 2, 1) := by decide +kernel
theorem dX11_hall_22 : decode cX11_hall 22 = .ok (.iload_n 1, 1) := by decide +kernel
theorem dX11_hall_23 : decode cX11_hall 23 = .ok (.if_icmp .ge 14, 3) := by decide +kernel
theorem dX11_hall_26 : decode cX11_hall 26 = .ok (.aload_n 0, 1) := by decide +kernel
theorem dX11_hall_27 : decode cX11_hall 27 = .ok (.iconst 1, 1) := by decide +kernel
theorem dX11_hall_28 : decode cX11_hall 28 = .ok (.invokevirtual 158, 3) := by decide +kernel
theorem dX11_hall_31 : decode cX11_hall 31 = .ok (.iinc 2 1, 3) := by decide +kernel
theorem dX11_hall_34 : decode cX11_hall 34 = .ok (.goto (-13), 3) := by decide +kernel
theorem dX11_hall_37 : decode cX11_hall 37 = .ok (.aload_n 0, 1) := by decide +kernel
theorem dX11_hall_38 : decode cX11_hall 38 = .ok (.iconst 1, 1) := by decide +kernel
theorem dX11_hall_39 : decode cX11_hall 39 = .ok (.invokevirtual 161, 3) := by decide +kernel
theorem dX11_hall_42 : decode cX11_hall 42 = .ok (.ireturn, 1) := by decide +kernel
theorem dX11_tryThing_0 : decode cX11_tryThing 0 = .ok (.iload_n 1, 1) := by decide +kernel
theorem dX11_tryThing_1 : decode cX11_tryThing 1 = .ok (.tableswitch 171 0 3 #[31, 75, 127, 152], 31) := by decide +kernel
theorem dX11_tryThing_32 : decode cX11_tryThing 32 = .ok (.aload_n 0, 1) := by decide +kernel
theorem dX11_tryThing_33 : decode cX11_tryThing 33 = .ok (.iload_n 2, 1) := by decide +kernel
theorem dX11_tryThing_34 : decode cX11_tryThing 34 = .ok (.invokevirtual 126, 3) := by decide +kernel
theorem dX11_tryThing_37 : decode cX11_tryThing 37 = .ok (.ifCond .eq 20, 3) := by decide +kernel
theorem dX11_tryThing_40 : decode cX11_tryThing 40 = .ok (.iload_n 3, 1) := by decide +kernel
theorem dX11_tryThing_41 : decode cX11_tryThing 41 = .ok (.ifCond .le 16, 3) := by decide +kernel
theorem dX11_tryThing_44 : decode cX11_tryThing 44 = .ok (.aload_n 0, 1) := by decide +kernel
theorem dX11_tryThing_45 : decode cX11_tryThing 45 = .ok (.iconst 1, 1) := by decide +kernel
theorem dX11_tryThing_46 : decode cX11_tryThing 46 = .ok (.iload_n 2, 1) := by decide +kernel
theorem dX11_tryThing_47 : decode cX11_tryThing 47 = .ok (.invokevirtual 142, 3) := by decide +kernel
theorem dX11_tryThing_50 : decode cX11_tryThing 50 = .ok (.ifCond .le 7, 3) := by decide +kernel
theorem dX11_tryThing_53 : decode cX11_tryThing 53 = .ok (.iconst 1, 1) := by decide +kernel
theorem dX11_tryThing_54 : decode cX11_tryThing 54 = .ok (.goto 4, 3) := by decide +kernel
theorem dX11_tryThing_57 : decode cX11_tryThing 57 = .ok (.iconst 0, 1) := by decide +kernel
theorem dX11_tryThing_58 : decode cX11_tryThing 58 = .ok (.istore 4, 2) := by decide +kernel
theorem dX11_tryThing_60 : decode cX11_tryThing 60 = .ok (.iload 4, 2) := by decide +kernel
theorem dX11_tryThing_62 : decode cX11_tryThing 62 = .ok (.ifCond .eq 11, 3) := by decide +kernel
theorem dX11_tryThing_65 : decode cX11_tryThing 65 = .ok (.aload_n 0, 1) := by decide +kernel
theorem dX11_tryThing_66 : decode cX11_tryThing 66 = .ok (.iconst 1, 1) := by decide +kernel
theorem dX11_tryThing_67 : decode cX11_tryThing 67 = .ok (.iload_n 2, 1) := by decide +kernel
theorem dX11_tryThing_68 : decode cX11_tryThing 68 = .ok (.iload_n 3, 1) := by decide +kernel
theorem dX11_tryThing_69 : decode cX11_tryThing 69 = .ok (.invokevirtual 148, 3) := by decide +kernel
theorem dX11_tryThing_72 : decode cX11_tryThing 72 = .ok (.pop, 1) := by decide +kernel
theorem dX11_tryThing_73 : decode cX11_tryThing 73 = .ok (.iload 4, 2) := by decide +kernel
theorem dX11_tryThing_75 : decode cX11_tryThing 75 = .ok (.ireturn, 1) := by decide +kernel
theorem dX11_tryThing_76 : decode cX11_tryThing 76 = .ok (.aload_n 0, 1) := by decide +kernel
theorem dX11_tryThing_77 : decode cX11_tryThing 77 = .ok (.iload_n 2, 1) := by decide +kernel
theorem dX11_tryThing_78 : decode cX11_tryThing 78 = .ok (.invokevirtual 133, 3) := by decide +kernel
theorem dX11_tryThing_81 : decode cX11_tryThing 81 = .ok (.ifCond .eq 28, 3) := by decide +kernel
theorem dX11_tryThing_84 : decode cX11_tryThing 84 = .ok (.aload_n 0, 1) := by decide +kernel
theorem dX11_tryThing_85 : decode cX11_tryThing 85 = .ok (.iload_n 3, 1) := by decide +kernel
theorem dX11_tryThing_86 : decode cX11_tryThing 86 = .ok (.invokevirtual 126, 3) := by decide +kernel
theorem dX11_tryThing_89 : decode cX11_tryThing 89 = .ok (.ifCond .eq 20, 3) := by decide +kernel
theorem dX11_tryThing_92 : decode cX11_tryThing 92 = .ok (.aload_n 0, 1) := by decide +kernel
theorem dX11_tryThing_93 : decode cX11_tryThing 93 = .ok (.getfield 19, 3) := by decide +kernel
theorem dX11_tryThing_96 : decode cX11_tryThing 96 = .ok (.iload_n 2, 1) := by decide +kernel
theorem dX11_tryThing_97 : decode cX11_tryThing 97 = .ok (.iaload, 1) := by decide +kernel
theorem dX11_tryThing_98 : decode cX11_tryThing 98 = .ok (.iload_n 3, 1) := by decide +kernel
theorem dX11_tryThing_99 : decode cX11_tryThing 99 = .ok (.invokestatic 77, 3) := by decide +kernel
theorem dX11_tryThing_102 : decode cX11_tryThing 102 = .ok (.ifCond .eq 7, 3) := by decide +kernel
theorem dX11_tryThing_105 : decode cX11_tryThing 105 = .ok (.iconst 1, 1) := by decide +kernel
theorem dX11_tryThing_106 : decode cX11_tryThing 106 = .ok (.goto 4, 3) := by decide +kernel
theorem dX11_tryThing_109 : decode cX11_tryThing 109 = .ok (.iconst 0, 1) := by decide +kernel
theorem dX11_tryThing_110 : decode cX11_tryThing 110 = .ok (.istore 5, 2) := by decide +kernel
theorem dX11_tryThing_112 : decode cX11_tryThing 112 = .ok (.iload 5, 2) := by decide +kernel
theorem dX11_tryThing_114 : decode cX11_tryThing 114 = .ok (.ifCond .eq 11, 3) := by decide +kernel
theorem dX11_tryThing_117 : decode cX11_tryThing 117 = .ok (.aload_n 0, 1) := by decide +kernel
theorem dX11_tryThing_118 : decode cX11_tryThing 118 = .ok (.iconst 1, 1) := by decide +kernel
theorem dX11_tryThing_119 : decode cX11_tryThing 119 = .ok (.iload_n 2, 1) := by decide +kernel
theorem dX11_tryThing_120 : decode cX11_tryThing 120 = .ok (.iload_n 3, 1) := by decide +kernel
theorem dX11_tryThing_121 : decode cX11_tryThing 121 = .ok (.invokevirtual 115, 3) := by decide +kernel
theorem dX11_tryThing_124 : decode cX11_tryThing 124 = .ok (.pop, 1) := by decide +kernel
theorem dX11_tryThing_125 : decode cX11_tryThing 125 = .ok (.iload 5, 2) := by decide +kernel
theorem dX11_tryThing_127 : decode cX11_tryThing 127 = .ok (.ireturn, 1) := by decide +kernel
theorem dX11_tryThing_128 : decode cX11_tryThing 128 = .ok (.aload_n 0, 1) := by decide +kernel
theorem dX11_tryThing_129 : decode cX11_tryThing 129 = .ok (.iconst 1, 1) := by decide +kernel
theorem dX11_tryThing_130 : decode cX11_tryThing 130 = .ok (.iload_n 2, 1) := by decide +kernel
theorem dX11_tryThing_131 : decode cX11_tryThing 131 = .ok (.iload_n 3, 1) := by decide +kernel
theorem dX11_tryThing_132 : decode cX11_tryThing 132 = .ok (.invokevirtual 151, 3) := by decide +kernel
theorem dX11_tryThing_135 : decode cX11_tryThing 135 = .ok (.istore 6, 2) := by decide +kernel
theorem dX11_tryThing_137 : decode cX11_tryThing 137 = .ok (.iload 6, 2) := by decide +kernel
theorem dX11_tryThing_139 : decode cX11_tryThing 139 = .ok (.ifCond .eq 11, 3) := by decide +kernel
theorem dX11_tryThing_142 : decode cX11_tryThing 142 = .ok (.aload_n 0, 1) := by decide +kernel
theorem dX11_tryThing_143 : decode cX11_tryThing 143 = .ok (.iconst 1, 1) := by decide +kernel
theorem dX11_tryThing_144 : decode cX11_tryThing 144 = .ok (.iload_n 2, 1) := by decide +kernel
theorem dX11_tryThing_145 : decode cX11_tryThing 145 = .ok (.iload_n 3, 1) := by decide +kernel
theorem dX11_tryThing_146 : decode cX11_tryThing 146 = .ok (.invokevirtual 155, 3) := by decide +kernel
theorem dX11_tryThing_149 : decode cX11_tryThing 149 = .ok (.pop, 1) := by decide +kernel
theorem dX11_tryThing_150 : decode cX11_tryThing 150 = .ok (.iload 6, 2) := by decide +kernel
theorem dX11_tryThing_152 : decode cX11_tryThing 152 = .ok (.ireturn, 1) := by decide +kernel
theorem dX11_tryThing_153 : decode cX11_tryThing 153 = .ok (.aload_n 0, 1) := by decide +kernel
theorem dX11_tryThing_154 : decode cX11_tryThing 154 = .ok (.iconst 1, 1) := by decide +kernel
theorem dX11_tryThing_155 : decode cX11_tryThing 155 = .ok (.invokevirtual 158, 3) := by decide +kernel
theorem dX11_tryThing_158 : decode cX11_tryThing 158 = .ok (.iload_n 2, 1) := by decide +kernel
theorem dX11_tryThing_159 : decode cX11_tryThing 159 = .ok (.ifCond .ne 11, 3) := by decide +kernel
theorem dX11_tryThing_162 : decode cX11_tryThing 162 = .ok (.iload_n 3, 1) := by decide +kernel
theorem dX11_tryThing_163 : decode cX11_tryThing 163 = .ok (.ifCond .ne 7, 3) := by decide +kernel
theorem dX11_tryThing_166 : decode cX11_tryThing 166 = .ok (.iconst 1, 1) := by decide +kernel
theorem dX11_tryThing_167 : decode cX11_tryThing 167 = .ok (.goto 4, 3) := by decide +kernel
theorem dX11_tryThing_170 : decode cX11_tryThing 170 = .ok (.iconst 0, 1) := by decide +kernel
theorem dX11_tryThing_171 : decode cX11_tryThing 171 = .ok (.ireturn, 1) := by decide +kernel
theorem dX11_tryThing_172 : decode cX11_tryThing 172 = .ok (.iconst 0, 1) := by decide +kernel
theorem dX11_tryThing_173 : decode cX11_tryThing 173 = .ok (.ireturn, 1) := by decide +kernel
theorem dX11_thousandTo_0 : decode cX11_thousandTo 0 = .ok (.lconst 1, 1) := by decide +kernel
theorem dX11_thousandTo_1 : decode cX11_thousandTo 1 = .ok (.lstore_n 1, 1) := by decide +kernel
theorem dX11_thousandTo_2 : decode cX11_thousandTo 2 = .ok (.iconst 0, 1) := by decide +kernel
theorem dX11_thousandTo_3 : decode cX11_thousandTo 3 = .ok (.istore_n 3, 1) := by decide +kernel
theorem dX11_thousandTo_4 : decode cX11_thousandTo 4 = .ok (.iload_n 3, 1) := by decide +kernel
theorem dX11_thousandTo_5 : decode cX11_thousandTo 5 = .ok (.iload_n 0, 1) := by decide +kernel
theorem dX11_thousandTo_6 : decode cX11_thousandTo 6 = .ok (.if_icmp .ge 15, 3) := by decide +kernel
theorem dX11_thousandTo_9 : decode cX11_thousandTo 9 = .ok (.lload_n 1, 1) := by decide +kernel
theorem dX11_thousandTo_10 : decode cX11_thousandTo 10 = .ok (.ldc2_w 189, 3) := by decide +kernel
theorem dX11_thousandTo_13 : decode cX11_thousandTo 13 = .ok (.lmul, 1) := by decide +kernel
theorem dX11_thousandTo_14 : decode cX11_thousandTo 14 = .ok (.lstore_n 1, 1) := by decide +kernel
theorem dX11_thousandTo_15 : decode cX11_thousandTo 15 = .ok (.iinc 3 1, 3) := by decide +kernel
theorem dX11_thousandTo_18 : decode cX11_thousandTo 18 = .ok (.goto (-14), 3) := by decide +kernel
theorem dX11_thousandTo_21 : decode cX11_thousandTo 21 = .ok (.lload_n 1, 1) := by decide +kernel
theorem dX11_thousandTo_22 : decode cX11_thousandTo 22 = .ok (.lreturn, 1) := by decide +kernel
theorem dX11_judge_0 : decode cX11_judge 0 = .ok (.iload_n 1, 1) := by decide +kernel
theorem dX11_judge_1 : decode cX11_judge 1 = .ok (.i2l, 1) := by decide +kernel
theorem dX11_judge_2 : decode cX11_judge 2 = .ok (.lconst 1, 1) := by decide +kernel
theorem dX11_judge_3 : decode cX11_judge 3 = .ok (.ldc2_w 191, 3) := by decide +kernel
theorem dX11_judge_6 : decode cX11_judge 6 = .ok (.invokestatic 62, 3) := by decide +kernel
theorem dX11_judge_9 : decode cX11_judge 9 = .ok (.ifCond .eq 17, 3) := by decide +kernel
theorem dX11_judge_12 : decode cX11_judge 12 = .ok (.lload_n 2, 1) := by decide +kernel
theorem dX11_judge_13 : decode cX11_judge 13 = .ok (.lconst 0, 1) := by decide +kernel
theorem dX11_judge_14 : decode cX11_judge 14 = .ok (.iload_n 1, 1) := by decide +kernel
theorem dX11_judge_15 : decode cX11_judge 15 = .ok (.invokestatic 193, 3) := by decide +kernel
theorem dX11_judge_18 : decode cX11_judge 18 = .ok (.lconst 1, 1) := by decide +kernel
theorem dX11_judge_19 : decode cX11_judge 19 = .ok (.lsub, 1) := by decide +kernel
theorem dX11_judge_20 : decode cX11_judge 20 = .ok (.invokestatic 62, 3) := by decide +kernel
theorem dX11_judge_23 : decode cX11_judge 23 = .ok (.ifCond .ne 6, 3) := by decide +kernel
theorem dX11_judge_26 : decode cX11_judge 26 = .ok (.bipush (-2), 2) := by decide +kernel
theorem dX11_judge_28 : decode cX11_judge 28 = .ok (.ireturn, 1) := by decide +kernel
theorem dX11_judge_29 : decode cX11_judge 29 = .ok (.aload_n 0, 1) := by decide +kernel
theorem dX11_judge_30 : decode cX11_judge 30 = .ok (.invokevirtual 164, 3) := by decide +kernel
theorem dX11_judge_33 : decode cX11_judge 33 = .ok (.iconst 0, 1) := by decide +kernel
theorem dX11_judge_34 : decode cX11_judge 34 = .ok (.istore 4, 2) := by decide +kernel
theorem dX11_judge_36 : decode cX11_judge 36 = .ok (.iload 4, 2) := by decide +kernel
theorem dX11_judge_38 : decode cX11_judge 38 = .ok (.iload_n 1, 1) := by decide +kernel
theorem dX11_judge_39 : decode cX11_judge 39 = .ok (.if_icmp .ge 55, 3) := by decide +kernel
theorem dX11_judge_42 : decode cX11_judge 42 = .ok (.lload_n 2, 1) := by decide +kernel
theorem dX11_judge_43 : decode cX11_judge 43 = .ok (.iload_n 1, 1) := by decide +kernel
theorem dX11_judge_44 : decode cX11_judge 44 = .ok (.iconst 1, 1) := by decide +kernel
theorem dX11_judge_45 : decode cX11_judge 45 = .ok (.isub, 1) := by decide +kernel
theorem dX11_judge_46 : decode cX11_judge 46 = .ok (.iload 4, 2) := by decide +kernel
theorem dX11_judge_48 : decode cX11_judge 48 = .ok (.isub, 1) := by decide +kernel
theorem dX11_judge_49 : decode cX11_judge 49 = .ok (.invokestatic 193, 3) := by decide +kernel
theorem dX11_judge_52 : decode cX11_judge 52 = .ok (.ldiv, 1) := by decide +kernel
theorem dX11_judge_53 : decode cX11_judge 53 = .ok (.ldc2_w 189, 3) := by decide +kernel
theorem dX11_judge_56 : decode cX11_judge 56 = .ok (.lrem, 1) := by decide +kernel
theorem dX11_judge_57 : decode cX11_judge 57 = .ok (.l2i, 1) := by decide +kernel
theorem dX11_judge_58 : decode cX11_judge 58 = .ok (.istore 5, 2) := by decide +kernel
theorem dX11_judge_60 : decode cX11_judge 60 = .ok (.aload_n 0, 1) := by decide +kernel
theorem dX11_judge_61 : decode cX11_judge 61 = .ok (.iload 5, 2) := by decide +kernel
theorem dX11_judge_63 : decode cX11_judge 63 = .ok (.bipush 100, 2) := by decide +kernel
theorem dX11_judge_65 : decode cX11_judge 65 = .ok (.idiv, 1) := by decide +kernel
theorem dX11_judge_66 : decode cX11_judge 66 = .ok (.iload 5, 2) := by decide +kernel
theorem dX11_judge_68 : decode cX11_judge 68 = .ok (.bipush 10, 2) := by decide +kernel
theorem dX11_judge_70 : decode cX11_judge 70 = .ok (.idiv, 1) := by decide +kernel
theorem dX11_judge_71 : decode cX11_judge 71 = .ok (.bipush 10, 2) := by decide +kernel
theorem dX11_judge_73 : decode cX11_judge 73 = .ok (.irem, 1) := by decide +kernel
theorem dX11_judge_74 : decode cX11_judge 74 = .ok (.iload 5, 2) := by decide +kernel
theorem dX11_judge_76 : decode cX11_judge 76 = .ok (.bipush 10, 2) := by decide +kernel
theorem dX11_judge_78 : decode cX11_judge 78 = .ok (.irem, 1) := by decide +kernel
theorem dX11_judge_79 : decode cX11_judge 79 = .ok (.invokevirtual 197, 3) := by decide +kernel
theorem dX11_judge_82 : decode cX11_judge 82 = .ok (.ifCond .ne 6, 3) := by decide +kernel
theorem dX11_judge_85 : decode cX11_judge 85 = .ok (.iload 4, 2) := by decide +kernel
theorem dX11_judge_87 : decode cX11_judge 87 = .ok (.ireturn, 1) := by decide +kernel
theorem dX11_judge_88 : decode cX11_judge 88 = .ok (.iinc 4 1, 3) := by decide +kernel
theorem dX11_judge_91 : decode cX11_judge 91 = .ok (.goto (-55), 3) := by decide +kernel
theorem dX11_judge_94 : decode cX11_judge 94 = .ok (.bipush (-9), 2) := by decide +kernel
theorem dX11_judge_96 : decode cX11_judge 96 = .ok (.ireturn, 1) := by decide +kernel
theorem dX11_see_0 : decode cX11_see 0 = .ok (.aload_n 0, 1) := by decide +kernel
theorem dX11_see_1 : decode cX11_see 1 = .ok (.iload_n 1, 1) := by decide +kernel
theorem dX11_see_2 : decode cX11_see 2 = .ok (.invokevirtual 133, 3) := by decide +kernel
theorem dX11_see_5 : decode cX11_see 5 = .ok (.ifCond .ne 5, 3) := by decide +kernel
theorem dX11_see_8 : decode cX11_see 8 = .ok (.iconst (-1), 1) := by decide +kernel
theorem dX11_see_9 : decode cX11_see 9 = .ok (.ireturn, 1) := by decide +kernel
theorem dX11_see_10 : decode cX11_see 10 = .ok (.iload_n 2, 1) := by decide +kernel
theorem dX11_see_11 : decode cX11_see 11 = .ok (.i2l, 1) := by decide +kernel
theorem dX11_see_12 : decode cX11_see 12 = .ok (.lconst 0, 1) := by decide +kernel
theorem dX11_see_13 : decode cX11_see 13 = .ok (.ldc2_w 75, 3) := by decide +kernel
theorem dX11_see_16 : decode cX11_see 16 = .ok (.invokestatic 62, 3) := by decide +kernel
theorem dX11_see_19 : decode cX11_see 19 = .ok (.ifCond .eq 14, 3) := by decide +kernel
theorem dX11_see_22 : decode cX11_see 22 = .ok (.iload_n 3, 1) := by decide +kernel
theorem dX11_see_23 : decode cX11_see 23 = .ok (.i2l, 1) := by decide +kernel
theorem dX11_see_24 : decode cX11_see 24 = .ok (.lconst 0, 1) := by decide +kernel
theorem dX11_see_25 : decode cX11_see 25 = .ok (.iload_n 2, 1) := by decide +kernel
theorem dX11_see_26 : decode cX11_see 26 = .ok (.i2l, 1) := by decide +kernel
theorem dX11_see_27 : decode cX11_see 27 = .ok (.invokestatic 62, 3) := by decide +kernel
theorem dX11_see_30 : decode cX11_see 30 = .ok (.ifCond .ne 6, 3) := by decide +kernel
theorem dX11_see_33 : decode cX11_see 33 = .ok (.bipush (-2), 2) := by decide +kernel
theorem dX11_see_35 : decode cX11_see 35 = .ok (.ireturn, 1) := by decide +kernel
theorem dX11_see_36 : decode cX11_see 36 = .ok (.aload_n 0, 1) := by decide +kernel
theorem dX11_see_37 : decode cX11_see 37 = .ok (.getfield 200, 3) := by decide +kernel
theorem dX11_see_40 : decode cX11_see 40 = .ok (.bipush 6, 2) := by decide +kernel
theorem dX11_see_42 : decode cX11_see 42 = .ok (.if_icmp .ne 6, 3) := by decide +kernel
theorem dX11_see_45 : decode cX11_see 45 = .ok (.bipush (-4), 2) := by decide +kernel
theorem dX11_see_47 : decode cX11_see 47 = .ok (.ireturn, 1) := by decide +kernel
theorem dX11_see_48 : decode cX11_see 48 = .ok (.aload_n 0, 1) := by decide +kernel
theorem dX11_see_49 : decode cX11_see 49 = .ok (.getfield 40, 3) := by decide +kernel
theorem dX11_see_52 : decode cX11_see 52 = .ok (.aload_n 0, 1) := by decide +kernel
theorem dX11_see_53 : decode cX11_see 53 = .ok (.getfield 200, 3) := by decide +kernel
theorem dX11_see_56 : decode cX11_see 56 = .ok (.iload_n 1, 1) := by decide +kernel
theorem dX11_see_57 : decode cX11_see 57 = .ok (.iastore, 1) := by decide +kernel
theorem dX11_see_58 : decode cX11_see 58 = .ok (.aload_n 0, 1) := by decide +kernel
theorem dX11_see_59 : decode cX11_see 59 = .ok (.getfield 43, 3) := by decide +kernel
theorem dX11_see_62 : decode cX11_see 62 = .ok (.aload_n 0, 1) := by decide +kernel
theorem dX11_see_63 : decode cX11_see 63 = .ok (.getfield 200, 3) := by decide +kernel
theorem dX11_see_66 : decode cX11_see 66 = .ok (.iload_n 2, 1) := by decide +kernel
theorem dX11_see_67 : decode cX11_see 67 = .ok (.iastore, 1) := by decide +kernel
theorem dX11_see_68 : decode cX11_see 68 = .ok (.aload_n 0, 1) := by decide +kernel
theorem dX11_see_69 : decode cX11_see 69 = .ok (.getfield 46, 3) := by decide +kernel
theorem dX11_see_72 : decode cX11_see 72 = .ok (.aload_n 0, 1) := by decide +kernel
theorem dX11_see_73 : decode cX11_see 73 = .ok (.getfield 200, 3) := by decide +kernel
theorem dX11_see_76 : decode cX11_see 76 = .ok (.iload_n 3, 1) := by decide +kernel
theorem dX11_see_77 : decode cX11_see 77 = .ok (.iastore, 1) := by decide +kernel
theorem dX11_see_78 : decode cX11_see 78 = .ok (.aload_n 0, 1) := by decide +kernel
theorem dX11_see_79 : decode cX11_see 79 = .ok (.dup, 1) := by decide +kernel
theorem dX11_see_80 : decode cX11_see 80 = .ok (.getfield 200, 3) := by decide +kernel
theorem dX11_see_83 : decode cX11_see 83 = .ok (.iconst 1, 1) := by decide +kernel
theorem dX11_see_84 : decode cX11_see 84 = .ok (.iadd, 1) := by decide +kernel
theorem dX11_see_85 : decode cX11_see 85 = .ok (.putfield 200, 3) := by decide +kernel
theorem dX11_see_88 : decode cX11_see 88 = .ok (.aload_n 0, 1) := by decide +kernel
theorem dX11_see_89 : decode cX11_see 89 = .ok (.getfield 200, 3) := by decide +kernel
theorem dX11_see_92 : decode cX11_see 92 = .ok (.ireturn, 1) := by decide +kernel
theorem dX11_unsee_0 : decode cX11_unsee 0 = .ok (.aload_n 0, 1) := by decide +kernel
theorem dX11_unsee_1 : decode cX11_unsee 1 = .ok (.getfield 200, 3) := by decide +kernel
theorem dX11_unsee_4 : decode cX11_unsee 4 = .ok (.istore_n 1, 1) := by decide +kernel
theorem dX11_unsee_5 : decode cX11_unsee 5 = .ok (.aload_n 0, 1) := by decide +kernel
theorem dX11_unsee_6 : decode cX11_unsee 6 = .ok (.iconst 0, 1) := by decide +kernel
theorem dX11_unsee_7 : decode cX11_unsee 7 = .ok (.putfield 200, 3) := by decide +kernel
theorem dX11_unsee_10 : decode cX11_unsee 10 = .ok (.iload_n 1, 1) := by decide +kernel
theorem dX11_unsee_11 : decode cX11_unsee 11 = .ok (.ireturn, 1) := by decide +kernel
theorem dX11_thirsts_0 : decode cX11_thirsts 0 = .ok (.aload_n 0, 1) := by decide +kernel
theorem dX11_thirsts_1 : decode cX11_thirsts 1 = .ok (.iload_n 1, 1) := by decide +kernel
theorem dX11_thirsts_2 : decode cX11_thirsts 2 = .ok (.invokevirtual 133, 3) := by decide +kernel
theorem dX11_thirsts_5 : decode cX11_thirsts 5 = .ok (.ifCond .ne 5, 3) := by decide +kernel
theorem dX11_thirsts_8 : decode cX11_thirsts 8 = .ok (.iconst (-1), 1) := by decide +kernel
theorem dX11_thirsts_9 : decode cX11_thirsts 9 = .ok (.ireturn, 1) := by decide +kernel
theorem dX11_thirsts_10 : decode cX11_thirsts 10 = .ok (.iconst 0, 1) := by decide +kernel
theorem dX11_thirsts_11 : decode cX11_thirsts 11 = .ok (.istore_n 2, 1) := by decide +kernel
theorem dX11_thirsts_12 : decode cX11_thirsts 12 = .ok (.iconst 0, 1) := by decide +kernel
theorem dX11_thirsts_13 : decode cX11_thirsts 13 = .ok (.istore_n 3, 1) := by decide +kernel
theorem dX11_thirsts_14 : decode cX11_thirsts 14 = .ok (.iload_n 3, 1) := by decide +kernel
theorem dX11_thirsts_15 : decode cX11_thirsts 15 = .ok (.bipush 10, 2) := by decide +kernel
theorem dX11_thirsts_17 : decode cX11_thirsts 17 = .ok (.if_icmp .ge 103, 3) := by decide +kernel
theorem dX11_thirsts_20 : decode cX11_thirsts 20 = .ok (.iconst 1, 1) := by decide +kernel
theorem dX11_thirsts_21 : decode cX11_thirsts 21 = .ok (.istore 4, 2) := by decide +kernel
theorem dX11_thirsts_23 : decode cX11_thirsts 23 = .ok (.iconst 0, 1) := by decide +kernel
theorem dX11_thirsts_24 : decode cX11_thirsts 24 = .ok (.istore 5, 2) := by decide +kernel
theorem dX11_thirsts_26 : decode cX11_thirsts 26 = .ok (.iload 5, 2) := by decide +kernel
theorem dX11_thirsts_28 : decode cX11_thirsts 28 = .ok (.aload_n 0, 1) := by decide +kernel
theorem dX11_thirsts_29 : decode cX11_thirsts 29 = .ok (.getfield 200, 3) := by decide +kernel
theorem dX11_thirsts_32 : decode cX11_thirsts 32 = .ok (.if_icmp .ge 67, 3) := by decide +kernel
theorem dX11_thirsts_35 : decode cX11_thirsts 35 = .ok (.iload 4, 2) := by decide +kernel
theorem dX11_thirsts_37 : decode cX11_thirsts 37 = .ok (.ifCond .eq 53, 3) := by decide +kernel
theorem dX11_thirsts_40 : decode cX11_thirsts 40 = .ok (.aload_n 0, 1) := by decide +kernel
theorem dX11_thirsts_41 : decode cX11_thirsts 41 = .ok (.getfield 40, 3) := by decide +kernel
theorem dX11_thirsts_44 : decode cX11_thirsts 44 = .ok (.iload 5, 2) := by decide +kernel
theorem dX11_thirsts_46 : decode cX11_thirsts 46 = .ok (.iaload, 1) := by decide +kernel
theorem dX11_thirsts_47 : decode cX11_thirsts 47 = .ok (.iload_n 1, 1) := by decide +kernel
theorem dX11_thirsts_48 : decode cX11_thirsts 48 = .ok (.if_icmp .ne 38, 3) := by decide +kernel
theorem dX11_thirsts_51 : decode cX11_thirsts 51 = .ok (.aload_n 0, 1) := by decide +kernel
theorem dX11_thirsts_52 : decode cX11_thirsts 52 = .ok (.getfield 43, 3) := by decide +kernel
theorem dX11_thirsts_55 : decode cX11_thirsts 55 = .ok (.iload 5, 2) := by decide +kernel
theorem dX11_thirsts_57 : decode cX11_thirsts 57 = .ok (.iaload, 1) := by decide +kernel
theorem dX11_thirsts_58 : decode cX11_thirsts 58 = .ok (.iload_n 3, 1) := by decide +kernel
theorem dX11_thirsts_59 : decode cX11_thirsts 59 = .ok (.aload_n 0, 1) := by decide +kernel
theorem dX11_thirsts_60 : decode cX11_thirsts 60 = .ok (.getfield 43, 3) := by decide +kernel
theorem dX11_thirsts_63 : decode cX11_thirsts 63 = .ok (.iload 5, 2) := by decide +kernel
theorem dX11_thirsts_65 : decode cX11_thirsts 65 = .ok (.iaload, 1) := by decide +kernel
theorem dX11_thirsts_66 : decode cX11_thirsts 66 = .ok (.aload_n 0, 1) := by decide +kernel
theorem dX11_thirsts_67 : decode cX11_thirsts 67 = .ok (.getfield 16, 3) := by decide +kernel
theorem dX11_thirsts_70 : decode cX11_thirsts 70 = .ok (.iload_n 1, 1) := by decide +kernel
theorem dX11_thirsts_71 : decode cX11_thirsts 71 = .ok (.iaload, 1) := by decide +kernel
theorem dX11_thirsts_72 : decode cX11_thirsts 72 = .ok (.invokestatic 111, 3) := by decide +kernel
theorem dX11_thirsts_75 : decode cX11_thirsts 75 = .ok (.isub, 1) := by decide +kernel
theorem dX11_thirsts_76 : decode cX11_thirsts 76 = .ok (.aload_n 0, 1) := by decide +kernel
theorem dX11_thirsts_77 : decode cX11_thirsts 77 = .ok (.getfield 46, 3) := by decide +kernel
theorem dX11_thirsts_80 : decode cX11_thirsts 80 = .ok (.iload 5, 2) := by decide +kernel
theorem dX11_thirsts_82 : decode cX11_thirsts 82 = .ok (.iaload, 1) := by decide +kernel
theorem dX11_thirsts_83 : decode cX11_thirsts 83 = .ok (.if_icmp .ne 7, 3) := by decide +kernel
theorem dX11_thirsts_86 : decode cX11_thirsts 86 = .ok (.iconst 1, 1) := by decide +kernel
theorem dX11_thirsts_87 : decode cX11_thirsts 87 = .ok (.goto 4, 3) := by decide +kernel
theorem dX11_thirsts_90 : decode cX11_thirsts 90 = .ok (.iconst 0, 1) := by decide +kernel
theorem dX11_thirsts_91 : decode cX11_thirsts 91 = .ok (.istore 4, 2) := by decide +kernel
theorem dX11_thirsts_93 : decode cX11_thirsts 93 = .ok (.iinc 5 1, 3) := by decide +kernel
theorem dX11_thirsts_96 : decode cX11_thirsts 96 = .ok (.goto (-70), 3) := by decide +kernel
theorem dX11_thirsts_99 : decode cX11_thirsts 99 = .ok (.iload_n 2, 1) := by decide +kernel
theorem dX11_thirsts_100 : decode cX11_thirsts 100 = .ok (.iload 4, 2) := by decide +kernel
theorem dX11_thirsts_102 : decode cX11_thirsts 102 = .ok (.ifCond .eq 9, 3) := by decide +kernel
theorem dX11_thirsts_105 : decode cX11_thirsts 105 = .ok (.iconst 1, 1) := by decide +kernel
theorem dX11_thirsts_106 : decode cX11_thirsts 106 = .ok (.iload_n 3, 1) := by decide +kernel
theorem dX11_thirsts_107 : decode cX11_thirsts 107 = .ok (.ishl, 1) := by decide +kernel
theorem dX11_thirsts_108 : decode cX11_thirsts 108 = .ok (.goto 4, 3) := by decide +kernel
theorem dX11_thirsts_111 : decode cX11_thirsts 111 = .ok (.iconst 0, 1) := by decide +kernel
theorem dX11_thirsts_112 : decode cX11_thirsts 112 = .ok (.ior, 1) := by decide +kernel
theorem dX11_thirsts_113 : decode cX11_thirsts 113 = .ok (.istore_n 2, 1) := by decide +kernel
theorem dX11_thirsts_114 : decode cX11_thirsts 114 = .ok (.iinc 3 1, 3) := by decide +kernel
theorem dX11_thirsts_117 : decode cX11_thirsts 117 = .ok (.goto (-103), 3) := by decide +kernel
theorem dX11_thirsts_120 : decode cX11_thirsts 120 = .ok (.iload_n 2, 1) := by decide +kernel
theorem dX11_thirsts_121 : decode cX11_thirsts 121 = .ok (.ireturn, 1) := by decide +kernel
theorem dX11_factorial_0 : decode cX11_factorial 0 = .ok (.iconst 1, 1) := by decide +kernel
theorem dX11_factorial_1 : decode cX11_factorial 1 = .ok (.istore_n 1, 1) := by decide +kernel
theorem dX11_factorial_2 : decode cX11_factorial 2 = .ok (.iconst 2, 1) := by decide +kernel
theorem dX11_factorial_3 : decode cX11_factorial 3 = .ok (.istore_n 2, 1) := by decide +kernel
theorem dX11_factorial_4 : decode cX11_factorial 4 = .ok (.iload_n 2, 1) := by decide +kernel
theorem dX11_factorial_5 : decode cX11_factorial 5 = .ok (.iload_n 0, 1) := by decide +kernel
theorem dX11_factorial_6 : decode cX11_factorial 6 = .ok (.if_icmp .gt 13, 3) := by decide +kernel
theorem dX11_factorial_9 : decode cX11_factorial 9 = .ok (.iload_n 1, 1) := by decide +kernel
theorem dX11_factorial_10 : decode cX11_factorial 10 = .ok (.iload_n 2, 1) := by decide +kernel
theorem dX11_factorial_11 : decode cX11_factorial 11 = .ok (.imul, 1) := by decide +kernel
theorem dX11_factorial_12 : decode cX11_factorial 12 = .ok (.istore_n 1, 1) := by decide +kernel
theorem dX11_factorial_13 : decode cX11_factorial 13 = .ok (.iinc 2 1, 3) := by decide +kernel
theorem dX11_factorial_16 : decode cX11_factorial 16 = .ok (.goto (-12), 3) := by decide +kernel
theorem dX11_factorial_19 : decode cX11_factorial 19 = .ok (.iload_n 1, 1) := by decide +kernel
theorem dX11_factorial_20 : decode cX11_factorial 20 = .ok (.ireturn, 1) := by decide +kernel
theorem dX11_common_0 : decode cX11_common 0 = .ok (.iload_n 0, 1) := by decide +kernel
theorem dX11_common_1 : decode cX11_common 1 = .ok (.ifCond .ge 8, 3) := by decide +kernel
theorem dX11_common_4 : decode cX11_common 4 = .ok (.iload_n 0, 1) := by decide +kernel
theorem dX11_common_5 : decode cX11_common 5 = .ok (.ineg, 1) := by decide +kernel
theorem dX11_common_6 : decode cX11_common 6 = .ok (.goto 4, 3) := by decide +kernel
theorem dX11_common_9 : decode cX11_common 9 = .ok (.iload_n 0, 1) := by decide +kernel
theorem dX11_common_10 : decode cX11_common 10 = .ok (.istore_n 2, 1) := by decide +kernel
theorem dX11_common_11 : decode cX11_common 11 = .ok (.iload_n 1, 1) := by decide +kernel
theorem dX11_common_12 : decode cX11_common 12 = .ok (.istore_n 3, 1) := by decide +kernel
theorem dX11_common_13 : decode cX11_common 13 = .ok (.iload_n 3, 1) := by decide +kernel
theorem dX11_common_14 : decode cX11_common 14 = .ok (.ifCond .eq 16, 3) := by decide +kernel
theorem dX11_common_17 : decode cX11_common 17 = .ok (.iload_n 2, 1) := by decide +kernel
theorem dX11_common_18 : decode cX11_common 18 = .ok (.iload_n 3, 1) := by decide +kernel
theorem dX11_common_19 : decode cX11_common 19 = .ok (.irem, 1) := by decide +kernel
theorem dX11_common_20 : decode cX11_common 20 = .ok (.istore 4, 2) := by decide +kernel
theorem dX11_common_22 : decode cX11_common 22 = .ok (.iload_n 3, 1) := by decide +kernel
theorem dX11_common_23 : decode cX11_common 23 = .ok (.istore_n 2, 1) := by decide +kernel
theorem dX11_common_24 : decode cX11_common 24 = .ok (.iload 4, 2) := by decide +kernel
theorem dX11_common_26 : decode cX11_common 26 = .ok (.istore_n 3, 1) := by decide +kernel
theorem dX11_common_27 : decode cX11_common 27 = .ok (.goto (-14), 3) := by decide +kernel
theorem dX11_common_30 : decode cX11_common 30 = .ok (.iload_n 2, 1) := by decide +kernel
theorem dX11_common_31 : decode cX11_common 31 = .ok (.ireturn, 1) := by decide +kernel
theorem dX11_taxesOf_0 : decode cX11_taxesOf 0 = .ok (.aload_n 0, 1) := by decide +kernel
theorem dX11_taxesOf_1 : decode cX11_taxesOf 1 = .ok (.invokevirtual 164, 3) := by decide +kernel
theorem dX11_taxesOf_4 : decode cX11_taxesOf 4 = .ok (.aload_n 0, 1) := by decide +kernel
theorem dX11_taxesOf_5 : decode cX11_taxesOf 5 = .ok (.iconst 1, 1) := by decide +kernel
theorem dX11_taxesOf_6 : decode cX11_taxesOf 6 = .ok (.iload_n 1, 1) := by decide +kernel
theorem dX11_taxesOf_7 : decode cX11_taxesOf 7 = .ok (.invokevirtual 167, 3) := by decide +kernel
theorem dX11_taxesOf_10 : decode cX11_taxesOf 10 = .ok (.aload_n 0, 1) := by decide +kernel
theorem dX11_taxesOf_11 : decode cX11_taxesOf 11 = .ok (.iconst 1, 1) := by decide +kernel
theorem dX11_taxesOf_12 : decode cX11_taxesOf 12 = .ok (.invokevirtual 161, 3) := by decide +kernel
theorem dX11_taxesOf_15 : decode cX11_taxesOf 15 = .ok (.ireturn, 1) := by decide +kernel
theorem dX11_share_0 : decode cX11_share 0 = .ok (.aload_n 0, 1) := by decide +kernel
theorem dX11_share_1 : decode cX11_share 1 = .ok (.iload_n 1, 1) := by decide +kernel
theorem dX11_share_2 : decode cX11_share 2 = .ok (.invokevirtual 133, 3) := by decide +kernel
theorem dX11_share_5 : decode cX11_share 5 = .ok (.ifCond .ne 5, 3) := by decide +kernel
theorem dX11_share_8 : decode cX11_share 8 = .ok (.iconst (-1), 1) := by decide +kernel
theorem dX11_share_9 : decode cX11_share 9 = .ok (.ireturn, 1) := by decide +kernel
theorem dX11_share_10 : decode cX11_share 10 = .ok (.iconst 0, 1) := by decide +kernel
theorem dX11_share_11 : decode cX11_share 11 = .ok (.istore_n 3, 1) := by decide +kernel
theorem dX11_share_12 : decode cX11_share 12 = .ok (.iconst 0, 1) := by decide +kernel
theorem dX11_share_13 : decode cX11_share 13 = .ok (.istore 4, 2) := by decide +kernel
theorem dX11_share_15 : decode cX11_share 15 = .ok (.iload 4, 2) := by decide +kernel
theorem dX11_share_17 : decode cX11_share 17 = .ok (.iconst 1, 1) := by decide +kernel
theorem dX11_share_18 : decode cX11_share 18 = .ok (.aload_n 0, 1) := by decide +kernel
theorem dX11_share_19 : decode cX11_share 19 = .ok (.getfield 105, 3) := by decide +kernel
theorem dX11_share_22 : decode cX11_share 22 = .ok (.ishl, 1) := by decide +kernel
theorem dX11_share_23 : decode cX11_share 23 = .ok (.if_icmp .ge 67, 3) := by decide +kernel
theorem dX11_share_26 : decode cX11_share 26 = .ok (.iload 4, 2) := by decide +kernel
theorem dX11_share_28 : decode cX11_share 28 = .ok (.iload_n 1, 1) := by decide +kernel
theorem dX11_share_29 : decode cX11_share 29 = .ok (.invokestatic 77, 3) := by decide +kernel
theorem dX11_share_32 : decode cX11_share 32 = .ok (.ifCond .ne 52, 3) := by decide +kernel
theorem dX11_share_35 : decode cX11_share 35 = .ok (.iload 4, 2) := by decide +kernel
theorem dX11_share_37 : decode cX11_share 37 = .ok (.invokestatic 183, 3) := by decide +kernel
theorem dX11_share_40 : decode cX11_share 40 = .ok (.invokestatic 203, 3) := by decide +kernel
theorem dX11_share_43 : decode cX11_share 43 = .ok (.aload_n 0, 1) := by decide +kernel
theorem dX11_share_44 : decode cX11_share 44 = .ok (.getfield 105, 3) := by decide +kernel
theorem dX11_share_47 : decode cX11_share 47 = .ok (.iconst 1, 1) := by decide +kernel
theorem dX11_share_48 : decode cX11_share 48 = .ok (.isub, 1) := by decide +kernel
theorem dX11_share_49 : decode cX11_share 49 = .ok (.iload 4, 2) := by decide +kernel
theorem dX11_share_51 : decode cX11_share 51 = .ok (.invokestatic 183, 3) := by decide +kernel
theorem dX11_share_54 : decode cX11_share 54 = .ok (.isub, 1) := by decide +kernel
theorem dX11_share_55 : decode cX11_share 55 = .ok (.invokestatic 203, 3) := by decide +kernel
theorem dX11_share_58 : decode cX11_share 58 = .ok (.imul, 1) := by decide +kernel
theorem dX11_share_59 : decode cX11_share 59 = .ok (.istore 5, 2) := by decide +kernel
theorem dX11_share_61 : decode cX11_share 61 = .ok (.iload_n 3, 1) := by decide +kernel
theorem dX11_share_62 : decode cX11_share 62 = .ok (.iload 5, 2) := by decide +kernel
theorem dX11_share_64 : decode cX11_share 64 = .ok (.aload_n 0, 1) := by decide +kernel
theorem dX11_share_65 : decode cX11_share 65 = .ok (.iload 4, 2) := by decide +kernel
theorem dX11_share_67 : decode cX11_share 67 = .ok (.iconst 1, 1) := by decide +kernel
theorem dX11_share_68 : decode cX11_share 68 = .ok (.iload_n 1, 1) := by decide +kernel
theorem dX11_share_69 : decode cX11_share 69 = .ok (.ishl, 1) := by decide +kernel
theorem dX11_share_70 : decode cX11_share 70 = .ok (.ior, 1) := by decide +kernel
theorem dX11_share_71 : decode cX11_share 71 = .ok (.invokevirtual 206, 3) := by decide +kernel
theorem dX11_share_74 : decode cX11_share 74 = .ok (.aload_n 0, 1) := by decide +kernel
theorem dX11_share_75 : decode cX11_share 75 = .ok (.iload 4, 2) := by decide +kernel
theorem dX11_share_77 : decode cX11_share 77 = .ok (.invokevirtual 206, 3) := by decide +kernel
theorem dX11_share_80 : decode cX11_share 80 = .ok (.isub, 1) := by decide +kernel
theorem dX11_share_81 : decode cX11_share 81 = .ok (.imul, 1) := by decide +kernel
theorem dX11_share_82 : decode cX11_share 82 = .ok (.iadd, 1) := by decide +kernel
theorem dX11_share_83 : decode cX11_share 83 = .ok (.istore_n 3, 1) := by decide +kernel
theorem dX11_share_84 : decode cX11_share 84 = .ok (.iinc 4 1, 3) := by decide +kernel
theorem dX11_share_87 : decode cX11_share 87 = .ok (.goto (-72), 3) := by decide +kernel
theorem dX11_share_90 : decode cX11_share 90 = .ok (.iload_n 3, 1) := by decide +kernel
theorem dX11_share_91 : decode cX11_share 91 = .ok (.aload_n 0, 1) := by decide +kernel
theorem dX11_share_92 : decode cX11_share 92 = .ok (.getfield 105, 3) := by decide +kernel
theorem dX11_share_95 : decode cX11_share 95 = .ok (.invokestatic 203, 3) := by decide +kernel
theorem dX11_share_98 : decode cX11_share 98 = .ok (.invokestatic 209, 3) := by decide +kernel
theorem dX11_share_101 : decode cX11_share 101 = .ok (.istore 4, 2) := by decide +kernel
theorem dX11_share_103 : decode cX11_share 103 = .ok (.iload_n 2, 1) := by decide +kernel
theorem dX11_share_104 : decode cX11_share 104 = .ok (.ifCond .eq 10, 3) := by decide +kernel
theorem dX11_share_107 : decode cX11_share 107 = .ok (.iload_n 3, 1) := by decide +kernel
theorem dX11_share_108 : decode cX11_share 108 = .ok (.iload 4, 2) := by decide +kernel
theorem dX11_share_110 : decode cX11_share 110 = .ok (.idiv, 1) := by decide +kernel
theorem dX11_share_111 : decode cX11_share 111 = .ok (.goto 13, 3) := by decide +kernel
theorem dX11_share_114 : decode cX11_share 114 = .ok (.aload_n 0, 1) := by decide +kernel
theorem dX11_share_115 : decode cX11_share 115 = .ok (.getfield 105, 3) := by decide +kernel
theorem dX11_share_118 : decode cX11_share 118 = .ok (.invokestatic 203, 3) := by decide +kernel
theorem dX11_share_121 : decode cX11_share 121 = .ok (.iload 4, 2) := by decide +kernel
theorem dX11_share_123 : decode cX11_share 123 = .ok (.idiv, 1) := by decide +kernel
theorem dX11_share_124 : decode cX11_share 124 = .ok (.ireturn, 1) := by decide +kernel
theorem dX11_gain_0 : decode cX11_gain 0 = .ok (.aload_n 0, 1) := by decide +kernel
theorem dX11_gain_1 : decode cX11_gain 1 = .ok (.invokevirtual 164, 3) := by decide +kernel
theorem dX11_gain_4 : decode cX11_gain 4 = .ok (.aload_n 0, 1) := by decide +kernel
theorem dX11_gain_5 : decode cX11_gain 5 = .ok (.iconst 1, 1) := by decide +kernel
theorem dX11_gain_6 : decode cX11_gain 6 = .ok (.iload_n 1, 1) := by decide +kernel
theorem dX11_gain_7 : decode cX11_gain 7 = .ok (.iload_n 3, 1) := by decide +kernel
theorem dX11_gain_8 : decode cX11_gain 8 = .ok (.invokevirtual 115, 3) := by decide +kernel
theorem dX11_gain_11 : decode cX11_gain 11 = .ok (.istore 6, 2) := by decide +kernel
theorem dX11_gain_13 : decode cX11_gain 13 = .ok (.aload_n 0, 1) := by decide +kernel
theorem dX11_gain_14 : decode cX11_gain 14 = .ok (.iconst 1, 1) := by decide +kernel
theorem dX11_gain_15 : decode cX11_gain 15 = .ok (.iload_n 2, 1) := by decide +kernel
theorem dX11_gain_16 : decode cX11_gain 16 = .ok (.iload 4, 2) := by decide +kernel
theorem dX11_gain_18 : decode cX11_gain 18 = .ok (.invokevirtual 115, 3) := by decide +kernel
theorem dX11_gain_21 : decode cX11_gain 21 = .ok (.istore 7, 2) := by decide +kernel
theorem dX11_gain_23 : decode cX11_gain 23 = .ok (.iload 5, 2) := by decide +kernel
theorem dX11_gain_25 : decode cX11_gain 25 = .ok (.ifCond .eq 8, 3) := by decide +kernel
theorem dX11_gain_28 : decode cX11_gain 28 = .ok (.iload 6, 2) := by decide +kernel
theorem dX11_gain_30 : decode cX11_gain 30 = .ok (.goto 5, 3) := by decide +kernel
theorem dX11_gain_33 : decode cX11_gain 33 = .ok (.iload 7, 2) := by decide +kernel
theorem dX11_gain_35 : decode cX11_gain 35 = .ok (.iload_n 3, 1) := by decide +kernel
theorem dX11_gain_36 : decode cX11_gain 36 = .ok (.iload 4, 2) := by decide +kernel
theorem dX11_gain_38 : decode cX11_gain 38 = .ok (.if_icmp .ne 7, 3) := by decide +kernel
theorem dX11_gain_41 : decode cX11_gain 41 = .ok (.iconst 1, 1) := by decide +kernel
theorem dX11_gain_42 : decode cX11_gain 42 = .ok (.goto 4, 3) := by decide +kernel
theorem dX11_gain_45 : decode cX11_gain 45 = .ok (.iconst 0, 1) := by decide +kernel
theorem dX11_gain_46 : decode cX11_gain 46 = .ok (.isub, 1) := by decide +kernel
theorem dX11_gain_47 : decode cX11_gain 47 = .ok (.ireturn, 1) := by decide +kernel
theorem dX11_isRest_0 : decode cX11_isRest 0 = .ok (.iconst 1, 1) := by decide +kernel
theorem dX11_isRest_1 : decode cX11_isRest 1 = .ok (.istore 5, 2) := by decide +kernel
theorem dX11_isRest_3 : decode cX11_isRest 3 = .ok (.iconst 0, 1) := by decide +kernel
theorem dX11_isRest_4 : decode cX11_isRest 4 = .ok (.istore 6, 2) := by decide +kernel
theorem dX11_isRest_6 : decode cX11_isRest 6 = .ok (.iload 6, 2) := by decide +kernel
theorem dX11_isRest_8 : decode cX11_isRest 8 = .ok (.aload_n 0, 1) := by decide +kernel
theorem dX11_isRest_9 : decode cX11_isRest 9 = .ok (.getfield 56, 3) := by decide +kernel
theorem dX11_isRest_12 : decode cX11_isRest 12 = .ok (.if_icmp .ge 108, 3) := by decide +kernel
theorem dX11_isRest_15 : decode cX11_isRest 15 = .ok (.iload 5, 2) := by decide +kernel
theorem dX11_isRest_17 : decode cX11_isRest 17 = .ok (.ifCond .eq 45, 3) := by decide +kernel
theorem dX11_isRest_20 : decode cX11_isRest 20 = .ok (.aload_n 0, 1) := by decide +kernel
theorem dX11_isRest_21 : decode cX11_isRest 21 = .ok (.getfield 19, 3) := by decide +kernel
theorem dX11_isRest_24 : decode cX11_isRest 24 = .ok (.iload_n 1, 1) := by decide +kernel
theorem dX11_isRest_25 : decode cX11_isRest 25 = .ok (.iaload, 1) := by decide +kernel
theorem dX11_isRest_26 : decode cX11_isRest 26 = .ok (.iload 6, 2) := by decide +kernel
theorem dX11_isRest_28 : decode cX11_isRest 28 = .ok (.invokestatic 77, 3) := by decide +kernel
theorem dX11_isRest_31 : decode cX11_isRest 31 = .ok (.ifCond .eq 27, 3) := by decide +kernel
theorem dX11_isRest_34 : decode cX11_isRest 34 = .ok (.aload_n 0, 1) := by decide +kernel
theorem dX11_isRest_35 : decode cX11_isRest 35 = .ok (.iload_n 1, 1) := by decide +kernel
theorem dX11_isRest_36 : decode cX11_isRest 36 = .ok (.iload_n 2, 1) := by decide +kernel
theorem dX11_isRest_37 : decode cX11_isRest 37 = .ok (.iload 6, 2) := by decide +kernel
theorem dX11_isRest_39 : decode cX11_isRest 39 = .ok (.iload 4, 2) := by decide +kernel
theorem dX11_isRest_41 : decode cX11_isRest 41 = .ok (.iconst 1, 1) := by decide +kernel
theorem dX11_isRest_42 : decode cX11_isRest 42 = .ok (.invokevirtual 212, 3) := by decide +kernel
theorem dX11_isRest_45 : decode cX11_isRest 45 = .ok (.aload_n 0, 1) := by decide +kernel
theorem dX11_isRest_46 : decode cX11_isRest 46 = .ok (.iload_n 1, 1) := by decide +kernel
theorem dX11_isRest_47 : decode cX11_isRest 47 = .ok (.iload_n 2, 1) := by decide +kernel
theorem dX11_isRest_48 : decode cX11_isRest 48 = .ok (.iload_n 3, 1) := by decide +kernel
theorem dX11_isRest_49 : decode cX11_isRest 49 = .ok (.iload 4, 2) := by decide +kernel
theorem dX11_isRest_51 : decode cX11_isRest 51 = .ok (.iconst 1, 1) := by decide +kernel
theorem dX11_isRest_52 : decode cX11_isRest 52 = .ok (.invokevirtual 212, 3) := by decide +kernel
theorem dX11_isRest_55 : decode cX11_isRest 55 = .ok (.if_icmp .gt 7, 3) := by decide +kernel
theorem dX11_isRest_58 : decode cX11_isRest 58 = .ok (.iconst 1, 1) := by decide +kernel
theorem dX11_isRest_59 : decode cX11_isRest 59 = .ok (.goto 4, 3) := by decide +kernel
theorem dX11_isRest_62 : decode cX11_isRest 62 = .ok (.iconst 0, 1) := by decide +kernel
theorem dX11_isRest_63 : decode cX11_isRest 63 = .ok (.istore 5, 2) := by decide +kernel
theorem dX11_isRest_65 : decode cX11_isRest 65 = .ok (.iload 5, 2) := by decide +kernel
theorem dX11_isRest_67 : decode cX11_isRest 67 = .ok (.ifCond .eq 44, 3) := by decide +kernel
theorem dX11_isRest_70 : decode cX11_isRest 70 = .ok (.aload_n 0, 1) := by decide +kernel
theorem dX11_isRest_71 : decode cX11_isRest 71 = .ok (.getfield 19, 3) := by decide +kernel
theorem dX11_isRest_74 : decode cX11_isRest 74 = .ok (.iload_n 2, 1) := by decide +kernel
theorem dX11_isRest_75 : decode cX11_isRest 75 = .ok (.iaload, 1) := by decide +kernel
theorem dX11_isRest_76 : decode cX11_isRest 76 = .ok (.iload 6, 2) := by decide +kernel
theorem dX11_isRest_78 : decode cX11_isRest 78 = .ok (.invokestatic 77, 3) := by decide +kernel
theorem dX11_isRest_81 : decode cX11_isRest 81 = .ok (.ifCond .eq 26, 3) := by decide +kernel
theorem dX11_isRest_84 : decode cX11_isRest 84 = .ok (.aload_n 0, 1) := by decide +kernel
theorem dX11_isRest_85 : decode cX11_isRest 85 = .ok (.iload_n 1, 1) := by decide +kernel
theorem dX11_isRest_86 : decode cX11_isRest 86 = .ok (.iload_n 2, 1) := by decide +kernel
theorem dX11_isRest_87 : decode cX11_isRest 87 = .ok (.iload_n 3, 1) := by decide +kernel
theorem dX11_isRest_88 : decode cX11_isRest 88 = .ok (.iload 6, 2) := by decide +kernel
theorem dX11_isRest_90 : decode cX11_isRest 90 = .ok (.iconst 0, 1) := by decide +kernel
theorem dX11_isRest_91 : decode cX11_isRest 91 = .ok (.invokevirtual 212, 3) := by decide +kernel
theorem dX11_isRest_94 : decode cX11_isRest 94 = .ok (.aload_n 0, 1) := by decide +kernel
theorem dX11_isRest_95 : decode cX11_isRest 95 = .ok (.iload_n 1, 1) := by decide +kernel
theorem dX11_isRest_96 : decode cX11_isRest 96 = .ok (.iload_n 2, 1) := by decide +kernel
theorem dX11_isRest_97 : decode cX11_isRest 97 = .ok (.iload_n 3, 1) := by decide +kernel
theorem dX11_isRest_98 : decode cX11_isRest 98 = .ok (.iload 4, 2) := by decide +kernel
theorem dX11_isRest_100 : decode cX11_isRest 100 = .ok (.iconst 0, 1) := by decide +kernel
theorem dX11_isRest_101 : decode cX11_isRest 101 = .ok (.invokevirtual 212, 3) := by decide +kernel
theorem dX11_isRest_104 : decode cX11_isRest 104 = .ok (.if_icmp .gt 7, 3) := by decide +kernel
theorem dX11_isRest_107 : decode cX11_isRest 107 = .ok (.iconst 1, 1) := by decide +kernel
theorem dX11_isRest_108 : decode cX11_isRest 108 = .ok (.goto 4, 3) := by decide +kernel
theorem dX11_isRest_111 : decode cX11_isRest 111 = .ok (.iconst 0, 1) := by decide +kernel
theorem dX11_isRest_112 : decode cX11_isRest 112 = .ok (.istore 5, 2) := by decide +kernel
theorem dX11_isRest_114 : decode cX11_isRest 114 = .ok (.iinc 6 1, 3) := by decide +kernel
theorem dX11_isRest_117 : decode cX11_isRest 117 = .ok (.goto (-111), 3) := by decide +kernel
theorem dX11_isRest_120 : decode cX11_isRest 120 = .ok (.iload 5, 2) := by decide +kernel
theorem dX11_isRest_122 : decode cX11_isRest 122 = .ok (.ireturn, 1) := by decide +kernel
theorem dX11_rests_0 : decode cX11_rests 0 = .ok (.aload_n 0, 1) := by decide +kernel
theorem dX11_rests_1 : decode cX11_rests 1 = .ok (.iload_n 1, 1) := by decide +kernel
theorem dX11_rests_2 : decode cX11_rests 2 = .ok (.invokevirtual 133, 3) := by decide +kernel
theorem dX11_rests_5 : decode cX11_rests 5 = .ok (.ifCond .eq 11, 3) := by decide +kernel
theorem dX11_rests_8 : decode cX11_rests 8 = .ok (.aload_n 0, 1) := by decide +kernel
theorem dX11_rests_9 : decode cX11_rests 9 = .ok (.iload_n 2, 1) := by decide +kernel
theorem dX11_rests_10 : decode cX11_rests 10 = .ok (.invokevirtual 133, 3) := by decide +kernel
theorem dX11_rests_13 : decode cX11_rests 13 = .ok (.ifCond .ne 5, 3) := by decide +kernel
theorem dX11_rests_16 : decode cX11_rests 16 = .ok (.iconst (-1), 1) := by decide +kernel
theorem dX11_rests_17 : decode cX11_rests 17 = .ok (.ireturn, 1) := by decide +kernel
theorem dX11_rests_18 : decode cX11_rests 18 = .ok (.iload_n 1, 1) := by decide +kernel
theorem dX11_rests_19 : decode cX11_rests 19 = .ok (.iload_n 2, 1) := by decide +kernel
theorem dX11_rests_20 : decode cX11_rests 20 = .ok (.if_icmp .eq 13, 3) := by decide +kernel
theorem dX11_rests_23 : decode cX11_rests 23 = .ok (.iload_n 3, 1) := by decide +kernel
theorem dX11_rests_24 : decode cX11_rests 24 = .ok (.i2l, 1) := by decide +kernel
theorem dX11_rests_25 : decode cX11_rests 25 = .ok (.lconst 0, 1) := by decide +kernel
theorem dX11_rests_26 : decode cX11_rests 26 = .ok (.lconst 1, 1) := by decide +kernel
theorem dX11_rests_27 : decode cX11_rests 27 = .ok (.invokestatic 62, 3) := by decide +kernel
theorem dX11_rests_30 : decode cX11_rests 30 = .ok (.ifCond .ne 6, 3) := by decide +kernel
theorem dX11_rests_33 : decode cX11_rests 33 = .ok (.bipush (-2), 2) := by decide +kernel
theorem dX11_rests_35 : decode cX11_rests 35 = .ok (.ireturn, 1) := by decide +kernel
theorem dX11_rests_36 : decode cX11_rests 36 = .ok (.aload_n 0, 1) := by decide +kernel
theorem dX11_rests_37 : decode cX11_rests 37 = .ok (.getfield 19, 3) := by decide +kernel
theorem dX11_rests_40 : decode cX11_rests 40 = .ok (.iload_n 1, 1) := by decide +kernel
theorem dX11_rests_41 : decode cX11_rests 41 = .ok (.iaload, 1) := by decide +kernel
theorem dX11_rests_42 : decode cX11_rests 42 = .ok (.ifCond .eq 12, 3) := by decide +kernel
theorem dX11_rests_45 : decode cX11_rests 45 = .ok (.aload_n 0, 1) := by decide +kernel
theorem dX11_rests_46 : decode cX11_rests 46 = .ok (.getfield 19, 3) := by decide +kernel
theorem dX11_rests_49 : decode cX11_rests 49 = .ok (.iload_n 2, 1) := by decide +kernel
theorem dX11_rests_50 : decode cX11_rests 50 = .ok (.iaload, 1) := by decide +kernel
theorem dX11_rests_51 : decode cX11_rests 51 = .ok (.ifCond .ne 6, 3) := by decide +kernel
theorem dX11_rests_54 : decode cX11_rests 54 = .ok (.bipush (-9), 2) := by decide +kernel
theorem dX11_rests_56 : decode cX11_rests 56 = .ok (.ireturn, 1) := by decide +kernel
theorem dX11_rests_57 : decode cX11_rests 57 = .ok (.iconst 0, 1) := by decide +kernel
theorem dX11_rests_58 : decode cX11_rests 58 = .ok (.istore 4, 2) := by decide +kernel
theorem dX11_rests_60 : decode cX11_rests 60 = .ok (.bipush (-9), 2) := by decide +kernel
theorem dX11_rests_62 : decode cX11_rests 62 = .ok (.istore 5, 2) := by decide +kernel
theorem dX11_rests_64 : decode cX11_rests 64 = .ok (.iconst 0, 1) := by decide +kernel
theorem dX11_rests_65 : decode cX11_rests 65 = .ok (.istore 6, 2) := by decide +kernel
theorem dX11_rests_67 : decode cX11_rests 67 = .ok (.iload 6, 2) := by decide +kernel
theorem dX11_rests_69 : decode cX11_rests 69 = .ok (.aload_n 0, 1) := by decide +kernel
theorem dX11_rests_70 : decode cX11_rests 70 = .ok (.getfield 56, 3) := by decide +kernel
theorem dX11_rests_73 : decode cX11_rests 73 = .ok (.aload_n 0, 1) := by decide +kernel
theorem dX11_rests_74 : decode cX11_rests 74 = .ok (.getfield 56, 3) := by decide +kernel
theorem dX11_rests_77 : decode cX11_rests 77 = .ok (.imul, 1) := by decide +kernel
theorem dX11_rests_78 : decode cX11_rests 78 = .ok (.if_icmp .ge 91, 3) := by decide +kernel
theorem dX11_rests_81 : decode cX11_rests 81 = .ok (.iload 6, 2) := by decide +kernel
theorem dX11_rests_83 : decode cX11_rests 83 = .ok (.aload_n 0, 1) := by decide +kernel
theorem dX11_rests_84 : decode cX11_rests 84 = .ok (.getfield 56, 3) := by decide +kernel
theorem dX11_rests_87 : decode cX11_rests 87 = .ok (.idiv, 1) := by decide +kernel
theorem dX11_rests_88 : decode cX11_rests 88 = .ok (.istore 7, 2) := by decide +kernel
theorem dX11_rests_90 : decode cX11_rests 90 = .ok (.iload 6, 2) := by decide +kernel
theorem dX11_rests_92 : decode cX11_rests 92 = .ok (.aload_n 0, 1) := by decide +kernel
theorem dX11_rests_93 : decode cX11_rests 93 = .ok (.getfield 56, 3) := by decide +kernel
theorem dX11_rests_96 : decode cX11_rests 96 = .ok (.irem, 1) := by decide +kernel
theorem dX11_rests_97 : decode cX11_rests 97 = .ok (.istore 8, 2) := by decide +kernel
theorem dX11_rests_99 : decode cX11_rests 99 = .ok (.aload_n 0, 1) := by decide +kernel
theorem dX11_rests_100 : decode cX11_rests 100 = .ok (.getfield 19, 3) := by decide +kernel
theorem dX11_rests_103 : decode cX11_rests 103 = .ok (.iload_n 1, 1) := by decide +kernel
theorem dX11_rests_104 : decode cX11_rests 104 = .ok (.iaload, 1) := by decide +kernel
theorem dX11_rests_105 : decode cX11_rests 105 = .ok (.iload 7, 2) := by decide +kernel
theorem dX11_rests_107 : decode cX11_rests 107 = .ok (.invokestatic 77, 3) := by decide +kernel
theorem dX11_rests_110 : decode cX11_rests 110 = .ok (.ifCond .eq 53, 3) := by decide +kernel
theorem dX11_rests_113 : decode cX11_rests 113 = .ok (.aload_n 0, 1) := by decide +kernel
theorem dX11_rests_114 : decode cX11_rests 114 = .ok (.getfield 19, 3) := by decide +kernel
theorem dX11_rests_117 : decode cX11_rests 117 = .ok (.iload_n 2, 1) := by decide +kernel
theorem dX11_rests_118 : decode cX11_rests 118 = .ok (.iaload, 1) := by decide +kernel
theorem dX11_rests_119 : decode cX11_rests 119 = .ok (.iload 8, 2) := by decide +kernel
theorem dX11_rests_121 : decode cX11_rests 121 = .ok (.invokestatic 77, 3) := by decide +kernel
theorem dX11_rests_124 : decode cX11_rests 124 = .ok (.ifCond .eq 39, 3) := by decide +kernel
theorem dX11_rests_127 : decode cX11_rests 127 = .ok (.aload_n 0, 1) := by decide +kernel
theorem dX11_rests_128 : decode cX11_rests 128 = .ok (.iload_n 1, 1) := by decide +kernel
theorem dX11_rests_129 : decode cX11_rests 129 = .ok (.iload_n 2, 1) := by decide +kernel
theorem dX11_rests_130 : decode cX11_rests 130 = .ok (.iload 7, 2) := by decide +kernel
theorem dX11_rests_132 : decode cX11_rests 132 = .ok (.iload 8, 2) := by decide +kernel
theorem dX11_rests_134 : decode cX11_rests 134 = .ok (.invokevirtual 216, 3) := by decide +kernel
theorem dX11_rests_137 : decode cX11_rests 137 = .ok (.ifCond .eq 26, 3) := by decide +kernel
theorem dX11_rests_140 : decode cX11_rests 140 = .ok (.iload 4, 2) := by decide +kernel
theorem dX11_rests_142 : decode cX11_rests 142 = .ok (.ifCond .ne 14, 3) := by decide +kernel
theorem dX11_rests_145 : decode cX11_rests 145 = .ok (.bipush 10, 2) := by decide +kernel
theorem dX11_rests_147 : decode cX11_rests 147 = .ok (.iload 7, 2) := by decide +kernel
theorem dX11_rests_149 : decode cX11_rests 149 = .ok (.imul, 1) := by decide +kernel
theorem dX11_rests_150 : decode cX11_rests 150 = .ok (.iload 8, 2) := by decide +kernel
theorem dX11_rests_152 : decode cX11_rests 152 = .ok (.iadd, 1) := by decide +kernel
theorem dX11_rests_153 : decode cX11_rests 153 = .ok (.goto 5, 3) := by decide +kernel
theorem dX11_rests_156 : decode cX11_rests 156 = .ok (.iload 5, 2) := by decide +kernel
theorem dX11_rests_158 : decode cX11_rests 158 = .ok (.istore 5, 2) := by decide +kernel
theorem dX11_rests_160 : decode cX11_rests 160 = .ok (.iinc 4 1, 3) := by decide +kernel
theorem dX11_rests_163 : decode cX11_rests 163 = .ok (.iinc 6 1, 3) := by decide +kernel
theorem dX11_rests_166 : decode cX11_rests 166 = .ok (.goto (-99), 3) := by decide +kernel
theorem dX11_rests_169 : decode cX11_rests 169 = .ok (.iload_n 3, 1) := by decide +kernel
theorem dX11_rests_170 : decode cX11_rests 170 = .ok (.ifCond .ne 8, 3) := by decide +kernel
theorem dX11_rests_173 : decode cX11_rests 173 = .ok (.iload 4, 2) := by decide +kernel
theorem dX11_rests_175 : decode cX11_rests 175 = .ok (.goto 5, 3) := by decide +kernel
theorem dX11_rests_178 : decode cX11_rests 178 = .ok (.iload 5, 2) := by decide +kernel
theorem dX11_rests_180 : decode cX11_rests 180 = .ok (.ireturn, 1) := by decide +kernel
theorem dX11_leak_0 : decode cX11_leak 0 = .ok (.iload_n 1, 1) := by decide +kernel
theorem dX11_leak_1 : decode cX11_leak 1 = .ok (.i2l, 1) := by decide +kernel
theorem dX11_leak_2 : decode cX11_leak 2 = .ok (.lconst 0, 1) := by decide +kernel
theorem dX11_leak_3 : decode cX11_leak 3 = .ok (.ldc2_w 220, 3) := by decide +kernel
theorem dX11_leak_6 : decode cX11_leak 6 = .ok (.invokestatic 62, 3) := by decide +kernel
theorem dX11_leak_9 : decode cX11_leak 9 = .ok (.ifCond .eq 15, 3) := by decide +kernel
theorem dX11_leak_12 : decode cX11_leak 12 = .ok (.iload_n 2, 1) := by decide +kernel
theorem dX11_leak_13 : decode cX11_leak 13 = .ok (.i2l, 1) := by decide +kernel
theorem dX11_leak_14 : decode cX11_leak 14 = .ok (.lconst 0, 1) := by decide +kernel
theorem dX11_leak_15 : decode cX11_leak 15 = .ok (.ldc2_w 222, 3) := by decide +kernel
theorem dX11_leak_18 : decode cX11_leak 18 = .ok (.invokestatic 62, 3) := by decide +kernel
theorem dX11_leak_21 : decode cX11_leak 21 = .ok (.ifCond .ne 6, 3) := by decide +kernel
theorem dX11_leak_24 : decode cX11_leak 24 = .ok (.bipush (-2), 2) := by decide +kernel
theorem dX11_leak_26 : decode cX11_leak 26 = .ok (.ireturn, 1) := by decide +kernel
theorem dX11_leak_27 : decode cX11_leak 27 = .ok (.iconst 0, 1) := by decide +kernel
theorem dX11_leak_28 : decode cX11_leak 28 = .ok (.istore 4, 2) := by decide +kernel
theorem dX11_leak_30 : decode cX11_leak 30 = .ok (.iconst 0, 1) := by decide +kernel
theorem dX11_leak_31 : decode cX11_leak 31 = .ok (.istore 5, 2) := by decide +kernel
theorem dX11_leak_33 : decode cX11_leak 33 = .ok (.iconst 0, 1) := by decide +kernel
theorem dX11_leak_34 : decode cX11_leak 34 = .ok (.istore 6, 2) := by decide +kernel
theorem dX11_leak_36 : decode cX11_leak 36 = .ok (.iload 6, 2) := by decide +kernel
theorem dX11_leak_38 : decode cX11_leak 38 = .ok (.iconst 1, 1) := by decide +kernel
theorem dX11_leak_39 : decode cX11_leak 39 = .ok (.aload_n 0, 1) := by decide +kernel
theorem dX11_leak_40 : decode cX11_leak 40 = .ok (.getfield 56, 3) := by decide +kernel
theorem dX11_leak_43 : decode cX11_leak 43 = .ok (.ishl, 1) := by decide +kernel
theorem dX11_leak_44 : decode cX11_leak 44 = .ok (.if_icmp .ge 132, 3) := by decide +kernel
theorem dX11_leak_47 : decode cX11_leak 47 = .ok (.aload_n 0, 1) := by decide +kernel
theorem dX11_leak_48 : decode cX11_leak 48 = .ok (.invokevirtual 164, 3) := by decide +kernel
theorem dX11_leak_51 : decode cX11_leak 51 = .ok (.iconst 1, 1) := by decide +kernel
theorem dX11_leak_52 : decode cX11_leak 52 = .ok (.istore 7, 2) := by decide +kernel
theorem dX11_leak_54 : decode cX11_leak 54 = .ok (.iconst 0, 1) := by decide +kernel
theorem dX11_leak_55 : decode cX11_leak 55 = .ok (.istore 8, 2) := by decide +kernel
theorem dX11_leak_57 : decode cX11_leak 57 = .ok (.iload 8, 2) := by decide +kernel
theorem dX11_leak_59 : decode cX11_leak 59 = .ok (.aload_n 0, 1) := by decide +kernel
theorem dX11_leak_60 : decode cX11_leak 60 = .ok (.getfield 56, 3) := by decide +kernel
theorem dX11_leak_63 : decode cX11_leak 63 = .ok (.if_icmp .ge 73, 3) := by decide +kernel
theorem dX11_leak_66 : decode cX11_leak 66 = .ok (.iload 7, 2) := by decide +kernel
theorem dX11_leak_68 : decode cX11_leak 68 = .ok (.iload 6, 2) := by decide +kernel
theorem dX11_leak_70 : decode cX11_leak 70 = .ok (.iload 8, 2) := by decide +kernel
theorem dX11_leak_72 : decode cX11_leak 72 = .ok (.invokestatic 77, 3) := by decide +kernel
theorem dX11_leak_75 : decode cX11_leak 75 = .ok (.ifCond .eq 7, 3) := by decide +kernel
theorem dX11_leak_78 : decode cX11_leak 78 = .ok (.iload_n 2, 1) := by decide +kernel
theorem dX11_leak_79 : decode cX11_leak 79 = .ok (.goto 7, 3) := by decide +kernel
theorem dX11_leak_82 : decode cX11_leak 82 = .ok (.bipush 10, 2) := by decide +kernel
theorem dX11_leak_84 : decode cX11_leak 84 = .ok (.iload_n 2, 1) := by decide +kernel
theorem dX11_leak_85 : decode cX11_leak 85 = .ok (.isub, 1) := by decide +kernel
theorem dX11_leak_86 : decode cX11_leak 86 = .ok (.imul, 1) := by decide +kernel
theorem dX11_leak_87 : decode cX11_leak 87 = .ok (.istore 7, 2) := by decide +kernel
theorem dX11_leak_89 : decode cX11_leak 89 = .ok (.aload_n 0, 1) := by decide +kernel
theorem dX11_leak_90 : decode cX11_leak 90 = .ok (.getfield 22, 3) := by decide +kernel
theorem dX11_leak_93 : decode cX11_leak 93 = .ok (.bipush 15, 2) := by decide +kernel
theorem dX11_leak_95 : decode cX11_leak 95 = .ok (.iload 8, 2) := by decide +kernel
theorem dX11_leak_97 : decode cX11_leak 97 = .ok (.iadd, 1) := by decide +kernel
theorem dX11_leak_98 : decode cX11_leak 98 = .ok (.dup2, 1) := by decide +kernel
theorem dX11_leak_99 : decode cX11_leak 99 = .ok (.iaload, 1) := by decide +kernel
theorem dX11_leak_100 : decode cX11_leak 100 = .ok (.iload 6, 2) := by decide +kernel
theorem dX11_leak_102 : decode cX11_leak 102 = .ok (.iload 8, 2) := by decide +kernel
theorem dX11_leak_104 : decode cX11_leak 104 = .ok (.invokestatic 77, 3) := by decide +kernel
theorem dX11_leak_107 : decode cX11_leak 107 = .ok (.ifCond .eq 20, 3) := by decide +kernel
theorem dX11_leak_110 : decode cX11_leak 110 = .ok (.aload_n 0, 1) := by decide +kernel
theorem dX11_leak_111 : decode cX11_leak 111 = .ok (.getfield 22, 3) := by decide +kernel
theorem dX11_leak_114 : decode cX11_leak 114 = .ok (.bipush 15, 2) := by decide +kernel
theorem dX11_leak_116 : decode cX11_leak 116 = .ok (.iload 8, 2) := by decide +kernel
theorem dX11_leak_118 : decode cX11_leak 118 = .ok (.iadd, 1) := by decide +kernel
theorem dX11_leak_119 : decode cX11_leak 119 = .ok (.iaload, 1) := by decide +kernel
theorem dX11_leak_120 : decode cX11_leak 120 = .ok (.ifCond .le 7, 3) := by decide +kernel
theorem dX11_leak_123 : decode cX11_leak 123 = .ok (.iconst 1, 1) := by decide +kernel
theorem dX11_leak_124 : decode cX11_leak 124 = .ok (.goto 4, 3) := by decide +kernel
theorem dX11_leak_127 : decode cX11_leak 127 = .ok (.iconst 0, 1) := by decide +kernel
theorem dX11_leak_128 : decode cX11_leak 128 = .ok (.isub, 1) := by decide +kernel
theorem dX11_leak_129 : decode cX11_leak 129 = .ok (.iastore, 1) := by decide +kernel
theorem dX11_leak_130 : decode cX11_leak 130 = .ok (.iinc 8 1, 3) := by decide +kernel
theorem dX11_leak_133 : decode cX11_leak 133 = .ok (.goto (-76), 3) := by decide +kernel
theorem dX11_leak_136 : decode cX11_leak 136 = .ok (.aload_n 0, 1) := by decide +kernel
theorem dX11_leak_137 : decode cX11_leak 137 = .ok (.iconst 1, 1) := by decide +kernel
theorem dX11_leak_138 : decode cX11_leak 138 = .ok (.bipush 15, 2) := by decide +kernel
theorem dX11_leak_140 : decode cX11_leak 140 = .ok (.invokevirtual 167, 3) := by decide +kernel
theorem dX11_leak_143 : decode cX11_leak 143 = .ok (.iload 5, 2) := by decide +kernel
theorem dX11_leak_145 : decode cX11_leak 145 = .ok (.iload 7, 2) := by decide +kernel
theorem dX11_leak_147 : decode cX11_leak 147 = .ok (.iadd, 1) := by decide +kernel
theorem dX11_leak_148 : decode cX11_leak 148 = .ok (.istore 5, 2) := by decide +kernel
theorem dX11_leak_150 : decode cX11_leak 150 = .ok (.iload 4, 2) := by decide +kernel
theorem dX11_leak_152 : decode cX11_leak 152 = .ok (.aload_n 0, 1) := by decide +kernel
theorem dX11_leak_153 : decode cX11_leak 153 = .ok (.iconst 1, 1) := by decide +kernel
theorem dX11_leak_154 : decode cX11_leak 154 = .ok (.invokevirtual 161, 3) := by decide +kernel
theorem dX11_leak_157 : decode cX11_leak 157 = .ok (.iload_n 1, 1) := by decide +kernel
theorem dX11_leak_158 : decode cX11_leak 158 = .ok (.if_icmp .lt 8, 3) := by decide +kernel
theorem dX11_leak_161 : decode cX11_leak 161 = .ok (.iload 7, 2) := by decide +kernel
theorem dX11_leak_163 : decode cX11_leak 163 = .ok (.goto 4, 3) := by decide +kernel
theorem dX11_leak_166 : decode cX11_leak 166 = .ok (.iconst 0, 1) := by decide +kernel
theorem dX11_leak_167 : decode cX11_leak 167 = .ok (.iadd, 1) := by decide +kernel
theorem dX11_leak_168 : decode cX11_leak 168 = .ok (.istore 4, 2) := by decide +kernel
theorem dX11_leak_170 : decode cX11_leak 170 = .ok (.iinc 6 1, 3) := by decide +kernel
theorem dX11_leak_173 : decode cX11_leak 173 = .ok (.goto (-137), 3) := by decide +kernel
theorem dX11_leak_176 : decode cX11_leak 176 = .ok (.iload 4, 2) := by decide +kernel
theorem dX11_leak_178 : decode cX11_leak 178 = .ok (.iload 5, 2) := by decide +kernel
theorem dX11_leak_180 : decode cX11_leak 180 = .ok (.invokestatic 209, 3) := by decide +kernel
theorem dX11_leak_183 : decode cX11_leak 183 = .ok (.istore 6, 2) := by decide +kernel
theorem dX11_leak_185 : decode cX11_leak 185 = .ok (.iload_n 3, 1) := by decide +kernel
theorem dX11_leak_186 : decode cX11_leak 186 = .ok (.ifCond .eq 11, 3) := by decide +kernel
theorem dX11_leak_189 : decode cX11_leak 189 = .ok (.iload 4, 2) := by decide +kernel
theorem dX11_leak_191 : decode cX11_leak 191 = .ok (.iload 6, 2) := by decide +kernel
theorem dX11_leak_193 : decode cX11_leak 193 = .ok (.idiv, 1) := by decide +kernel
theorem dX11_leak_194 : decode cX11_leak 194 = .ok (.goto 8, 3) := by decide +kernel
theorem dX11_leak_197 : decode cX11_leak 197 = .ok (.iload 5, 2) := by decide +kernel
theorem dX11_leak_199 : decode cX11_leak 199 = .ok (.iload 6, 2) := by decide +kernel
theorem dX11_leak_201 : decode cX11_leak 201 = .ok (.idiv, 1) := by decide +kernel
theorem dX11_leak_202 : decode cX11_leak 202 = .ok (.ireturn, 1) := by decide +kernel
theorem dX11_seed_0 : decode cX11_seed 0 = .ok (.aload_n 0, 1) := by decide +kernel
theorem dX11_seed_1 : decode cX11_seed 1 = .ok (.getfield 224, 3) := by decide +kernel
theorem dX11_seed_4 : decode cX11_seed 4 = .ok (.lstore_n 3, 1) := by decide +kernel
theorem dX11_seed_5 : decode cX11_seed 5 = .ok (.aload_n 0, 1) := by decide +kernel
theorem dX11_seed_6 : decode cX11_seed 6 = .ok (.lload_n 1, 1) := by decide +kernel
theorem dX11_seed_7 : decode cX11_seed 7 = .ok (.putfield 224, 3) := by decide +kernel
theorem dX11_seed_10 : decode cX11_seed 10 = .ok (.lload_n 3, 1) := by decide +kernel
theorem dX11_seed_11 : decode cX11_seed 11 = .ok (.lreturn, 1) := by decide +kernel
theorem dX11_nights_0 : decode cX11_nights 0 = .ok (.iload_n 1, 1) := by decide +kernel
theorem dX11_nights_1 : decode cX11_nights 1 = .ok (.i2l, 1) := by decide +kernel
theorem dX11_nights_2 : decode cX11_nights 2 = .ok (.lconst 1, 1) := by decide +kernel
theorem dX11_nights_3 : decode cX11_nights 3 = .ok (.ldc2_w 228, 3) := by decide +kernel
theorem dX11_nights_6 : decode cX11_nights 6 = .ok (.invokestatic 62, 3) := by decide +kernel
theorem dX11_nights_9 : decode cX11_nights 9 = .ok (.ifCond .ne 6, 3) := by decide +kernel
theorem dX11_nights_12 : decode cX11_nights 12 = .ok (.bipush (-2), 2) := by decide +kernel
theorem dX11_nights_14 : decode cX11_nights 14 = .ok (.ireturn, 1) := by decide +kernel
theorem dX11_nights_15 : decode cX11_nights 15 = .ok (.aload_n 0, 1) := by decide +kernel
theorem dX11_nights_16 : decode cX11_nights 16 = .ok (.invokevirtual 164, 3) := by decide +kernel
theorem dX11_nights_19 : decode cX11_nights 19 = .ok (.iconst 0, 1) := by decide +kernel
theorem dX11_nights_20 : decode cX11_nights 20 = .ok (.istore_n 2, 1) := by decide +kernel
theorem dX11_nights_21 : decode cX11_nights 21 = .ok (.iconst 0, 1) := by decide +kernel
theorem dX11_nights_22 : decode cX11_nights 22 = .ok (.istore_n 3, 1) := by decide +kernel
theorem dX11_nights_23 : decode cX11_nights 23 = .ok (.iload_n 3, 1) := by decide +kernel
theorem dX11_nights_24 : decode cX11_nights 24 = .ok (.iload_n 1, 1) := by decide +kernel
theorem dX11_nights_25 : decode cX11_nights 25 = .ok (.if_icmp .ge 117, 3) := by decide +kernel
theorem dX11_nights_28 : decode cX11_nights 28 = .ok (.aload_n 0, 1) := by decide +kernel
theorem dX11_nights_29 : decode cX11_nights 29 = .ok (.aload_n 0, 1) := by decide +kernel
theorem dX11_nights_30 : decode cX11_nights 30 = .ok (.getfield 224, 3) := by decide +kernel
theorem dX11_nights_33 : decode cX11_nights 33 = .ok (.ldc2_w 230, 3) := by decide +kernel
theorem dX11_nights_36 : decode cX11_nights 36 = .ok (.lmul, 1) := by decide +kernel
theorem dX11_nights_37 : decode cX11_nights 37 = .ok (.ldc2_w 232, 3) := by decide +kernel
theorem dX11_nights_40 : decode cX11_nights 40 = .ok (.ladd, 1) := by decide +kernel
theorem dX11_nights_41 : decode cX11_nights 41 = .ok (.putfield 224, 3) := by decide +kernel
theorem dX11_nights_44 : decode cX11_nights 44 = .ok (.aload_n 0, 1) := by decide +kernel
theorem dX11_nights_45 : decode cX11_nights 45 = .ok (.getfield 224, 3) := by decide +kernel
theorem dX11_nights_48 : decode cX11_nights 48 = .ok (.bipush 33, 2) := by decide +kernel
theorem dX11_nights_50 : decode cX11_nights 50 = .ok (.lushr, 1) := by decide +kernel
theorem dX11_nights_51 : decode cX11_nights 51 = .ok (.ldc2_w 234, 3) := by decide +kernel
theorem dX11_nights_54 : decode cX11_nights 54 = .ok (.lrem, 1) := by decide +kernel
theorem dX11_nights_55 : decode cX11_nights 55 = .ok (.l2i, 1) := by decide +kernel
theorem dX11_nights_56 : decode cX11_nights 56 = .ok (.istore 4, 2) := by decide +kernel
theorem dX11_nights_58 : decode cX11_nights 58 = .ok (.iload 4, 2) := by decide +kernel
theorem dX11_nights_60 : decode cX11_nights 60 = .ok (.bipush 19, 2) := by decide +kernel
theorem dX11_nights_62 : decode cX11_nights 62 = .ok (.if_icmp .le 11, 3) := by decide +kernel
theorem dX11_nights_65 : decode cX11_nights 65 = .ok (.aload_n 0, 1) := by decide +kernel
theorem dX11_nights_66 : decode cX11_nights 66 = .ok (.iconst 1, 1) := by decide +kernel
theorem dX11_nights_67 : decode cX11_nights 67 = .ok (.invokevirtual 158, 3) := by decide +kernel
theorem dX11_nights_70 : decode cX11_nights 70 = .ok (.goto 58, 3) := by decide +kernel
theorem dX11_nights_73 : decode cX11_nights 73 = .ok (.aload_n 0, 1) := by decide +kernel
theorem dX11_nights_74 : decode cX11_nights 74 = .ok (.iload 4, 2) := by decide +kernel
theorem dX11_nights_76 : decode cX11_nights 76 = .ok (.iconst 5, 1) := by decide +kernel
theorem dX11_nights_77 : decode cX11_nights 77 = .ok (.idiv, 1) := by decide +kernel
theorem dX11_nights_78 : decode cX11_nights 78 = .ok (.invokevirtual 133, 3) := by decide +kernel
theorem dX11_nights_81 : decode cX11_nights 81 = .ok (.ifCond .eq 47, 3) := by decide +kernel
theorem dX11_nights_84 : decode cX11_nights 84 = .ok (.aload_n 0, 1) := by decide +kernel
theorem dX11_nights_85 : decode cX11_nights 85 = .ok (.iload 4, 2) := by decide +kernel
theorem dX11_nights_87 : decode cX11_nights 87 = .ok (.iconst 5, 1) := by decide +kernel
theorem dX11_nights_88 : decode cX11_nights 88 = .ok (.irem, 1) := by decide +kernel
theorem dX11_nights_89 : decode cX11_nights 89 = .ok (.invokevirtual 126, 3) := by decide +kernel
theorem dX11_nights_92 : decode cX11_nights 92 = .ok (.ifCond .eq 36, 3) := by decide +kernel
theorem dX11_nights_95 : decode cX11_nights 95 = .ok (.aload_n 0, 1) := by decide +kernel
theorem dX11_nights_96 : decode cX11_nights 96 = .ok (.getfield 19, 3) := by decide +kernel
theorem dX11_nights_99 : decode cX11_nights 99 = .ok (.iload 4, 2) := by decide +kernel
theorem dX11_nights_101 : decode cX11_nights 101 = .ok (.iconst 5, 1) := by decide +kernel
theorem dX11_nights_102 : decode cX11_nights 102 = .ok (.idiv, 1) := by decide +kernel
theorem dX11_nights_103 : decode cX11_nights 103 = .ok (.iaload, 1) := by decide +kernel
theorem dX11_nights_104 : decode cX11_nights 104 = .ok (.iload 4, 2) := by decide +kernel
theorem dX11_nights_106 : decode cX11_nights 106 = .ok (.iconst 5, 1) := by decide +kernel
theorem dX11_nights_107 : decode cX11_nights 107 = .ok (.irem, 1) := by decide +kernel
theorem dX11_nights_108 : decode cX11_nights 108 = .ok (.invokestatic 77, 3) := by decide +kernel
theorem dX11_nights_111 : decode cX11_nights 111 = .ok (.ifCond .eq 17, 3) := by decide +kernel
theorem dX11_nights_114 : decode cX11_nights 114 = .ok (.aload_n 0, 1) := by decide +kernel
theorem dX11_nights_115 : decode cX11_nights 115 = .ok (.iconst 1, 1) := by decide +kernel
theorem dX11_nights_116 : decode cX11_nights 116 = .ok (.iload 4, 2) := by decide +kernel
theorem dX11_nights_118 : decode cX11_nights 118 = .ok (.iconst 5, 1) := by decide +kernel
theorem dX11_nights_119 : decode cX11_nights 119 = .ok (.idiv, 1) := by decide +kernel
theorem dX11_nights_120 : decode cX11_nights 120 = .ok (.iload 4, 2) := by decide +kernel
theorem dX11_nights_122 : decode cX11_nights 122 = .ok (.iconst 5, 1) := by decide +kernel
theorem dX11_nights_123 : decode cX11_nights 123 = .ok (.irem, 1) := by decide +kernel
theorem dX11_nights_124 : decode cX11_nights 124 = .ok (.invokevirtual 115, 3) := by decide +kernel
theorem dX11_nights_127 : decode cX11_nights 127 = .ok (.pop, 1) := by decide +kernel
theorem dX11_nights_128 : decode cX11_nights 128 = .ok (.iload_n 2, 1) := by decide +kernel
theorem dX11_nights_129 : decode cX11_nights 129 = .ok (.aload_n 0, 1) := by decide +kernel
theorem dX11_nights_130 : decode cX11_nights 130 = .ok (.iconst 1, 1) := by decide +kernel
theorem dX11_nights_131 : decode cX11_nights 131 = .ok (.invokevirtual 161, 3) := by decide +kernel
theorem dX11_nights_134 : decode cX11_nights 134 = .ok (.iadd, 1) := by decide +kernel
theorem dX11_nights_135 : decode cX11_nights 135 = .ok (.istore_n 2, 1) := by decide +kernel
theorem dX11_nights_136 : decode cX11_nights 136 = .ok (.iinc 3 1, 3) := by decide +kernel
theorem dX11_nights_139 : decode cX11_nights 139 = .ok (.goto (-116), 3) := by decide +kernel
theorem dX11_nights_142 : decode cX11_nights 142 = .ok (.iload_n 2, 1) := by decide +kernel
theorem dX11_nights_143 : decode cX11_nights 143 = .ok (.ireturn, 1) := by decide +kernel
theorem dX11_keep_0 : decode cX11_keep 0 = .ok (.iload_n 1, 1) := by decide +kernel
theorem dX11_keep_1 : decode cX11_keep 1 = .ok (.i2l, 1) := by decide +kernel
theorem dX11_keep_2 : decode cX11_keep 2 = .ok (.lconst 0, 1) := by decide +kernel
theorem dX11_keep_3 : decode cX11_keep 3 = .ok (.lconst 1, 1) := by decide +kernel
theorem dX11_keep_4 : decode cX11_keep 4 = .ok (.invokestatic 62, 3) := by decide +kernel
theorem dX11_keep_7 : decode cX11_keep 7 = .ok (.ifCond .ne 5, 3) := by decide +kernel
theorem dX11_keep_10 : decode cX11_keep 10 = .ok (.iconst (-1), 1) := by decide +kernel
theorem dX11_keep_11 : decode cX11_keep 11 = .ok (.ireturn, 1) := by decide +kernel
theorem dX11_keep_12 : decode cX11_keep 12 = .ok (.aload_n 0, 1) := by decide +kernel
theorem dX11_keep_13 : decode cX11_keep 13 = .ok (.getfield 49, 3) := by decide +kernel
theorem dX11_keep_16 : decode cX11_keep 16 = .ok (.iload_n 1, 1) := by decide +kernel
theorem dX11_keep_17 : decode cX11_keep 17 = .ok (.iconst 1, 1) := by decide +kernel
theorem dX11_keep_18 : decode cX11_keep 18 = .ok (.bastore, 1) := by decide +kernel
theorem dX11_keep_19 : decode cX11_keep 19 = .ok (.iconst 0, 1) := by decide +kernel
theorem dX11_keep_20 : decode cX11_keep 20 = .ok (.istore_n 2, 1) := by decide +kernel
theorem dX11_keep_21 : decode cX11_keep 21 = .ok (.iload_n 2, 1) := by decide +kernel
theorem dX11_keep_22 : decode cX11_keep 22 = .ok (.bipush 15, 2) := by decide +kernel
theorem dX11_keep_24 : decode cX11_keep 24 = .ok (.if_icmp .ge 26, 3) := by decide +kernel
theorem dX11_keep_27 : decode cX11_keep 27 = .ok (.aload_n 0, 1) := by decide +kernel
theorem dX11_keep_28 : decode cX11_keep 28 = .ok (.getfield 53, 3) := by decide +kernel
theorem dX11_keep_31 : decode cX11_keep 31 = .ok (.bipush 15, 2) := by decide +kernel
theorem dX11_keep_33 : decode cX11_keep 33 = .ok (.iload_n 1, 1) := by decide +kernel
theorem dX11_keep_34 : decode cX11_keep 34 = .ok (.imul, 1) := by decide +kernel
theorem dX11_keep_35 : decode cX11_keep 35 = .ok (.iload_n 2, 1) := by decide +kernel
theorem dX11_keep_36 : decode cX11_keep 36 = .ok (.iadd, 1) := by decide +kernel
theorem dX11_keep_37 : decode cX11_keep 37 = .ok (.aload_n 0, 1) := by decide +kernel
theorem dX11_keep_38 : decode cX11_keep 38 = .ok (.getfield 22, 3) := by decide +kernel
theorem dX11_keep_41 : decode cX11_keep 41 = .ok (.iload_n 2, 1) := by decide +kernel
theorem dX11_keep_42 : decode cX11_keep 42 = .ok (.iaload, 1) := by decide +kernel
theorem dX11_keep_43 : decode cX11_keep 43 = .ok (.iastore, 1) := by decide +kernel
theorem dX11_keep_44 : decode cX11_keep 44 = .ok (.iinc 2 1, 3) := by decide +kernel
theorem dX11_keep_47 : decode cX11_keep 47 = .ok (.goto (-26), 3) := by decide +kernel
theorem dX11_keep_50 : decode cX11_keep 50 = .ok (.aload_n 0, 1) := by decide +kernel
theorem dX11_keep_51 : decode cX11_keep 51 = .ok (.getfield 22, 3) := by decide +kernel
theorem dX11_keep_54 : decode cX11_keep 54 = .ok (.bipush 14, 2) := by decide +kernel
theorem dX11_keep_56 : decode cX11_keep 56 = .ok (.iaload, 1) := by decide +kernel
theorem dX11_keep_57 : decode cX11_keep 57 = .ok (.ireturn, 1) := by decide +kernel
theorem dX11_again_0 : decode cX11_again 0 = .ok (.iload_n 1, 1) := by decide +kernel
theorem dX11_again_1 : decode cX11_again 1 = .ok (.i2l, 1) := by decide +kernel
theorem dX11_again_2 : decode cX11_again 2 = .ok (.lconst 0, 1) := by decide +kernel
theorem dX11_again_3 : decode cX11_again 3 = .ok (.lconst 1, 1) := by decide +kernel
theorem dX11_again_4 : decode cX11_again 4 = .ok (.invokestatic 62, 3) := by decide +kernel
theorem dX11_again_7 : decode cX11_again 7 = .ok (.ifCond .ne 5, 3) := by decide +kernel
theorem dX11_again_10 : decode cX11_again 10 = .ok (.iconst (-1), 1) := by decide +kernel
theorem dX11_again_11 : decode cX11_again 11 = .ok (.ireturn, 1) := by decide +kernel
theorem dX11_again_12 : decode cX11_again 12 = .ok (.aload_n 0, 1) := by decide +kernel
theorem dX11_again_13 : decode cX11_again 13 = .ok (.getfield 49, 3) := by decide +kernel
theorem dX11_again_16 : decode cX11_again 16 = .ok (.iload_n 1, 1) := by decide +kernel
theorem dX11_again_17 : decode cX11_again 17 = .ok (.baload, 1) := by decide +kernel
theorem dX11_again_18 : decode cX11_again 18 = .ok (.ifCond .ne 6, 3) := by decide +kernel
theorem dX11_again_21 : decode cX11_again 21 = .ok (.bipush (-3), 2) := by decide +kernel
theorem dX11_again_23 : decode cX11_again 23 = .ok (.ireturn, 1) := by decide +kernel
theorem dX11_again_24 : decode cX11_again 24 = .ok (.iconst 0, 1) := by decide +kernel
theorem dX11_again_25 : decode cX11_again 25 = .ok (.istore_n 2, 1) := by decide +kernel
theorem dX11_again_26 : decode cX11_again 26 = .ok (.iload_n 2, 1) := by decide +kernel
theorem dX11_again_27 : decode cX11_again 27 = .ok (.bipush 15, 2) := by decide +kernel
theorem dX11_again_29 : decode cX11_again 29 = .ok (.if_icmp .ge 26, 3) := by decide +kernel
theorem dX11_again_32 : decode cX11_again 32 = .ok (.aload_n 0, 1) := by decide +kernel
theorem dX11_again_33 : decode cX11_again 33 = .ok (.getfield 22, 3) := by decide +kernel
theorem dX11_again_36 : decode cX11_again 36 = .ok (.iload_n 2, 1) := by decide +kernel
theorem dX11_again_37 : decode cX11_again 37 = .ok (.aload_n 0, 1) := by decide +kernel
theorem dX11_again_38 : decode cX11_again 38 = .ok (.getfield 53, 3) := by decide +kernel
theorem dX11_again_41 : decode cX11_again 41 = .ok (.bipush 15, 2) := by decide +kernel
theorem dX11_again_43 : decode cX11_again 43 = .ok (.iload_n 1, 1) := by decide +kernel
theorem dX11_again_44 : decode cX11_again 44 = .ok (.imul, 1) := by decide +kernel
theorem dX11_again_45 : decode cX11_again 45 = .ok (.iload_n 2, 1) := by decide +kernel
theorem dX11_again_46 : decode cX11_again 46 = .ok (.iadd, 1) := by decide +kernel
theorem dX11_again_47 : decode cX11_again 47 = .ok (.iaload, 1) := by decide +kernel
theorem dX11_again_48 : decode cX11_again 48 = .ok (.iastore, 1) := by decide +kernel
theorem dX11_again_49 : decode cX11_again 49 = .ok (.iinc 2 1, 3) := by decide +kernel
theorem dX11_again_52 : decode cX11_again 52 = .ok (.goto (-26), 3) := by decide +kernel
theorem dX11_again_55 : decode cX11_again 55 = .ok (.aload_n 0, 1) := by decide +kernel
theorem dX11_again_56 : decode cX11_again 56 = .ok (.iconst 0, 1) := by decide +kernel
theorem dX11_again_57 : decode cX11_again 57 = .ok (.putfield 108, 3) := by decide +kernel
theorem dX11_again_60 : decode cX11_again 60 = .ok (.aload_n 0, 1) := by decide +kernel
theorem dX11_again_61 : decode cX11_again 61 = .ok (.getfield 22, 3) := by decide +kernel
theorem dX11_again_64 : decode cX11_again 64 = .ok (.bipush 14, 2) := by decide +kernel
theorem dX11_again_66 : decode cX11_again 66 = .ok (.iaload, 1) := by decide +kernel
theorem dX11_again_67 : decode cX11_again 67 = .ok (.ireturn, 1) := by decide +kernel
theorem dX11_count_0 : decode cX11_count 0 = .ok (.iload_n 1, 1) := by decide +kernel
theorem dX11_count_1 : decode cX11_count 1 = .ok (.tableswitch 93 0 7 #[47, 52, 57, 62, 68, 75, 83, 88], 47) := by decide +kernel
theorem dX11_count_48 : decode cX11_count 48 = .ok (.aload_n 0, 1) := by decide +kernel
theorem dX11_count_49 : decode cX11_count 49 = .ok (.getfield 66, 3) := by decide +kernel
theorem dX11_count_52 : decode cX11_count 52 = .ok (.ireturn, 1) := by decide +kernel
theorem dX11_count_53 : decode cX11_count 53 = .ok (.aload_n 0, 1) := by decide +kernel
theorem dX11_count_54 : decode cX11_count 54 = .ok (.getfield 56, 3) := by decide +kernel
theorem dX11_count_57 : decode cX11_count 57 = .ok (.ireturn, 1) := by decide +kernel
theorem dX11_count_58 : decode cX11_count 58 = .ok (.aload_n 0, 1) := by decide +kernel
theorem dX11_count_59 : decode cX11_count 59 = .ok (.getfield 105, 3) := by decide +kernel
theorem dX11_count_62 : decode cX11_count 62 = .ok (.ireturn, 1) := by decide +kernel
theorem dX11_count_63 : decode cX11_count 63 = .ok (.aload_n 0, 1) := by decide +kernel
theorem dX11_count_64 : decode cX11_count 64 = .ok (.iconst 0, 1) := by decide +kernel
theorem dX11_count_65 : decode cX11_count 65 = .ok (.invokevirtual 161, 3) := by decide +kernel
theorem dX11_count_68 : decode cX11_count 68 = .ok (.ireturn, 1) := by decide +kernel
theorem dX11_count_69 : decode cX11_count 69 = .ok (.aload_n 0, 1) := by decide +kernel
theorem dX11_count_70 : decode cX11_count 70 = .ok (.iconst 0, 1) := by decide +kernel
theorem dX11_count_71 : decode cX11_count 71 = .ok (.iconst 1, 1) := by decide +kernel
theorem dX11_count_72 : decode cX11_count 72 = .ok (.invokevirtual 170, 3) := by decide +kernel
theorem dX11_count_75 : decode cX11_count 75 = .ok (.ireturn, 1) := by decide +kernel
theorem dX11_count_76 : decode cX11_count 76 = .ok (.aload_n 0, 1) := by decide +kernel
theorem dX11_count_77 : decode cX11_count 77 = .ok (.getfield 22, 3) := by decide +kernel
theorem dX11_count_80 : decode cX11_count 80 = .ok (.bipush 14, 2) := by decide +kernel
theorem dX11_count_82 : decode cX11_count 82 = .ok (.iaload, 1) := by decide +kernel
theorem dX11_count_83 : decode cX11_count 83 = .ok (.ireturn, 1) := by decide +kernel
theorem dX11_count_84 : decode cX11_count 84 = .ok (.aload_n 0, 1) := by decide +kernel
theorem dX11_count_85 : decode cX11_count 85 = .ok (.getfield 108, 3) := by decide +kernel
theorem dX11_count_88 : decode cX11_count 88 = .ok (.ireturn, 1) := by decide +kernel
theorem dX11_count_89 : decode cX11_count 89 = .ok (.aload_n 0, 1) := by decide +kernel
theorem dX11_count_90 : decode cX11_count 90 = .ok (.getfield 200, 3) := by decide +kernel
theorem dX11_count_93 : decode cX11_count 93 = .ok (.ireturn, 1) := by decide +kernel
theorem dX11_count_94 : decode cX11_count 94 = .ok (.bipush (-2), 2) := by decide +kernel
theorem dX11_count_96 : decode cX11_count 96 = .ok (.ireturn, 1) := by decide +kernel
