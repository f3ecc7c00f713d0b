theorem dX11_init_0 : decode cX11_init 0 = .ok (.aload_n 0, 1) := by decide +kernel
theorem dX11_init_1 : decode cX11_init 1 = .ok (.invokespecial 1, 3) := by decide +kernel
theorem dX11_init_4 : decode cX11_init 4 = .ok (.aload_n 0, 1) := by decide +kernel
theorem dX11_init_5 : decode cX11_init 5 = .ok (.iconst 5, 1) := by decide +kernel
theorem dX11_init_6 : decode cX11_init 6 = .ok (.newarray .int, 2) := by decide +kernel
theorem dX11_init_8 : decode cX11_init 8 = .ok (.putfield 7, 3) := by decide +kernel
theorem dX11_init_11 : decode cX11_init 11 = .ok (.aload_n 0, 1) := by decide +kernel
theorem dX11_init_12 : decode cX11_init 12 = .ok (.iconst 5, 1) := by decide +kernel
theorem dX11_init_13 : decode cX11_init 13 = .ok (.newarray .int, 2) := by decide +kernel
theorem dX11_init_15 : decode cX11_init 15 = .ok (.putfield 13, 3) := by decide +kernel
theorem dX11_init_18 : decode cX11_init 18 = .ok (.aload_n 0, 1) := by decide +kernel
theorem dX11_init_19 : decode cX11_init 19 = .ok (.iconst 4, 1) := by decide +kernel
theorem dX11_init_20 : decode cX11_init 20 = .ok (.newarray .int, 2) := by decide +kernel
theorem dX11_init_22 : decode cX11_init 22 = .ok (.putfield 16, 3) := by decide +kernel
theorem dX11_init_25 : decode cX11_init 25 = .ok (.aload_n 0, 1) := by decide +kernel
theorem dX11_init_26 : decode cX11_init 26 = .ok (.iconst 4, 1) := by decide +kernel
theorem dX11_init_27 : decode cX11_init 27 = .ok (.newarray .int, 2) := by decide +kernel
theorem dX11_init_29 : decode cX11_init 29 = .ok (.putfield 19, 3) := by decide +kernel
theorem dX11_init_32 : decode cX11_init 32 = .ok (.aload_n 0, 1) := by decide +kernel
theorem dX11_init_33 : decode cX11_init 33 = .ok (.bipush 30, 2) := by decide +kernel
theorem dX11_init_35 : decode cX11_init 35 = .ok (.newarray .int, 2) := by decide +kernel
theorem dX11_init_37 : decode cX11_init 37 = .ok (.putfield 22, 3) := by decide +kernel
theorem dX11_init_40 : decode cX11_init 40 = .ok (.aload_n 0, 1) := by decide +kernel
theorem dX11_init_41 : decode cX11_init 41 = .ok (.bipush 15, 2) := by decide +kernel
theorem dX11_init_43 : decode cX11_init 43 = .ok (.newarray .int, 2) := by decide +kernel
theorem dX11_init_45 : decode cX11_init 45 = .ok (.putfield 25, 3) := by decide +kernel
theorem dX11_init_48 : decode cX11_init 48 = .ok (.aload_n 0, 1) := by decide +kernel
theorem dX11_init_49 : decode cX11_init 49 = .ok (.bipush 8, 2) := by decide +kernel
theorem dX11_init_51 : decode cX11_init 51 = .ok (.newarray .int, 2) := by decide +kernel
theorem dX11_init_53 : decode cX11_init 53 = .ok (.putfield 28, 3) := by decide +kernel
theorem dX11_init_56 : decode cX11_init 56 = .ok (.aload_n 0, 1) := by decide +kernel
theorem dX11_init_57 : decode cX11_init 57 = .ok (.iconst 4, 1) := by decide +kernel
theorem dX11_init_58 : decode cX11_init 58 = .ok (.newarray .int, 2) := by decide +kernel
theorem dX11_init_60 : decode cX11_init 60 = .ok (.putfield 31, 3) := by decide +kernel
theorem dX11_init_63 : decode cX11_init 63 = .ok (.aload_n 0, 1) := by decide +kernel
theorem dX11_init_64 : decode cX11_init 64 = .ok (.bipush 60, 2) := by decide +kernel
theorem dX11_init_66 : decode cX11_init 66 = .ok (.newarray .int, 2) := by decide +kernel
theorem dX11_init_68 : decode cX11_init 68 = .ok (.putfield 34, 3) := by decide +kernel
theorem dX11_init_71 : decode cX11_init 71 = .ok (.aload_n 0, 1) := by decide +kernel
theorem dX11_init_72 : decode cX11_init 72 = .ok (.sipush 210, 3) := by decide +kernel
theorem dX11_init_75 : decode cX11_init 75 = .ok (.newarray .int, 2) := by decide +kernel
theorem dX11_init_77 : decode cX11_init 77 = .ok (.putfield 37, 3) := by decide +kernel
theorem dX11_init_80 : decode cX11_init 80 = .ok (.aload_n 0, 1) := by decide +kernel
theorem dX11_init_81 : decode cX11_init 81 = .ok (.bipush 6, 2) := by decide +kernel
theorem dX11_init_83 : decode cX11_init 83 = .ok (.newarray .int, 2) := by decide +kernel
theorem dX11_init_85 : decode cX11_init 85 = .ok (.putfield 40, 3) := by decide +kernel
theorem dX11_init_88 : decode cX11_init 88 = .ok (.aload_n 0, 1) := by decide +kernel
theorem dX11_init_89 : decode cX11_init 89 = .ok (.bipush 6, 2) := by decide +kernel
theorem dX11_init_91 : decode cX11_init 91 = .ok (.newarray .int, 2) := by decide +kernel
theorem dX11_init_93 : decode cX11_init 93 = .ok (.putfield 43, 3) := by decide +kernel
theorem dX11_init_96 : decode cX11_init 96 = .ok (.aload_n 0, 1) := by decide +kernel
theorem dX11_init_97 : decode cX11_init 97 = .ok (.bipush 6, 2) := by decide +kernel
theorem dX11_init_99 : decode cX11_init 99 = .ok (.newarray .int, 2) := by decide +kernel
theorem dX11_init_101 : decode cX11_init 101 = .ok (.putfield 46, 3) := by decide +kernel
theorem dX11_init_104 : decode cX11_init 104 = .ok (.aload_n 0, 1) := by decide +kernel
theorem dX11_init_105 : decode cX11_init 105 = .ok (.iconst 2, 1) := by decide +kernel
theorem dX11_init_106 : decode cX11_init 106 = .ok (.newarray .boolean, 2) := by decide +kernel
theorem dX11_init_108 : decode cX11_init 108 = .ok (.putfield 49, 3) := by decide +kernel
theorem dX11_init_111 : decode cX11_init 111 = .ok (.aload_n 0, 1) := by decide +kernel
theorem dX11_init_112 : decode cX11_init 112 = .ok (.bipush 30, 2) := by decide +kernel
theorem dX11_init_114 : decode cX11_init 114 = .ok (.newarray .int, 2) := by decide +kernel
theorem dX11_init_116 : decode cX11_init 116 = .ok (.putfield 53, 3) := by decide +kernel
theorem dX11_init_119 : decode cX11_init 119 = .ok (.aload_n 0, 1) := by decide +kernel
theorem dX11_init_120 : decode cX11_init 120 = .ok (.iconst 0, 1) := by decide +kernel
theorem dX11_init_121 : decode cX11_init 121 = .ok (.putfield 56, 3) := by decide +kernel
theorem dX11_init_124 : decode cX11_init 124 = .ok (.return_, 1) := by decide +kernel
theorem dX11_in_0 : decode cX11_in 0 = .ok (.lload_n 0, 1) := by decide +kernel
theorem dX11_in_1 : decode cX11_in 1 = .ok (.lload_n 2, 1) := by decide +kernel
theorem dX11_in_2 : decode cX11_in 2 = .ok (.lcmp, 1) := by decide +kernel
theorem dX11_in_3 : decode cX11_in 3 = .ok (.ifCond .lt 14, 3) := by decide +kernel
theorem dX11_in_6 : decode cX11_in 6 = .ok (.lload_n 0, 1) := by decide +kernel
theorem dX11_in_7 : decode cX11_in 7 = .ok (.lload 4, 2) := by decide +kernel
theorem dX11_in_9 : decode cX11_in 9 = .ok (.lcmp, 1) := by decide +kernel
theorem dX11_in_10 : decode cX11_in 10 = .ok (.ifCond .gt 7, 3) := by decide +kernel
theorem dX11_in_13 : decode cX11_in 13 = .ok (.iconst 1, 1) := by decide +kernel
theorem dX11_in_14 : decode cX11_in 14 = .ok (.goto 4, 3) := by decide +kernel
theorem dX11_in_17 : decode cX11_in 17 = .ok (.iconst 0, 1) := by decide +kernel
theorem dX11_in_18 : decode cX11_in 18 = .ok (.ireturn, 1) := by decide +kernel
theorem dX11_has_0 : decode cX11_has 0 = .ok (.iload_n 0, 1) := by decide +kernel
theorem dX11_has_1 : decode cX11_has 1 = .ok (.iload_n 1, 1) := by decide +kernel
theorem dX11_has_2 : decode cX11_has 2 = .ok (.ishr, 1) := by decide +kernel
theorem dX11_has_3 : decode cX11_has 3 = .ok (.iconst 1, 1) := by decide +kernel
theorem dX11_has_4 : decode cX11_has 4 = .ok (.iand, 1) := by decide +kernel
theorem dX11_has_5 : decode cX11_has 5 = .ok (.iconst 1, 1) := by decide +kernel
theorem dX11_has_6 : decode cX11_has 6 = .ok (.if_icmp .ne 7, 3) := by decide +kernel
theorem dX11_has_9 : decode cX11_has 9 = .ok (.iconst 1, 1) := by decide +kernel
theorem dX11_has_10 : decode cX11_has 10 = .ok (.goto 4, 3) := by decide +kernel
theorem dX11_has_13 : decode cX11_has 13 = .ok (.iconst 0, 1) := by decide +kernel
theorem dX11_has_14 : decode cX11_has 14 = .ok (.ireturn, 1) := by decide +kernel
theorem dX11_ones_0 : decode cX11_ones 0 = .ok (.iconst 0, 1) := by decide +kernel
theorem dX11_ones_1 : decode cX11_ones 1 = .ok (.istore_n 1, 1) := by decide +kernel
theorem dX11_ones_2 : decode cX11_ones 2 = .ok (.iconst 0, 1) := by decide +kernel
theorem dX11_ones_3 : decode cX11_ones 3 = .ok (.istore_n 2, 1) := by decide +kernel
theorem dX11_ones_4 : decode cX11_ones 4 = .ok (.iload_n 2, 1) := by decide +kernel
theorem dX11_ones_5 : decode cX11_ones 5 = .ok (.iconst 5, 1) := by decide +kernel
theorem dX11_ones_6 : decode cX11_ones 6 = .ok (.if_icmp .ge 17, 3) := by decide +kernel
theorem dX11_ones_9 : decode cX11_ones 9 = .ok (.iload_n 1, 1) := by decide +kernel
theorem dX11_ones_10 : decode cX11_ones 10 = .ok (.iload_n 0, 1) := by decide +kernel
theorem dX11_ones_11 : decode cX11_ones 11 = .ok (.iload_n 2, 1) := by decide +kernel
theorem dX11_ones_12 : decode cX11_ones 12 = .ok (.ishr, 1) := by decide +kernel
theorem dX11_ones_13 : decode cX11_ones 13 = .ok (.iconst 1, 1) := by decide +kernel
theorem dX11_ones_14 : decode cX11_ones 14 = .ok (.iand, 1) := by decide +kernel
theorem dX11_ones_15 : decode cX11_ones 15 = .ok (.iadd, 1) := by decide +kernel
theorem dX11_ones_16 : decode cX11_ones 16 = .ok (.istore_n 1, 1) := by decide +kernel
theorem dX11_ones_17 : decode cX11_ones 17 = .ok (.iinc 2 1, 3) := by decide +kernel
theorem dX11_ones_20 : decode cX11_ones 20 = .ok (.goto (-16), 3) := by decide +kernel
theorem dX11_ones_23 : decode cX11_ones 23 = .ok (.iload_n 1, 1) := by decide +kernel
theorem dX11_ones_24 : decode cX11_ones 24 = .ok (.ireturn, 1) := by decide +kernel
theorem dX11_write_0 : decode cX11_write 0 = .ok (.iload_n 1, 1) := by decide +kernel
theorem dX11_write_1 : decode cX11_write 1 = .ok (.i2l, 1) := by decide +kernel
theorem dX11_write_2 : decode cX11_write 2 = .ok (.lconst 0, 1) := by decide +kernel
theorem dX11_write_3 : decode cX11_write 3 = .ok (.ldc2_w 60, 3) := by decide +kernel
theorem dX11_write_6 : decode cX11_write 6 = .ok (.invokestatic 62, 3) := by decide +kernel
theorem dX11_write_9 : decode cX11_write 9 = .ok (.ifCond .ne 6, 3) := by decide +kernel
theorem dX11_write_12 : decode cX11_write 12 = .ok (.bipush (-2), 2) := by decide +kernel
theorem dX11_write_14 : decode cX11_write 14 = .ok (.ireturn, 1) := by decide +kernel
theorem dX11_write_15 : decode cX11_write 15 = .ok (.aload_n 0, 1) := by decide +kernel
theorem dX11_write_16 : decode cX11_write 16 = .ok (.getfield 66, 3) := by decide +kernel
theorem dX11_write_19 : decode cX11_write 19 = .ok (.bipush 60, 2) := by decide +kernel
theorem dX11_write_21 : decode cX11_write 21 = .ok (.if_icmp .ne 6, 3) := by decide +kernel
theorem dX11_write_24 : decode cX11_write 24 = .ok (.bipush (-4), 2) := by decide +kernel
theorem dX11_write_26 : decode cX11_write 26 = .ok (.ireturn, 1) := by decide +kernel
theorem dX11_write_27 : decode cX11_write 27 = .ok (.aload_n 0, 1) := by decide +kernel
theorem dX11_write_28 : decode cX11_write 28 = .ok (.getfield 34, 3) := by decide +kernel
theorem dX11_write_31 : decode cX11_write 31 = .ok (.aload_n 0, 1) := by decide +kernel
theorem dX11_write_32 : decode cX11_write 32 = .ok (.getfield 66, 3) := by decide +kernel
theorem dX11_write_35 : decode cX11_write 35 = .ok (.iload_n 1, 1) := by decide +kernel
theorem dX11_write_36 : decode cX11_write 36 = .ok (.iastore, 1) := by decide +kernel
theorem dX11_write_37 : decode cX11_write 37 = .ok (.aload_n 0, 1) := by decide +kernel
theorem dX11_write_38 : decode cX11_write 38 = .ok (.dup, 1) := by decide +kernel
theorem dX11_write_39 : decode cX11_write 39 = .ok (.getfield 66, 3) := by decide +kernel
theorem dX11_write_42 : decode cX11_write 42 = .ok (.iconst 1, 1) := by decide +kernel
theorem dX11_write_43 : decode cX11_write 43 = .ok (.iadd, 1) := by decide +kernel
theorem dX11_write_44 : decode cX11_write 44 = .ok (.putfield 66, 3) := by decide +kernel
theorem dX11_write_47 : decode cX11_write 47 = .ok (.aload_n 0, 1) := by decide +kernel
theorem dX11_write_48 : decode cX11_write 48 = .ok (.getfield 66, 3) := by decide +kernel
theorem dX11_write_51 : decode cX11_write 51 = .ok (.ireturn, 1) := by decide +kernel
theorem dX11_wipe_0 : decode cX11_wipe 0 = .ok (.aload_n 0, 1) := by decide +kernel
theorem dX11_wipe_1 : decode cX11_wipe 1 = .ok (.getfield 66, 3) := by decide +kernel
theorem dX11_wipe_4 : decode cX11_wipe 4 = .ok (.istore_n 1, 1) := by decide +kernel
theorem dX11_wipe_5 : decode cX11_wipe 5 = .ok (.aload_n 0, 1) := by decide +kernel
theorem dX11_wipe_6 : decode cX11_wipe 6 = .ok (.iconst 0, 1) := by decide +kernel
theorem dX11_wipe_7 : decode cX11_wipe 7 = .ok (.putfield 66, 3) := by decide +kernel
theorem dX11_wipe_10 : decode cX11_wipe 10 = .ok (.iload_n 1, 1) := by decide +kernel
theorem dX11_wipe_11 : decode cX11_wipe 11 = .ok (.ireturn, 1) := by decide +kernel
theorem dX11_figureOf_0 : decode cX11_figureOf 0 = .ok (.aload_n 0, 1) := by decide +kernel
theorem dX11_figureOf_1 : decode cX11_figureOf 1 = .ok (.getfield 69, 3) := by decide +kernel
theorem dX11_figureOf_4 : decode cX11_figureOf 4 = .ok (.bipush (-9), 2) := by decide +kernel
theorem dX11_figureOf_6 : decode cX11_figureOf 6 = .ok (.if_icmp .ne 29, 3) := by decide +kernel
theorem dX11_figureOf_9 : decode cX11_figureOf 9 = .ok (.aload_n 0, 1) := by decide +kernel
theorem dX11_figureOf_10 : decode cX11_figureOf 10 = .ok (.getfield 72, 3) := by decide +kernel
theorem dX11_figureOf_13 : decode cX11_figureOf 13 = .ok (.aload_n 0, 1) := by decide +kernel
theorem dX11_figureOf_14 : decode cX11_figureOf 14 = .ok (.getfield 66, 3) := by decide +kernel
theorem dX11_figureOf_17 : decode cX11_figureOf 17 = .ok (.if_icmp .ge 18, 3) := by decide +kernel
theorem dX11_figureOf_20 : decode cX11_figureOf 20 = .ok (.aload_n 0, 1) := by decide +kernel
theorem dX11_figureOf_21 : decode cX11_figureOf 21 = .ok (.getfield 34, 3) := by decide +kernel
theorem dX11_figureOf_24 : decode cX11_figureOf 24 = .ok (.aload_n 0, 1) := by decide +kernel
theorem dX11_figureOf_25 : decode cX11_figureOf 25 = .ok (.getfield 72, 3) := by decide +kernel
theorem dX11_figureOf_28 : decode cX11_figureOf 28 = .ok (.iaload, 1) := by decide +kernel
theorem dX11_figureOf_29 : decode cX11_figureOf 29 = .ok (.bipush 48, 2) := by decide +kernel
theorem dX11_figureOf_31 : decode cX11_figureOf 31 = .ok (.isub, 1) := by decide +kernel
theorem dX11_figureOf_32 : decode cX11_figureOf 32 = .ok (.goto 5, 3) := by decide +kernel
theorem dX11_figureOf_35 : decode cX11_figureOf 35 = .ok (.bipush (-9), 2) := by decide +kernel
theorem dX11_figureOf_37 : decode cX11_figureOf 37 = .ok (.istore_n 2, 1) := by decide +kernel
theorem dX11_figureOf_38 : decode cX11_figureOf 38 = .ok (.iload_n 2, 1) := by decide +kernel
theorem dX11_figureOf_39 : decode cX11_figureOf 39 = .ok (.i2l, 1) := by decide +kernel
theorem dX11_figureOf_40 : decode cX11_figureOf 40 = .ok (.lconst 0, 1) := by decide +kernel
theorem dX11_figureOf_41 : decode cX11_figureOf 41 = .ok (.ldc2_w 75, 3) := by decide +kernel
theorem dX11_figureOf_44 : decode cX11_figureOf 44 = .ok (.invokestatic 62, 3) := by decide +kernel
theorem dX11_figureOf_47 : decode cX11_figureOf 47 = .ok (.ifCond .eq 11, 3) := by decide +kernel
theorem dX11_figureOf_50 : decode cX11_figureOf 50 = .ok (.iload_n 1, 1) := by decide +kernel
theorem dX11_figureOf_51 : decode cX11_figureOf 51 = .ok (.iload_n 2, 1) := by decide +kernel
theorem dX11_figureOf_52 : decode cX11_figureOf 52 = .ok (.invokestatic 77, 3) := by decide +kernel
theorem dX11_figureOf_55 : decode cX11_figureOf 55 = .ok (.ifCond .ne 29, 3) := by decide +kernel
theorem dX11_figureOf_58 : decode cX11_figureOf 58 = .ok (.aload_n 0, 1) := by decide +kernel
theorem dX11_figureOf_59 : decode cX11_figureOf 59 = .ok (.aload_n 0, 1) := by decide +kernel
theorem dX11_figureOf_60 : decode cX11_figureOf 60 = .ok (.getfield 69, 3) := by decide +kernel
theorem dX11_figureOf_63 : decode cX11_figureOf 63 = .ok (.bipush (-9), 2) := by decide +kernel
theorem dX11_figureOf_65 : decode cX11_figureOf 65 = .ok (.if_icmp .ne 10, 3) := by decide +kernel
theorem dX11_figureOf_68 : decode cX11_figureOf 68 = .ok (.aload_n 0, 1) := by decide +kernel
theorem dX11_figureOf_69 : decode cX11_figureOf 69 = .ok (.getfield 72, 3) := by decide +kernel
theorem dX11_figureOf_72 : decode cX11_figureOf 72 = .ok (.goto 7, 3) := by decide +kernel
theorem dX11_figureOf_75 : decode cX11_figureOf 75 = .ok (.aload_n 0, 1) := by decide +kernel
theorem dX11_figureOf_76 : decode cX11_figureOf 76 = .ok (.getfield 69, 3) := by decide +kernel
theorem dX11_figureOf_79 : decode cX11_figureOf 79 = .ok (.putfield 69, 3) := by decide +kernel
theorem dX11_figureOf_82 : decode cX11_figureOf 82 = .ok (.iconst 0, 1) := by decide +kernel
theorem dX11_figureOf_83 : decode cX11_figureOf 83 = .ok (.ireturn, 1) := by decide +kernel
theorem dX11_figureOf_84 : decode cX11_figureOf 84 = .ok (.aload_n 0, 1) := by decide +kernel
theorem dX11_figureOf_85 : decode cX11_figureOf 85 = .ok (.dup, 1) := by decide +kernel
theorem dX11_figureOf_86 : decode cX11_figureOf 86 = .ok (.getfield 72, 3) := by decide +kernel
theorem dX11_figureOf_89 : decode cX11_figureOf 89 = .ok (.iconst 1, 1) := by decide +kernel
theorem dX11_figureOf_90 : decode cX11_figureOf 90 = .ok (.iadd, 1) := by decide +kernel
theorem dX11_figureOf_91 : decode cX11_figureOf 91 = .ok (.putfield 72, 3) := by decide +kernel
theorem dX11_figureOf_94 : decode cX11_figureOf 94 = .ok (.iload_n 2, 1) := by decide +kernel
theorem dX11_figureOf_95 : decode cX11_figureOf 95 = .ok (.ireturn, 1) := by decide +kernel
theorem dX11_freeOf_0 : decode cX11_freeOf 0 = .ok (.iconst 1, 1) := by decide +kernel
theorem dX11_freeOf_1 : decode cX11_freeOf 1 = .ok (.aload_n 0, 1) := by decide +kernel
theorem dX11_freeOf_2 : decode cX11_freeOf 2 = .ok (.getfield 81, 3) := by decide +kernel
theorem dX11_freeOf_5 : decode cX11_freeOf 5 = .ok (.ishl, 1) := by decide +kernel
theorem dX11_freeOf_6 : decode cX11_freeOf 6 = .ok (.iconst 1, 1) := by decide +kernel
theorem dX11_freeOf_7 : decode cX11_freeOf 7 = .ok (.isub, 1) := by decide +kernel
theorem dX11_freeOf_8 : decode cX11_freeOf 8 = .ok (.aload_n 0, 1) := by decide +kernel
theorem dX11_freeOf_9 : decode cX11_freeOf 9 = .ok (.getfield 31, 3) := by decide +kernel
theorem dX11_freeOf_12 : decode cX11_freeOf 12 = .ok (.iload_n 1, 1) := by decide +kernel
theorem dX11_freeOf_13 : decode cX11_freeOf 13 = .ok (.iaload, 1) := by decide +kernel
theorem dX11_freeOf_14 : decode cX11_freeOf 14 = .ok (.iconst (-1), 1) := by decide +kernel
theorem dX11_freeOf_15 : decode cX11_freeOf 15 = .ok (.ixor, 1) := by decide +kernel
theorem dX11_freeOf_16 : decode cX11_freeOf 16 = .ok (.iand, 1) := by decide +kernel
theorem dX11_freeOf_17 : decode cX11_freeOf 17 = .ok (.ireturn, 1) := by decide +kernel
theorem dX11_firstsLeft_0 : decode cX11_firstsLeft 0 = .ok (.iconst 0, 1) := by decide +kernel
theorem dX11_firstsLeft_1 : decode cX11_firstsLeft 1 = .ok (.istore_n 1, 1) := by decide +kernel
theorem dX11_firstsLeft_2 : decode cX11_firstsLeft 2 = .ok (.iconst 0, 1) := by decide +kernel
theorem dX11_firstsLeft_3 : decode cX11_firstsLeft 3 = .ok (.istore_n 2, 1) := by decide +kernel
theorem dX11_firstsLeft_4 : decode cX11_firstsLeft 4 = .ok (.iload_n 2, 1) := by decide +kernel
theorem dX11_firstsLeft_5 : decode cX11_firstsLeft 5 = .ok (.aload_n 0, 1) := by decide +kernel
theorem dX11_firstsLeft_6 : decode cX11_firstsLeft 6 = .ok (.getfield 84, 3) := by decide +kernel
theorem dX11_firstsLeft_9 : decode cX11_firstsLeft 9 = .ok (.if_icmp .ge 27, 3) := by decide +kernel
theorem dX11_firstsLeft_12 : decode cX11_firstsLeft 12 = .ok (.iload_n 1, 1) := by decide +kernel
theorem dX11_firstsLeft_13 : decode cX11_firstsLeft 13 = .ok (.aload_n 0, 1) := by decide +kernel
theorem dX11_firstsLeft_14 : decode cX11_firstsLeft 14 = .ok (.iload_n 2, 1) := by decide +kernel
theorem dX11_firstsLeft_15 : decode cX11_firstsLeft 15 = .ok (.invokevirtual 87, 3) := by decide +kernel
theorem dX11_firstsLeft_18 : decode cX11_firstsLeft 18 = .ok (.ifCond .eq 9, 3) := by decide +kernel
theorem dX11_firstsLeft_21 : decode cX11_firstsLeft 21 = .ok (.iconst 1, 1) := by decide +kernel
theorem dX11_firstsLeft_22 : decode cX11_firstsLeft 22 = .ok (.iload_n 2, 1) := by decide +kernel
theorem dX11_firstsLeft_23 : decode cX11_firstsLeft 23 = .ok (.ishl, 1) := by decide +kernel
theorem dX11_firstsLeft_24 : decode cX11_firstsLeft 24 = .ok (.goto 4, 3) := by decide +kernel
theorem dX11_firstsLeft_27 : decode cX11_firstsLeft 27 = .ok (.iconst 0, 1) := by decide +kernel
theorem dX11_firstsLeft_28 : decode cX11_firstsLeft 28 = .ok (.ior, 1) := by decide +kernel
theorem dX11_firstsLeft_29 : decode cX11_firstsLeft 29 = .ok (.istore_n 1, 1) := by decide +kernel
theorem dX11_firstsLeft_30 : decode cX11_firstsLeft 30 = .ok (.iinc 2 1, 3) := by decide +kernel
theorem dX11_firstsLeft_33 : decode cX11_firstsLeft 33 = .ok (.goto (-29), 3) := by decide +kernel
theorem dX11_firstsLeft_36 : decode cX11_firstsLeft 36 = .ok (.iload_n 1, 1) := by decide +kernel
theorem dX11_firstsLeft_37 : decode cX11_firstsLeft 37 = .ok (.ireturn, 1) := by decide +kernel
theorem dX11_readText_0 : decode cX11_readText 0 = .ok (.aload_n 0, 1) := by decide +kernel
theorem dX11_readText_1 : decode cX11_readText 1 = .ok (.iconst 0, 1) := by decide +kernel
theorem dX11_readText_2 : decode cX11_readText 2 = .ok (.putfield 72, 3) := by decide +kernel
theorem dX11_readText_5 : decode cX11_readText 5 = .ok (.aload_n 0, 1) := by decide +kernel
theorem dX11_readText_6 : decode cX11_readText 6 = .ok (.bipush (-9), 2) := by decide +kernel
theorem dX11_readText_8 : decode cX11_readText 8 = .ok (.putfield 69, 3) := by decide +kernel
theorem dX11_readText_11 : decode cX11_readText 11 = .ok (.aload_n 0, 1) := by decide +kernel
theorem dX11_readText_12 : decode cX11_readText 12 = .ok (.iconst 0, 1) := by decide +kernel
theorem dX11_readText_13 : decode cX11_readText 13 = .ok (.putfield 81, 3) := by decide +kernel
theorem dX11_readText_16 : decode cX11_readText 16 = .ok (.aload_n 0, 1) := by decide +kernel
theorem dX11_readText_17 : decode cX11_readText 17 = .ok (.iconst 0, 1) := by decide +kernel
theorem dX11_readText_18 : decode cX11_readText 18 = .ok (.putfield 84, 3) := by decide +kernel
theorem dX11_readText_21 : decode cX11_readText 21 = .ok (.iconst 0, 1) := by decide +kernel
theorem dX11_readText_22 : decode cX11_readText 22 = .ok (.istore_n 1, 1) := by decide +kernel
theorem dX11_readText_23 : decode cX11_readText 23 = .ok (.iload_n 1, 1) := by decide +kernel
theorem dX11_readText_24 : decode cX11_readText 24 = .ok (.iconst 4, 1) := by decide +kernel
theorem dX11_readText_25 : decode cX11_readText 25 = .ok (.if_icmp .ge 16, 3) := by decide +kernel
theorem dX11_readText_28 : decode cX11_readText 28 = .ok (.aload_n 0, 1) := by decide +kernel
theorem dX11_readText_29 : decode cX11_readText 29 = .ok (.getfield 31, 3) := by decide +kernel
theorem dX11_readText_32 : decode cX11_readText 32 = .ok (.iload_n 1, 1) := by decide +kernel
theorem dX11_readText_33 : decode cX11_readText 33 = .ok (.iconst 0, 1) := by decide +kernel
theorem dX11_readText_34 : decode cX11_readText 34 = .ok (.iastore, 1) := by decide +kernel
theorem dX11_readText_35 : decode cX11_readText 35 = .ok (.iinc 1 1, 3) := by decide +kernel
theorem dX11_readText_38 : decode cX11_readText 38 = .ok (.goto (-15), 3) := by decide +kernel
theorem dX11_readText_41 : decode cX11_readText 41 = .ok (.aload_n 0, 1) := by decide +kernel
theorem dX11_readText_42 : decode cX11_readText 42 = .ok (.getfield 66, 3) := by decide +kernel
theorem dX11_readText_45 : decode cX11_readText 45 = .ok (.ifCond .eq 14, 3) := by decide +kernel
theorem dX11_readText_48 : decode cX11_readText 48 = .ok (.aload_n 0, 1) := by decide +kernel
theorem dX11_readText_49 : decode cX11_readText 49 = .ok (.getfield 34, 3) := by decide +kernel
theorem dX11_readText_52 : decode cX11_readText 52 = .ok (.iconst 0, 1) := by decide +kernel
theorem dX11_readText_53 : decode cX11_readText 53 = .ok (.iaload, 1) := by decide +kernel
theorem dX11_readText_54 : decode cX11_readText 54 = .ok (.bipush 71, 2) := by decide +kernel
theorem dX11_readText_56 : decode cX11_readText 56 = .ok (.if_icmp .eq 5, 3) := by decide +kernel
theorem dX11_readText_59 : decode cX11_readText 59 = .ok (.iconst 0, 1) := by decide +kernel
theorem dX11_readText_60 : decode cX11_readText 60 = .ok (.ireturn, 1) := by decide +kernel
theorem dX11_readText_61 : decode cX11_readText 61 = .ok (.aload_n 0, 1) := by decide +kernel
theorem dX11_readText_62 : decode cX11_readText 62 = .ok (.iconst 1, 1) := by decide +kernel
theorem dX11_readText_63 : decode cX11_readText 63 = .ok (.putfield 72, 3) := by decide +kernel
theorem dX11_readText_66 : decode cX11_readText 66 = .ok (.aload_n 0, 1) := by decide +kernel
theorem dX11_readText_67 : decode cX11_readText 67 = .ok (.getfield 69, 3) := by decide +kernel
theorem dX11_readText_70 : decode cX11_readText 70 = .ok (.bipush (-9), 2) := by decide +kernel
theorem dX11_readText_72 : decode cX11_readText 72 = .ok (.if_icmp .ne 30, 3) := by decide +kernel
theorem dX11_readText_75 : decode cX11_readText 75 = .ok (.aload_n 0, 1) := by decide +kernel
theorem dX11_readText_76 : decode cX11_readText 76 = .ok (.getfield 72, 3) := by decide +kernel
theorem dX11_readText_79 : decode cX11_readText 79 = .ok (.aload_n 0, 1) := by decide +kernel
theorem dX11_readText_80 : decode cX11_readText 80 = .ok (.getfield 66, 3) := by decide +kernel
theorem dX11_readText_83 : decode cX11_readText 83 = .ok (.if_icmp .ge 19, 3) := by decide +kernel
theorem dX11_readText_86 : decode cX11_readText 86 = .ok (.aload_n 0, 1) := by decide +kernel
theorem dX11_readText_87 : decode cX11_readText 87 = .ok (.aload_n 0, 1) := by decide +kernel
theorem dX11_readText_88 : decode cX11_readText 88 = .ok (.getfield 34, 3) := by decide +kernel
theorem dX11_readText_91 : decode cX11_readText 91 = .ok (.aload_n 0, 1) := by decide +kernel
theorem dX11_readText_92 : decode cX11_readText 92 = .ok (.getfield 72, 3) := by decide +kernel
theorem dX11_readText_95 : decode cX11_readText 95 = .ok (.iaload, 1) := by decide +kernel
theorem dX11_readText_96 : decode cX11_readText 96 = .ok (.invokevirtual 91, 3) := by decide +kernel
theorem dX11_readText_99 : decode cX11_readText 99 = .ok (.goto (-33), 3) := by decide +kernel
theorem dX11_readText_102 : decode cX11_readText 102 = .ok (.aload_n 0, 1) := by decide +kernel
theorem dX11_readText_103 : decode cX11_readText 103 = .ok (.getfield 69, 3) := by decide +kernel
theorem dX11_readText_106 : decode cX11_readText 106 = .ok (.ireturn, 1) := by decide +kernel
theorem dX11_readPart_0 : decode cX11_readPart 0 = .ok (.iload_n 1, 1) := by decide +kernel
theorem dX11_readPart_1 : decode cX11_readPart 1 = .ok (.bipush 86, 2) := by decide +kernel
theorem dX11_readPart_3 : decode cX11_readPart 3 = .ok (.if_icmp .ne 92, 3) := by decide +kernel
theorem dX11_readPart_6 : decode cX11_readPart 6 = .ok (.aload_n 0, 1) := by decide +kernel
theorem dX11_readPart_7 : decode cX11_readPart 7 = .ok (.getfield 81, 3) := by decide +kernel
theorem dX11_readPart_10 : decode cX11_readPart 10 = .ok (.iconst 5, 1) := by decide +kernel
theorem dX11_readPart_11 : decode cX11_readPart 11 = .ok (.if_icmp .ge 84, 3) := by decide +kernel
theorem dX11_readPart_14 : decode cX11_readPart 14 = .ok (.aload_n 0, 1) := by decide +kernel
theorem dX11_readPart_15 : decode cX11_readPart 15 = .ok (.dup, 1) := by decide +kernel
theorem dX11_readPart_16 : decode cX11_readPart 16 = .ok (.getfield 72, 3) := by decide +kernel
theorem dX11_readPart_19 : decode cX11_readPart 19 = .ok (.iconst 1, 1) := by decide +kernel
theorem dX11_readPart_20 : decode cX11_readPart 20 = .ok (.iadd, 1) := by decide +kernel
theorem dX11_readPart_21 : decode cX11_readPart 21 = .ok (.putfield 72, 3) := by decide +kernel
theorem dX11_readPart_24 : decode cX11_readPart 24 = .ok (.iconst 3, 1) := by decide +kernel
theorem dX11_readPart_25 : decode cX11_readPart 25 = .ok (.aload_n 0, 1) := by decide +kernel
theorem dX11_readPart_26 : decode cX11_readPart 26 = .ok (.getfield 81, 3) := by decide +kernel
theorem dX11_readPart_29 : decode cX11_readPart 29 = .ok (.imul, 1) := by decide +kernel
theorem dX11_readPart_30 : decode cX11_readPart 30 = .ok (.istore_n 2, 1) := by decide +kernel
theorem dX11_readPart_31 : decode cX11_readPart 31 = .ok (.aload_n 0, 1) := by decide +kernel
theorem dX11_readPart_32 : decode cX11_readPart 32 = .ok (.getfield 25, 3) := by decide +kernel
theorem dX11_readPart_35 : decode cX11_readPart 35 = .ok (.iload_n 2, 1) := by decide +kernel
theorem dX11_readPart_36 : decode cX11_readPart 36 = .ok (.aload_n 0, 1) := by decide +kernel
theorem dX11_readPart_37 : decode cX11_readPart 37 = .ok (.sipush 1022, 3) := by decide +kernel
theorem dX11_readPart_40 : decode cX11_readPart 40 = .ok (.invokevirtual 95, 3) := by decide +kernel
theorem dX11_readPart_43 : decode cX11_readPart 43 = .ok (.iastore, 1) := by decide +kernel
theorem dX11_readPart_44 : decode cX11_readPart 44 = .ok (.aload_n 0, 1) := by decide +kernel
theorem dX11_readPart_45 : decode cX11_readPart 45 = .ok (.getfield 25, 3) := by decide +kernel
theorem dX11_readPart_48 : decode cX11_readPart 48 = .ok (.iload_n 2, 1) := by decide +kernel
theorem dX11_readPart_49 : decode cX11_readPart 49 = .ok (.iconst 1, 1) := by decide +kernel
theorem dX11_readPart_50 : decode cX11_readPart 50 = .ok (.iadd, 1) := by decide +kernel
theorem dX11_readPart_51 : decode cX11_readPart 51 = .ok (.aload_n 0, 1) := by decide +kernel
theorem dX11_readPart_52 : decode cX11_readPart 52 = .ok (.iconst 1, 1) := by decide +kernel
theorem dX11_readPart_53 : decode cX11_readPart 53 = .ok (.aload_n 0, 1) := by decide +kernel
theorem dX11_readPart_54 : decode cX11_readPart 54 = .ok (.getfield 25, 3) := by decide +kernel
theorem dX11_readPart_57 : decode cX11_readPart 57 = .ok (.iload_n 2, 1) := by decide +kernel
theorem dX11_readPart_58 : decode cX11_readPart 58 = .ok (.iaload, 1) := by decide +kernel
theorem dX11_readPart_59 : decode cX11_readPart 59 = .ok (.iconst 1, 1) := by decide +kernel
theorem dX11_readPart_60 : decode cX11_readPart 60 = .ok (.iadd, 1) := by decide +kernel
theorem dX11_readPart_61 : decode cX11_readPart 61 = .ok (.ishl, 1) := by decide +kernel
theorem dX11_readPart_62 : decode cX11_readPart 62 = .ok (.iconst 1, 1) := by decide +kernel
theorem dX11_readPart_63 : decode cX11_readPart 63 = .ok (.isub, 1) := by decide +kernel
theorem dX11_readPart_64 : decode cX11_readPart 64 = .ok (.invokevirtual 95, 3) := by decide +kernel
theorem dX11_readPart_67 : decode cX11_readPart 67 = .ok (.iastore, 1) := by decide +kernel
theorem dX11_readPart_68 : decode cX11_readPart 68 = .ok (.aload_n 0, 1) := by decide +kernel
theorem dX11_readPart_69 : decode cX11_readPart 69 = .ok (.getfield 25, 3) := by decide +kernel
theorem dX11_readPart_72 : decode cX11_readPart 72 = .ok (.iload_n 2, 1) := by decide +kernel
theorem dX11_readPart_73 : decode cX11_readPart 73 = .ok (.iconst 2, 1) := by decide +kernel
theorem dX11_readPart_74 : decode cX11_readPart 74 = .ok (.iadd, 1) := by decide +kernel
theorem dX11_readPart_75 : decode cX11_readPart 75 = .ok (.aload_n 0, 1) := by decide +kernel
theorem dX11_readPart_76 : decode cX11_readPart 76 = .ok (.bipush 15, 2) := by decide +kernel
theorem dX11_readPart_78 : decode cX11_readPart 78 = .ok (.invokevirtual 95, 3) := by decide +kernel
theorem dX11_readPart_81 : decode cX11_readPart 81 = .ok (.iastore, 1) := by decide +kernel
theorem dX11_readPart_82 : decode cX11_readPart 82 = .ok (.aload_n 0, 1) := by decide +kernel
theorem dX11_readPart_83 : decode cX11_readPart 83 = .ok (.dup, 1) := by decide +kernel
theorem dX11_readPart_84 : decode cX11_readPart 84 = .ok (.getfield 81, 3) := by decide +kernel
theorem dX11_readPart_87 : decode cX11_readPart 87 = .ok (.iconst 1, 1) := by decide +kernel
theorem dX11_readPart_88 : decode cX11_readPart 88 = .ok (.iadd, 1) := by decide +kernel
theorem dX11_readPart_89 : decode cX11_readPart 89 = .ok (.putfield 81, 3) := by decide +kernel
theorem dX11_readPart_92 : decode cX11_readPart 92 = .ok (.goto 155, 3) := by decide +kernel
theorem dX11_readPart_95 : decode cX11_readPart 95 = .ok (.iload_n 1, 1) := by decide +kernel
theorem dX11_readPart_96 : decode cX11_readPart 96 = .ok (.bipush 68, 2) := by decide +kernel
theorem dX11_readPart_98 : decode cX11_readPart 98 = .ok (.if_icmp .ne 71, 3) := by decide +kernel
theorem dX11_readPart_101 : decode cX11_readPart 101 = .ok (.aload_n 0, 1) := by decide +kernel
theorem dX11_readPart_102 : decode cX11_readPart 102 = .ok (.getfield 84, 3) := by decide +kernel
theorem dX11_readPart_105 : decode cX11_readPart 105 = .ok (.iconst 4, 1) := by decide +kernel
theorem dX11_readPart_106 : decode cX11_readPart 106 = .ok (.if_icmp .ge 63, 3) := by decide +kernel
theorem dX11_readPart_109 : decode cX11_readPart 109 = .ok (.aload_n 0, 1) := by decide +kernel
theorem dX11_readPart_110 : decode cX11_readPart 110 = .ok (.dup, 1) := by decide +kernel
theorem dX11_readPart_111 : decode cX11_readPart 111 = .ok (.getfield 72, 3) := by decide +kernel
theorem dX11_readPart_114 : decode cX11_readPart 114 = .ok (.iconst 1, 1) := by decide +kernel
theorem dX11_readPart_115 : decode cX11_readPart 115 = .ok (.iadd, 1) := by decide +kernel
theorem dX11_readPart_116 : decode cX11_readPart 116 = .ok (.putfield 72, 3) := by decide +kernel
theorem dX11_readPart_119 : decode cX11_readPart 119 = .ok (.aload_n 0, 1) := by decide +kernel
theorem dX11_readPart_120 : decode cX11_readPart 120 = .ok (.getfield 28, 3) := by decide +kernel
theorem dX11_readPart_123 : decode cX11_readPart 123 = .ok (.iconst 2, 1) := by decide +kernel
theorem dX11_readPart_124 : decode cX11_readPart 124 = .ok (.aload_n 0, 1) := by decide +kernel
theorem dX11_readPart_125 : decode cX11_readPart 125 = .ok (.getfield 84, 3) := by decide +kernel
theorem dX11_readPart_128 : decode cX11_readPart 128 = .ok (.imul, 1) := by decide +kernel
theorem dX11_readPart_129 : decode cX11_readPart 129 = .ok (.aload_n 0, 1) := by decide +kernel
theorem dX11_readPart_130 : decode cX11_readPart 130 = .ok (.sipush 1023, 3) := by decide +kernel
theorem dX11_readPart_133 : decode cX11_readPart 133 = .ok (.invokevirtual 95, 3) := by decide +kernel
theorem dX11_readPart_136 : decode cX11_readPart 136 = .ok (.iastore, 1) := by decide +kernel
theorem dX11_readPart_137 : decode cX11_readPart 137 = .ok (.aload_n 0, 1) := by decide +kernel
theorem dX11_readPart_138 : decode cX11_readPart 138 = .ok (.getfield 28, 3) := by decide +kernel
theorem dX11_readPart_141 : decode cX11_readPart 141 = .ok (.iconst 2, 1) := by decide +kernel
theorem dX11_readPart_142 : decode cX11_readPart 142 = .ok (.aload_n 0, 1) := by decide +kernel
theorem dX11_readPart_143 : decode cX11_readPart 143 = .ok (.getfield 84, 3) := by decide +kernel
theorem dX11_readPart_146 : decode cX11_readPart 146 = .ok (.imul, 1) := by decide +kernel
theorem dX11_readPart_147 : decode cX11_readPart 147 = .ok (.iconst 1, 1) := by decide +kernel
theorem dX11_readPart_148 : decode cX11_readPart 148 = .ok (.iadd, 1) := by decide +kernel
theorem dX11_readPart_149 : decode cX11_readPart 149 = .ok (.aload_n 0, 1) := by decide +kernel
theorem dX11_readPart_150 : decode cX11_readPart 150 = .ok (.bipush 15, 2) := by decide +kernel
theorem dX11_readPart_152 : decode cX11_readPart 152 = .ok (.invokevirtual 95, 3) := by decide +kernel
theorem dX11_readPart_155 : decode cX11_readPart 155 = .ok (.iastore, 1) := by decide +kernel
theorem dX11_readPart_156 : decode cX11_readPart 156 = .ok (.aload_n 0, 1) := by decide +kernel
theorem dX11_readPart_157 : decode cX11_readPart 157 = .ok (.dup, 1) := by decide +kernel
theorem dX11_readPart_158 : decode cX11_readPart 158 = .ok (.getfield 84, 3) := by decide +kernel
theorem dX11_readPart_161 : decode cX11_readPart 161 = .ok (.iconst 1, 1) := by decide +kernel
theorem dX11_readPart_162 : decode cX11_readPart 162 = .ok (.iadd, 1) := by decide +kernel
theorem dX11_readPart_163 : decode cX11_readPart 163 = .ok (.putfield 84, 3) := by decide +kernel
theorem dX11_readPart_166 : decode cX11_readPart 166 = .ok (.goto 81, 3) := by decide +kernel
theorem dX11_readPart_169 : decode cX11_readPart 169 = .ok (.iload_n 1, 1) := by decide +kernel
theorem dX11_readPart_170 : decode cX11_readPart 170 = .ok (.bipush 83, 2) := by decide +kernel
theorem dX11_readPart_172 : decode cX11_readPart 172 = .ok (.if_icmp .ne 67, 3) := by decide +kernel
theorem dX11_readPart_175 : decode cX11_readPart 175 = .ok (.aload_n 0, 1) := by decide +kernel
theorem dX11_readPart_176 : decode cX11_readPart 176 = .ok (.invokevirtual 98, 3) := by decide +kernel
theorem dX11_readPart_179 : decode cX11_readPart 179 = .ok (.ifCond .eq 60, 3) := by decide +kernel
theorem dX11_readPart_182 : decode cX11_readPart 182 = .ok (.aload_n 0, 1) := by decide +kernel
theorem dX11_readPart_183 : decode cX11_readPart 183 = .ok (.dup, 1) := by decide +kernel
theorem dX11_readPart_184 : decode cX11_readPart 184 = .ok (.getfield 72, 3) := by decide +kernel
theorem dX11_readPart_187 : decode cX11_readPart 187 = .ok (.iconst 1, 1) := by decide +kernel
theorem dX11_readPart_188 : decode cX11_readPart 188 = .ok (.iadd, 1) := by decide +kernel
theorem dX11_readPart_189 : decode cX11_readPart 189 = .ok (.putfield 72, 3) := by decide +kernel
theorem dX11_readPart_192 : decode cX11_readPart 192 = .ok (.aload_n 0, 1) := by decide +kernel
theorem dX11_readPart_193 : decode cX11_readPart 193 = .ok (.aload_n 0, 1) := by decide +kernel
theorem dX11_readPart_194 : decode cX11_readPart 194 = .ok (.invokevirtual 98, 3) := by decide +kernel
theorem dX11_readPart_197 : decode cX11_readPart 197 = .ok (.invokevirtual 95, 3) := by decide +kernel
theorem dX11_readPart_200 : decode cX11_readPart 200 = .ok (.istore_n 2, 1) := by decide +kernel
theorem dX11_readPart_201 : decode cX11_readPart 201 = .ok (.aload_n 0, 1) := by decide +kernel
theorem dX11_readPart_202 : decode cX11_readPart 202 = .ok (.aload_n 0, 1) := by decide +kernel
theorem dX11_readPart_203 : decode cX11_readPart 203 = .ok (.iload_n 2, 1) := by decide +kernel
theorem dX11_readPart_204 : decode cX11_readPart 204 = .ok (.invokevirtual 87, 3) := by decide +kernel
theorem dX11_readPart_207 : decode cX11_readPart 207 = .ok (.invokevirtual 95, 3) := by decide +kernel
theorem dX11_readPart_210 : decode cX11_readPart 210 = .ok (.istore_n 3, 1) := by decide +kernel
theorem dX11_readPart_211 : decode cX11_readPart 211 = .ok (.aload_n 0, 1) := by decide +kernel
theorem dX11_readPart_212 : decode cX11_readPart 212 = .ok (.getfield 31, 3) := by decide +kernel
theorem dX11_readPart_215 : decode cX11_readPart 215 = .ok (.iload_n 2, 1) := by decide +kernel
theorem dX11_readPart_216 : decode cX11_readPart 216 = .ok (.dup2, 1) := by decide +kernel
theorem dX11_readPart_217 : decode cX11_readPart 217 = .ok (.iaload, 1) := by decide +kernel
theorem dX11_readPart_218 : decode cX11_readPart 218 = .ok (.aload_n 0, 1) := by decide +kernel
theorem dX11_readPart_219 : decode cX11_readPart 219 = .ok (.getfield 69, 3) := by decide +kernel
theorem dX11_readPart_222 : decode cX11_readPart 222 = .ok (.bipush (-9), 2) := by decide +kernel
theorem dX11_readPart_224 : decode cX11_readPart 224 = .ok (.if_icmp .ne 9, 3) := by decide +kernel
theorem dX11_readPart_227 : decode cX11_readPart 227 = .ok (.iconst 1, 1) := by decide +kernel
theorem dX11_readPart_228 : decode cX11_readPart 228 = .ok (.iload_n 3, 1) := by decide +kernel
theorem dX11_readPart_229 : decode cX11_readPart 229 = .ok (.ishl, 1) := by decide +kernel
theorem dX11_readPart_230 : decode cX11_readPart 230 = .ok (.goto 4, 3) := by decide +kernel
theorem dX11_readPart_233 : decode cX11_readPart 233 = .ok (.iconst 0, 1) := by decide +kernel
theorem dX11_readPart_234 : decode cX11_readPart 234 = .ok (.ior, 1) := by decide +kernel
theorem dX11_readPart_235 : decode cX11_readPart 235 = .ok (.iastore, 1) := by decide +kernel
theorem dX11_readPart_236 : decode cX11_readPart 236 = .ok (.goto 11, 3) := by decide +kernel
theorem dX11_readPart_239 : decode cX11_readPart 239 = .ok (.aload_n 0, 1) := by decide +kernel
theorem dX11_readPart_240 : decode cX11_readPart 240 = .ok (.aload_n 0, 1) := by decide +kernel
theorem dX11_readPart_241 : decode cX11_readPart 241 = .ok (.getfield 72, 3) := by decide +kernel
theorem dX11_readPart_244 : decode cX11_readPart 244 = .ok (.putfield 69, 3) := by decide +kernel
theorem dX11_readPart_247 : decode cX11_readPart 247 = .ok (.return_, 1) := by decide +kernel
theorem dX11_fault_0 : decode cX11_fault 0 = .ok (.aload_n 0, 1) := by decide +kernel
theorem dX11_fault_1 : decode cX11_fault 1 = .ok (.invokevirtual 102, 3) := by decide +kernel
theorem dX11_fault_4 : decode cX11_fault 4 = .ok (.ireturn, 1) := by decide +kernel
theorem dX11_inn_0 : decode cX11_inn 0 = .ok (.aload_n 0, 1) := by decide +kernel
theorem dX11_inn_1 : decode cX11_inn 1 = .ok (.invokevirtual 102, 3) := by decide +kernel
theorem dX11_inn_4 : decode cX11_inn 4 = .ok (.bipush (-9), 2) := by decide +kernel
theorem dX11_inn_6 : decode cX11_inn 6 = .ok (.if_icmp .eq 6, 3) := by decide +kernel
theorem dX11_inn_9 : decode cX11_inn 9 = .ok (.bipush (-3), 2) := by decide +kernel
theorem dX11_inn_11 : decode cX11_inn 11 = .ok (.ireturn, 1) := by decide +kernel
theorem dX11_inn_12 : decode cX11_inn 12 = .ok (.aload_n 0, 1) := by decide +kernel
theorem dX11_inn_13 : decode cX11_inn 13 = .ok (.aload_n 0, 1) := by decide +kernel
theorem dX11_inn_14 : decode cX11_inn 14 = .ok (.getfield 81, 3) := by decide +kernel
theorem dX11_inn_17 : decode cX11_inn 17 = .ok (.putfield 56, 3) := by decide +kernel
theorem dX11_inn_20 : decode cX11_inn 20 = .ok (.aload_n 0, 1) := by decide +kernel
theorem dX11_inn_21 : decode cX11_inn 21 = .ok (.aload_n 0, 1) := by decide +kernel
theorem dX11_inn_22 : decode cX11_inn 22 = .ok (.getfield 84, 3) := by decide +kernel
theorem dX11_inn_25 : decode cX11_inn 25 = .ok (.putfield 105, 3) := by decide +kernel
theorem dX11_inn_28 : decode cX11_inn 28 = .ok (.iconst 0, 1) := by decide +kernel
theorem dX11_inn_29 : decode cX11_inn 29 = .ok (.istore_n 1, 1) := by decide +kernel
theorem dX11_inn_30 : decode cX11_inn 30 = .ok (.iload_n 1, 1) := by decide +kernel
theorem dX11_inn_31 : decode cX11_inn 31 = .ok (.bipush 15, 2) := by decide +kernel
theorem dX11_inn_33 : decode cX11_inn 33 = .ok (.if_icmp .ge 16, 3) := by decide +kernel
theorem dX11_inn_36 : decode cX11_inn 36 = .ok (.aload_n 0, 1) := by decide +kernel
theorem dX11_inn_37 : decode cX11_inn 37 = .ok (.getfield 22, 3) := by decide +kernel
theorem dX11_inn_40 : decode cX11_inn 40 = .ok (.iload_n 1, 1) := by decide +kernel
theorem dX11_inn_41 : decode cX11_inn 41 = .ok (.iconst 0, 1) := by decide +kernel
theorem dX11_inn_42 : decode cX11_inn 42 = .ok (.iastore, 1) := by decide +kernel
theorem dX11_inn_43 : decode cX11_inn 43 = .ok (.iinc 1 1, 3) := by decide +kernel
theorem dX11_inn_46 : decode cX11_inn 46 = .ok (.goto (-16), 3) := by decide +kernel
theorem dX11_inn_49 : decode cX11_inn 49 = .ok (.iconst 0, 1) := by decide +kernel
theorem dX11_inn_50 : decode cX11_inn 50 = .ok (.istore_n 1, 1) := by decide +kernel
theorem dX11_inn_51 : decode cX11_inn 51 = .ok (.iload_n 1, 1) := by decide +kernel
theorem dX11_inn_52 : decode cX11_inn 52 = .ok (.aload_n 0, 1) := by decide +kernel
theorem dX11_inn_53 : decode cX11_inn 53 = .ok (.getfield 56, 3) := by decide +kernel
theorem dX11_inn_56 : decode cX11_inn 56 = .ok (.if_icmp .ge 55, 3) := by decide +kernel
theorem dX11_inn_59 : decode cX11_inn 59 = .ok (.aload_n 0, 1) := by decide +kernel
theorem dX11_inn_60 : decode cX11_inn 60 = .ok (.getfield 7, 3) := by decide +kernel
theorem dX11_inn_63 : decode cX11_inn 63 = .ok (.iload_n 1, 1) := by decide +kernel
theorem dX11_inn_64 : decode cX11_inn 64 = .ok (.aload_n 0, 1) := by decide +kernel
theorem dX11_inn_65 : decode cX11_inn 65 = .ok (.getfield 25, 3) := by decide +kernel
theorem dX11_inn_68 : decode cX11_inn 68 = .ok (.iconst 3, 1) := by decide +kernel
theorem dX11_inn_69 : decode cX11_inn 69 = .ok (.iload_n 1, 1) := by decide +kernel
theorem dX11_inn_70 : decode cX11_inn 70 = .ok (.imul, 1) := by decide +kernel
theorem dX11_inn_71 : decode cX11_inn 71 = .ok (.iaload, 1) := by decide +kernel
theorem dX11_inn_72 : decode cX11_inn 72 = .ok (.iastore, 1) := by decide +kernel
theorem dX11_inn_73 : decode cX11_inn 73 = .ok (.aload_n 0, 1) := by decide +kernel
theorem dX11_inn_74 : decode cX11_inn 74 = .ok (.getfield 22, 3) := by decide +kernel
theorem dX11_inn_77 : decode cX11_inn 77 = .ok (.iload_n 1, 1) := by decide +kernel
theorem dX11_inn_78 : decode cX11_inn 78 = .ok (.aload_n 0, 1) := by decide +kernel
theorem dX11_inn_79 : decode cX11_inn 79 = .ok (.getfield 25, 3) := by decide +kernel
theorem dX11_inn_82 : decode cX11_inn 82 = .ok (.iconst 3, 1) := by decide +kernel
theorem dX11_inn_83 : decode cX11_inn 83 = .ok (.iload_n 1, 1) := by decide +kernel
theorem dX11_inn_84 : decode cX11_inn 84 = .ok (.imul, 1) := by decide +kernel
theorem dX11_inn_85 : decode cX11_inn 85 = .ok (.iconst 1, 1) := by decide +kernel
theorem dX11_inn_86 : decode cX11_inn 86 = .ok (.iadd, 1) := by decide +kernel
theorem dX11_inn_87 : decode cX11_inn 87 = .ok (.iaload, 1) := by decide +kernel
theorem dX11_inn_88 : decode cX11_inn 88 = .ok (.iastore, 1) := by decide +kernel
theorem dX11_inn_89 : decode cX11_inn 89 = .ok (.aload_n 0, 1) := by decide +kernel
theorem dX11_inn_90 : decode cX11_inn 90 = .ok (.getfield 13, 3) := by decide +kernel
theorem dX11_inn_93 : decode cX11_inn 93 = .ok (.iload_n 1, 1) := by decide +kernel
theorem dX11_inn_94 : decode cX11_inn 94 = .ok (.aload_n 0, 1) := by decide +kernel
theorem dX11_inn_95 : decode cX11_inn 95 = .ok (.getfield 25, 3) := by decide +kernel
theorem dX11_inn_98 : decode cX11_inn 98 = .ok (.iconst 3, 1) := by decide +kernel
theorem dX11_inn_99 : decode cX11_inn 99 = .ok (.iload_n 1, 1) := by decide +kernel
theorem dX11_inn_100 : decode cX11_inn 100 = .ok (.imul, 1) := by decide +kernel
theorem dX11_inn_101 : decode cX11_inn 101 = .ok (.iconst 2, 1) := by decide +kernel
theorem dX11_inn_102 : decode cX11_inn 102 = .ok (.iadd, 1) := by decide +kernel
theorem dX11_inn_103 : decode cX11_inn 103 = .ok (.iaload, 1) := by decide +kernel
theorem dX11_inn_104 : decode cX11_inn 104 = .ok (.iastore, 1) := by decide +kernel
theorem dX11_inn_105 : decode cX11_inn 105 = .ok (.iinc 1 1, 3) := by decide +kernel
theorem dX11_inn_108 : decode cX11_inn 108 = .ok (.goto (-57), 3) := by decide +kernel
theorem dX11_inn_111 : decode cX11_inn 111 = .ok (.iconst 0, 1) := by decide +kernel
theorem dX11_inn_112 : decode cX11_inn 112 = .ok (.istore_n 1, 1) := by decide +kernel
theorem dX11_inn_113 : decode cX11_inn 113 = .ok (.iload_n 1, 1) := by decide +kernel
theorem dX11_inn_114 : decode cX11_inn 114 = .ok (.aload_n 0, 1) := by decide +kernel
theorem dX11_inn_115 : decode cX11_inn 115 = .ok (.getfield 105, 3) := by decide +kernel
theorem dX11_inn_118 : decode cX11_inn 118 = .ok (.if_icmp .ge 54, 3) := by decide +kernel
theorem dX11_inn_121 : decode cX11_inn 121 = .ok (.aload_n 0, 1) := by decide +kernel
theorem dX11_inn_122 : decode cX11_inn 122 = .ok (.getfield 22, 3) := by decide +kernel
theorem dX11_inn_125 : decode cX11_inn 125 = .ok (.bipush 10, 2) := by decide +kernel
theorem dX11_inn_127 : decode cX11_inn 127 = .ok (.iload_n 1, 1) := by decide +kernel
theorem dX11_inn_128 : decode cX11_inn 128 = .ok (.iadd, 1) := by decide +kernel
theorem dX11_inn_129 : decode cX11_inn 129 = .ok (.aload_n 0, 1) := by decide +kernel
theorem dX11_inn_130 : decode cX11_inn 130 = .ok (.getfield 28, 3) := by decide +kernel
theorem dX11_inn_133 : decode cX11_inn 133 = .ok (.iconst 2, 1) := by decide +kernel
theorem dX11_inn_134 : decode cX11_inn 134 = .ok (.iload_n 1, 1) := by decide +kernel
theorem dX11_inn_135 : decode cX11_inn 135 = .ok (.imul, 1) := by decide +kernel
theorem dX11_inn_136 : decode cX11_inn 136 = .ok (.iaload, 1) := by decide +kernel
theorem dX11_inn_137 : decode cX11_inn 137 = .ok (.iastore, 1) := by decide +kernel
theorem dX11_inn_138 : decode cX11_inn 138 = .ok (.aload_n 0, 1) := by decide +kernel
theorem dX11_inn_139 : decode cX11_inn 139 = .ok (.getfield 16, 3) := by decide +kernel
theorem dX11_inn_142 : decode cX11_inn 142 = .ok (.iload_n 1, 1) := by decide +kernel
theorem dX11_inn_143 : decode cX11_inn 143 = .ok (.aload_n 0, 1) := by decide +kernel
theorem dX11_inn_144 : decode cX11_inn 144 = .ok (.getfield 28, 3) := by decide +kernel
theorem dX11_inn_147 : decode cX11_inn 147 = .ok (.iconst 2, 1) := by decide +kernel
theorem dX11_inn_148 : decode cX11_inn 148 = .ok (.iload_n 1, 1) := by decide +kernel
theorem dX11_inn_149 : decode cX11_inn 149 = .ok (.imul, 1) := by decide +kernel
theorem dX11_inn_150 : decode cX11_inn 150 = .ok (.iconst 1, 1) := by decide +kernel
theorem dX11_inn_151 : decode cX11_inn 151 = .ok (.iadd, 1) := by decide +kernel
theorem dX11_inn_152 : decode cX11_inn 152 = .ok (.iaload, 1) := by decide +kernel
theorem dX11_inn_153 : decode cX11_inn 153 = .ok (.iastore, 1) := by decide +kernel
theorem dX11_inn_154 : decode cX11_inn 154 = .ok (.aload_n 0, 1) := by decide +kernel
theorem dX11_inn_155 : decode cX11_inn 155 = .ok (.getfield 19, 3) := by decide +kernel
theorem dX11_inn_158 : decode cX11_inn 158 = .ok (.iload_n 1, 1) := by decide +kernel
theorem dX11_inn_159 : decode cX11_inn 159 = .ok (.aload_n 0, 1) := by decide +kernel
theorem dX11_inn_160 : decode cX11_inn 160 = .ok (.getfield 31, 3) := by decide +kernel
theorem dX11_inn_163 : decode cX11_inn 163 = .ok (.iload_n 1, 1) := by decide +kernel
theorem dX11_inn_164 : decode cX11_inn 164 = .ok (.iaload, 1) := by decide +kernel
theorem dX11_inn_165 : decode cX11_inn 165 = .ok (.iastore, 1) := by decide +kernel
theorem dX11_inn_166 : decode cX11_inn 166 = .ok (.iinc 1 1, 3) := by decide +kernel
theorem dX11_inn_169 : decode cX11_inn 169 = .ok (.goto (-56), 3) := by decide +kernel
theorem dX11_inn_172 : decode cX11_inn 172 = .ok (.aload_n 0, 1) := by decide +kernel
theorem dX11_inn_173 : decode cX11_inn 173 = .ok (.iconst 0, 1) := by decide +kernel
theorem dX11_inn_174 : decode cX11_inn 174 = .ok (.putfield 108, 3) := by decide +kernel
theorem dX11_inn_177 : decode cX11_inn 177 = .ok (.aload_n 0, 1) := by decide +kernel
theorem dX11_inn_178 : decode cX11_inn 178 = .ok (.getfield 49, 3) := by decide +kernel
theorem dX11_inn_181 : decode cX11_inn 181 = .ok (.iconst 0, 1) := by decide +kernel
theorem dX11_inn_182 : decode cX11_inn 182 = .ok (.iconst 0, 1) := by decide +kernel
theorem dX11_inn_183 : decode cX11_inn 183 = .ok (.bastore, 1) := by decide +kernel
theorem dX11_inn_184 : decode cX11_inn 184 = .ok (.aload_n 0, 1) := by decide +kernel
theorem dX11_inn_185 : decode cX11_inn 185 = .ok (.getfield 49, 3) := by decide +kernel
theorem dX11_inn_188 : decode cX11_inn 188 = .ok (.iconst 1, 1) := by decide +kernel
theorem dX11_inn_189 : decode cX11_inn 189 = .ok (.iconst 0, 1) := by decide +kernel
theorem dX11_inn_190 : decode cX11_inn 190 = .ok (.bastore, 1) := by decide +kernel
theorem dX11_inn_191 : decode cX11_inn 191 = .ok (.bipush 10, 2) := by decide +kernel
theorem dX11_inn_193 : decode cX11_inn 193 = .ok (.aload_n 0, 1) := by decide +kernel
theorem dX11_inn_194 : decode cX11_inn 194 = .ok (.getfield 56, 3) := by decide +kernel
theorem dX11_inn_197 : decode cX11_inn 197 = .ok (.imul, 1) := by decide +kernel
theorem dX11_inn_198 : decode cX11_inn 198 = .ok (.aload_n 0, 1) := by decide +kernel
theorem dX11_inn_199 : decode cX11_inn 199 = .ok (.getfield 105, 3) := by decide +kernel
theorem dX11_inn_202 : decode cX11_inn 202 = .ok (.iadd, 1) := by decide +kernel
theorem dX11_inn_203 : decode cX11_inn 203 = .ok (.ireturn, 1) := by decide +kernel
theorem dX11_isGlass_0 : decode cX11_isGlass 0 = .ok (.iload_n 1, 1) := by decide +kernel
theorem dX11_isGlass_1 : decode cX11_isGlass 1 = .ok (.i2l, 1) := by decide +kernel
theorem dX11_isGlass_2 : decode cX11_isGlass 2 = .ok (.lconst 0, 1) := by decide +kernel
theorem dX11_isGlass_3 : decode cX11_isGlass 3 = .ok (.aload_n 0, 1) := by decide +kernel
theorem dX11_isGlass_4 : decode cX11_isGlass 4 = .ok (.getfield 56, 3) := by decide +kernel
theorem dX11_isGlass_7 : decode cX11_isGlass 7 = .ok (.iconst 1, 1) := by decide +kernel
theorem dX11_isGlass_8 : decode cX11_isGlass 8 = .ok (.isub, 1) := by decide +kernel
theorem dX11_isGlass_9 : decode cX11_isGlass 9 = .ok (.i2l, 1) := by decide +kernel
theorem dX11_isGlass_10 : decode cX11_isGlass 10 = .ok (.invokestatic 62, 3) := by decide +kernel
theorem dX11_isGlass_13 : decode cX11_isGlass 13 = .ok (.ireturn, 1) := by decide +kernel
theorem dX11_isDrinker_0 : decode cX11_isDrinker 0 = .ok (.iload_n 1, 1) := by decide +kernel
theorem dX11_isDrinker_1 : decode cX11_isDrinker 1 = .ok (.i2l, 1) := by decide +kernel
theorem dX11_isDrinker_2 : decode cX11_isDrinker 2 = .ok (.lconst 0, 1) := by decide +kernel
theorem dX11_isDrinker_3 : decode cX11_isDrinker 3 = .ok (.aload_n 0, 1) := by decide +kernel
theorem dX11_isDrinker_4 : decode cX11_isDrinker 4 = .ok (.getfield 105, 3) := by decide +kernel
theorem dX11_isDrinker_7 : decode cX11_isDrinker 7 = .ok (.iconst 1, 1) := by decide +kernel
theorem dX11_isDrinker_8 : decode cX11_isDrinker 8 = .ok (.isub, 1) := by decide +kernel
theorem dX11_isDrinker_9 : decode cX11_isDrinker 9 = .ok (.i2l, 1) := by decide +kernel
theorem dX11_isDrinker_10 : decode cX11_isDrinker 10 = .ok (.invokestatic 62, 3) := by decide +kernel
theorem dX11_isDrinker_13 : decode cX11_isDrinker 13 = .ok (.ireturn, 1) := by decide +kernel
theorem dX11_drinks_0 : decode cX11_drinks 0 = .ok (.iload_n 2, 1) := by decide +kernel
theorem dX11_drinks_1 : decode cX11_drinks 1 = .ok (.iconst 3, 1) := by decide +kernel
theorem dX11_drinks_2 : decode cX11_drinks 2 = .ok (.if_icmp .ne 7, 3) := by decide +kernel
theorem dX11_drinks_5 : decode cX11_drinks 5 = .ok (.iconst 0, 1) := by decide +kernel
theorem dX11_drinks_6 : decode cX11_drinks 6 = .ok (.goto 30, 3) := by decide +kernel
theorem dX11_drinks_9 : decode cX11_drinks 9 = .ok (.iload_n 2, 1) := by decide +kernel
theorem dX11_drinks_10 : decode cX11_drinks 10 = .ok (.iconst 2, 1) := by decide +kernel
theorem dX11_drinks_11 : decode cX11_drinks 11 = .ok (.if_icmp .ne 9, 3) := by decide +kernel
theorem dX11_drinks_14 : decode cX11_drinks 14 = .ok (.iload_n 1, 1) := by decide +kernel
theorem dX11_drinks_15 : decode cX11_drinks 15 = .ok (.iconst 2, 1) := by decide +kernel
theorem dX11_drinks_16 : decode cX11_drinks 16 = .ok (.idiv, 1) := by decide +kernel
theorem dX11_drinks_17 : decode cX11_drinks 17 = .ok (.goto 19, 3) := by decide +kernel
theorem dX11_drinks_20 : decode cX11_drinks 20 = .ok (.iload_n 2, 1) := by decide +kernel
theorem dX11_drinks_21 : decode cX11_drinks 21 = .ok (.iconst 1, 1) := by decide +kernel
theorem dX11_drinks_22 : decode cX11_drinks 22 = .ok (.if_icmp .ne 13, 3) := by decide +kernel
theorem dX11_drinks_25 : decode cX11_drinks 25 = .ok (.iload_n 1, 1) := by decide +kernel
theorem dX11_drinks_26 : decode cX11_drinks 26 = .ok (.ifCond .le 9, 3) := by decide +kernel
theorem dX11_drinks_29 : decode cX11_drinks 29 = .ok (.iload_n 1, 1) := by decide +kernel
theorem dX11_drinks_30 : decode cX11_drinks 30 = .ok (.iconst 1, 1) := by decide +kernel
theorem dX11_drinks_31 : decode cX11_drinks 31 = .ok (.isub, 1) := by decide +kernel
theorem dX11_drinks_32 : decode cX11_drinks 32 = .ok (.goto 4, 3) := by decide +kernel
theorem dX11_drinks_35 : decode cX11_drinks 35 = .ok (.iload_n 1, 1) := by decide +kernel
theorem dX11_drinks_36 : decode cX11_drinks 36 = .ok (.istore_n 3, 1) := by decide +kernel
theorem dX11_drinks_37 : decode cX11_drinks 37 = .ok (.iload_n 0, 1) := by decide +kernel
theorem dX11_drinks_38 : decode cX11_drinks 38 = .ok (.iload_n 3, 1) := by decide +kernel
theorem dX11_drinks_39 : decode cX11_drinks 39 = .ok (.if_icmp .ge 7, 3) := by decide +kernel
theorem dX11_drinks_42 : decode cX11_drinks 42 = .ok (.iload_n 0, 1) := by decide +kernel
theorem dX11_drinks_43 : decode cX11_drinks 43 = .ok (.goto 4, 3) := by decide +kernel
theorem dX11_drinks_46 : decode cX11_drinks 46 = .ok (.iload_n 3, 1) := by decide +kernel
theorem dX11_drinks_47 : decode cX11_drinks 47 = .ok (.ireturn, 1) := by decide +kernel
theorem dX11_drinkOn_0 : decode cX11_drinkOn 0 = .ok (.bipush 15, 2) := by decide +kernel
theorem dX11_drinkOn_2 : decode cX11_drinkOn 2 = .ok (.iload_n 1, 1) := by decide +kernel
theorem dX11_drinkOn_3 : decode cX11_drinkOn 3 = .ok (.imul, 1) := by decide +kernel
theorem dX11_drinkOn_4 : decode cX11_drinkOn 4 = .ok (.istore 4, 2) := by decide +kernel
theorem dX11_drinkOn_6 : decode cX11_drinkOn 6 = .ok (.aload_n 0, 1) := by decide +kernel
theorem dX11_drinkOn_7 : decode cX11_drinkOn 7 = .ok (.getfield 22, 3) := by decide +kernel
theorem dX11_drinkOn_10 : decode cX11_drinkOn 10 = .ok (.iload 4, 2) := by decide +kernel
theorem dX11_drinkOn_12 : decode cX11_drinkOn 12 = .ok (.bipush 10, 2) := by decide +kernel
theorem dX11_drinkOn_14 : decode cX11_drinkOn 14 = .ok (.iadd, 1) := by decide +kernel
theorem dX11_drinkOn_15 : decode cX11_drinkOn 15 = .ok (.iload_n 2, 1) := by decide +kernel
theorem dX11_drinkOn_16 : decode cX11_drinkOn 16 = .ok (.iadd, 1) := by decide +kernel
theorem dX11_drinkOn_17 : decode cX11_drinkOn 17 = .ok (.iaload, 1) := by decide +kernel
theorem dX11_drinkOn_18 : decode cX11_drinkOn 18 = .ok (.aload_n 0, 1) := by decide +kernel
theorem dX11_drinkOn_19 : decode cX11_drinkOn 19 = .ok (.getfield 22, 3) := by decide +kernel
theorem dX11_drinkOn_22 : decode cX11_drinkOn 22 = .ok (.iload 4, 2) := by decide +kernel
theorem dX11_drinkOn_24 : decode cX11_drinkOn 24 = .ok (.iload_n 3, 1) := by decide +kernel
theorem dX11_drinkOn_25 : decode cX11_drinkOn 25 = .ok (.iadd, 1) := by decide +kernel
theorem dX11_drinkOn_26 : decode cX11_drinkOn 26 = .ok (.iaload, 1) := by decide +kernel
theorem dX11_drinkOn_27 : decode cX11_drinkOn 27 = .ok (.aload_n 0, 1) := by decide +kernel
theorem dX11_drinkOn_28 : decode cX11_drinkOn 28 = .ok (.getfield 16, 3) := by decide +kernel
theorem dX11_drinkOn_31 : decode cX11_drinkOn 31 = .ok (.iload_n 2, 1) := by decide +kernel
theorem dX11_drinkOn_32 : decode cX11_drinkOn 32 = .ok (.iaload, 1) := by decide +kernel
theorem dX11_drinkOn_33 : decode cX11_drinkOn 33 = .ok (.invokestatic 111, 3) := by decide +kernel
theorem dX11_drinkOn_36 : decode cX11_drinkOn 36 = .ok (.istore 5, 2) := by decide +kernel
theorem dX11_drinkOn_38 : decode cX11_drinkOn 38 = .ok (.aload_n 0, 1) := by decide +kernel
theorem dX11_drinkOn_39 : decode cX11_drinkOn 39 = .ok (.getfield 22, 3) := by decide +kernel
theorem dX11_drinkOn_42 : decode cX11_drinkOn 42 = .ok (.iload 4, 2) := by decide +kernel
theorem dX11_drinkOn_44 : decode cX11_drinkOn 44 = .ok (.iload_n 3, 1) := by decide +kernel
theorem dX11_drinkOn_45 : decode cX11_drinkOn 45 = .ok (.iadd, 1) := by decide +kernel
theorem dX11_drinkOn_46 : decode cX11_drinkOn 46 = .ok (.dup2, 1) := by decide +kernel
theorem dX11_drinkOn_47 : decode cX11_drinkOn 47 = .ok (.iaload, 1) := by decide +kernel
theorem dX11_drinkOn_48 : decode cX11_drinkOn 48 = .ok (.iload 5, 2) := by decide +kernel
theorem dX11_drinkOn_50 : decode cX11_drinkOn 50 = .ok (.isub, 1) := by decide +kernel
theorem dX11_drinkOn_51 : decode cX11_drinkOn 51 = .ok (.iastore, 1) := by decide +kernel
theorem dX11_drinkOn_52 : decode cX11_drinkOn 52 = .ok (.aload_n 0, 1) := by decide +kernel
theorem dX11_drinkOn_53 : decode cX11_drinkOn 53 = .ok (.getfield 22, 3) := by decide +kernel
theorem dX11_drinkOn_56 : decode cX11_drinkOn 56 = .ok (.iload 4, 2) := by decide +kernel
theorem dX11_drinkOn_58 : decode cX11_drinkOn 58 = .ok (.bipush 10, 2) := by decide +kernel
theorem dX11_drinkOn_60 : decode cX11_drinkOn 60 = .ok (.iadd, 1) := by decide +kernel
theorem dX11_drinkOn_61 : decode cX11_drinkOn 61 = .ok (.iload_n 2, 1) := by decide +kernel
theorem dX11_drinkOn_62 : decode cX11_drinkOn 62 = .ok (.iadd, 1) := by decide +kernel
theorem dX11_drinkOn_63 : decode cX11_drinkOn 63 = .ok (.dup2, 1) := by decide +kernel
theorem dX11_drinkOn_64 : decode cX11_drinkOn 64 = .ok (.iaload, 1) := by decide +kernel
theorem dX11_drinkOn_65 : decode cX11_drinkOn 65 = .ok (.iload 5, 2) := by decide +kernel
theorem dX11_drinkOn_67 : decode cX11_drinkOn 67 = .ok (.isub, 1) := by decide +kernel
theorem dX11_drinkOn_68 : decode cX11_drinkOn 68 = .ok (.iastore, 1) := by decide +kernel
theorem dX11_drinkOn_69 : decode cX11_drinkOn 69 = .ok (.iload 5, 2) := by decide +kernel
theorem dX11_drinkOn_71 : decode cX11_drinkOn 71 = .ok (.ireturn, 1) := by decide +kernel
theorem dX11_sitOn_0 : decode cX11_sitOn 0 = .ok (.iconst 0, 1) := by decide +kernel
theorem dX11_sitOn_1 : decode cX11_sitOn 1 = .ok (.istore_n 3, 1) := by decide +kernel
theorem dX11_sitOn_2 : decode cX11_sitOn 2 = .ok (.iload_n 3, 1) := by decide +kernel
theorem dX11_sitOn_3 : decode cX11_sitOn 3 = .ok (.aload_n 0, 1) := by decide +kernel
theorem dX11_sitOn_4 : decode cX11_sitOn 4 = .ok (.getfield 56, 3) := by decide +kernel
theorem dX11_sitOn_7 : decode cX11_sitOn 7 = .ok (.if_icmp .ge 30, 3) := by decide +kernel
theorem dX11_sitOn_10 : decode cX11_sitOn 10 = .ok (.aload_n 0, 1) := by decide +kernel
theorem dX11_sitOn_11 : decode cX11_sitOn 11 = .ok (.getfield 19, 3) := by decide +kernel
theorem dX11_sitOn_14 : decode cX11_sitOn 14 = .ok (.iload_n 2, 1) := by decide +kernel
theorem dX11_sitOn_15 : decode cX11_sitOn 15 = .ok (.iaload, 1) := by decide +kernel
theorem dX11_sitOn_16 : decode cX11_sitOn 16 = .ok (.iload_n 3, 1) := by decide +kernel
theorem dX11_sitOn_17 : decode cX11_sitOn 17 = .ok (.invokestatic 77, 3) := by decide +kernel
theorem dX11_sitOn_20 : decode cX11_sitOn 20 = .ok (.ifCond .eq 11, 3) := by decide +kernel
theorem dX11_sitOn_23 : decode cX11_sitOn 23 = .ok (.aload_n 0, 1) := by decide +kernel
theorem dX11_sitOn_24 : decode cX11_sitOn 24 = .ok (.iload_n 1, 1) := by decide +kernel
theorem dX11_sitOn_25 : decode cX11_sitOn 25 = .ok (.iload_n 2, 1) := by decide +kernel
theorem dX11_sitOn_26 : decode cX11_sitOn 26 = .ok (.iload_n 3, 1) := by decide +kernel
theorem dX11_sitOn_27 : decode cX11_sitOn 27 = .ok (.invokevirtual 115, 3) := by decide +kernel
theorem dX11_sitOn_30 : decode cX11_sitOn 30 = .ok (.pop, 1) := by decide +kernel
theorem dX11_sitOn_31 : decode cX11_sitOn 31 = .ok (.iinc 3 1, 3) := by decide +kernel
theorem dX11_sitOn_34 : decode cX11_sitOn 34 = .ok (.goto (-32), 3) := by decide +kernel
theorem dX11_sitOn_37 : decode cX11_sitOn 37 = .ok (.return_, 1) := by decide +kernel
theorem dX11_eveningOn_0 : decode cX11_eveningOn 0 = .ok (.iconst 0, 1) := by decide +kernel
theorem dX11_eveningOn_1 : decode cX11_eveningOn 1 = .ok (.istore_n 3, 1) := by decide +kernel
theorem dX11_eveningOn_2 : decode cX11_eveningOn 2 = .ok (.iload_n 3, 1) := by decide +kernel
theorem dX11_eveningOn_3 : decode cX11_eveningOn 3 = .ok (.aload_n 0, 1) := by decide +kernel
theorem dX11_eveningOn_4 : decode cX11_eveningOn 4 = .ok (.getfield 105, 3) := by decide +kernel
theorem dX11_eveningOn_7 : decode cX11_eveningOn 7 = .ok (.if_icmp .ge 23, 3) := by decide +kernel
theorem dX11_eveningOn_10 : decode cX11_eveningOn 10 = .ok (.iload_n 2, 1) := by decide +kernel
theorem dX11_eveningOn_11 : decode cX11_eveningOn 11 = .ok (.iload_n 3, 1) := by decide +kernel
theorem dX11_eveningOn_12 : decode cX11_eveningOn 12 = .ok (.invokestatic 77, 3) := by decide +kernel
theorem dX11_eveningOn_15 : decode cX11_eveningOn 15 = .ok (.ifCond .eq 9, 3) := by decide +kernel
theorem dX11_eveningOn_18 : decode cX11_eveningOn 18 = .ok (.aload_n 0, 1) := by decide +kernel
theorem dX11_eveningOn_19 : decode cX11_eveningOn 19 = .ok (.iload_n 1, 1) := by decide +kernel
theorem dX11_eveningOn_20 : decode cX11_eveningOn 20 = .ok (.iload_n 3, 1) := by decide +kernel
theorem dX11_eveningOn_21 : decode cX11_eveningOn 21 = .ok (.invokevirtual 118, 3) := by decide +kernel
theorem dX11_eveningOn_24 : decode cX11_eveningOn 24 = .ok (.iinc 3 1, 3) := by decide +kernel
theorem dX11_eveningOn_27 : decode cX11_eveningOn 27 = .ok (.goto (-25), 3) := by decide +kernel
theorem dX11_eveningOn_30 : decode cX11_eveningOn 30 = .ok (.return_, 1) := by decide +kernel
theorem dX11_taxOn_0 : decode cX11_taxOn 0 = .ok (.aload_n 0, 1) := by decide +kernel
theorem dX11_taxOn_1 : decode cX11_taxOn 1 = .ok (.getfield 22, 3) := by decide +kernel
theorem dX11_taxOn_4 : decode cX11_taxOn 4 = .ok (.bipush 15, 2) := by decide +kernel
theorem dX11_taxOn_6 : decode cX11_taxOn 6 = .ok (.iload_n 1, 1) := by decide +kernel
theorem dX11_taxOn_7 : decode cX11_taxOn 7 = .ok (.imul, 1) := by decide +kernel
theorem dX11_taxOn_8 : decode cX11_taxOn 8 = .ok (.iload_n 2, 1) := by decide +kernel
theorem dX11_taxOn_9 : decode cX11_taxOn 9 = .ok (.iadd, 1) := by decide +kernel
theorem dX11_taxOn_10 : decode cX11_taxOn 10 = .ok (.iaload, 1) := by decide +kernel
theorem dX11_taxOn_11 : decode cX11_taxOn 11 = .ok (.istore_n 3, 1) := by decide +kernel
theorem dX11_taxOn_12 : decode cX11_taxOn 12 = .ok (.aload_n 0, 1) := by decide +kernel
theorem dX11_taxOn_13 : decode cX11_taxOn 13 = .ok (.getfield 22, 3) := by decide +kernel
theorem dX11_taxOn_16 : decode cX11_taxOn 16 = .ok (.bipush 15, 2) := by decide +kernel
theorem dX11_taxOn_18 : decode cX11_taxOn 18 = .ok (.iload_n 1, 1) := by decide +kernel
theorem dX11_taxOn_19 : decode cX11_taxOn 19 = .ok (.imul, 1) := by decide +kernel
theorem dX11_taxOn_20 : decode cX11_taxOn 20 = .ok (.iconst 5, 1) := by decide +kernel
theorem dX11_taxOn_21 : decode cX11_taxOn 21 = .ok (.iadd, 1) := by decide +kernel
theorem dX11_taxOn_22 : decode cX11_taxOn 22 = .ok (.iload_n 2, 1) := by decide +kernel
theorem dX11_taxOn_23 : decode cX11_taxOn 23 = .ok (.iadd, 1) := by decide +kernel
theorem dX11_taxOn_24 : decode cX11_taxOn 24 = .ok (.iaload, 1) := by decide +kernel
theorem dX11_taxOn_25 : decode cX11_taxOn 25 = .ok (.iconst 3, 1) := by decide +kernel
theorem dX11_taxOn_26 : decode cX11_taxOn 26 = .ok (.if_icmp .lt 7, 3) := by decide +kernel
theorem dX11_taxOn_29 : decode cX11_taxOn 29 = .ok (.iconst 0, 1) := by decide +kernel
theorem dX11_taxOn_30 : decode cX11_taxOn 30 = .ok (.goto 4, 3) := by decide +kernel
theorem dX11_taxOn_33 : decode cX11_taxOn 33 = .ok (.iload_n 3, 1) := by decide +kernel
theorem dX11_taxOn_34 : decode cX11_taxOn 34 = .ok (.istore 4, 2) := by decide +kernel
theorem dX11_taxOn_36 : decode cX11_taxOn 36 = .ok (.iload 4, 2) := by decide +kernel
theorem dX11_taxOn_38 : decode cX11_taxOn 38 = .ok (.aload_n 0, 1) := by decide +kernel
theorem dX11_taxOn_39 : decode cX11_taxOn 39 = .ok (.getfield 13, 3) := by decide +kernel
theorem dX11_taxOn_42 : decode cX11_taxOn 42 = .ok (.iload_n 2, 1) := by decide +kernel
theorem dX11_taxOn_43 : decode cX11_taxOn 43 = .ok (.iaload, 1) := by decide +kernel
theorem dX11_taxOn_44 : decode cX11_taxOn 44 = .ok (.iconst 3, 1) := by decide +kernel
theorem dX11_taxOn_45 : decode cX11_taxOn 45 = .ok (.if_icmp .ne 7, 3) := by decide +kernel
theorem dX11_taxOn_48 : decode cX11_taxOn 48 = .ok (.iconst 2, 1) := by decide +kernel
theorem dX11_taxOn_49 : decode cX11_taxOn 49 = .ok (.goto 4, 3) := by decide +kernel
theorem dX11_taxOn_52 : decode cX11_taxOn 52 = .ok (.iconst 0, 1) := by decide +kernel
theorem dX11_taxOn_53 : decode cX11_taxOn 53 = .ok (.isub, 1) := by decide +kernel
theorem dX11_taxOn_54 : decode cX11_taxOn 54 = .ok (.istore 4, 2) := by decide +kernel
theorem dX11_taxOn_56 : decode cX11_taxOn 56 = .ok (.iload 4, 2) := by decide +kernel
theorem dX11_taxOn_58 : decode cX11_taxOn 58 = .ok (.ifCond .gt 5, 3) := by decide +kernel
theorem dX11_taxOn_61 : decode cX11_taxOn 61 = .ok (.iconst 0, 1) := by decide +kernel
theorem dX11_taxOn_62 : decode cX11_taxOn 62 = .ok (.ireturn, 1) := by decide +kernel
theorem dX11_taxOn_63 : decode cX11_taxOn 63 = .ok (.iconst 2, 1) := by decide +kernel
theorem dX11_taxOn_64 : decode cX11_taxOn 64 = .ok (.iload_n 3, 1) := by decide +kernel
theorem dX11_taxOn_65 : decode cX11_taxOn 65 = .ok (.imul, 1) := by decide +kernel
theorem dX11_taxOn_66 : decode cX11_taxOn 66 = .ok (.aload_n 0, 1) := by decide +kernel
theorem dX11_taxOn_67 : decode cX11_taxOn 67 = .ok (.getfield 7, 3) := by decide +kernel
theorem dX11_taxOn_70 : decode cX11_taxOn 70 = .ok (.iload_n 2, 1) := by decide +kernel
theorem dX11_taxOn_71 : decode cX11_taxOn 71 = .ok (.iaload, 1) := by decide +kernel
theorem dX11_taxOn_72 : decode cX11_taxOn 72 = .ok (.if_icmp .lt 10, 3) := by decide +kernel
theorem dX11_taxOn_75 : decode cX11_taxOn 75 = .ok (.iload 4, 2) := by decide +kernel
theorem dX11_taxOn_77 : decode cX11_taxOn 77 = .ok (.iconst 2, 1) := by decide +kernel
theorem dX11_taxOn_78 : decode cX11_taxOn 78 = .ok (.iadd, 1) := by decide +kernel
theorem dX11_taxOn_79 : decode cX11_taxOn 79 = .ok (.goto 5, 3) := by decide +kernel
theorem dX11_taxOn_82 : decode cX11_taxOn 82 = .ok (.iload 4, 2) := by decide +kernel
theorem dX11_taxOn_84 : decode cX11_taxOn 84 = .ok (.ireturn, 1) := by decide +kernel
theorem dX11_taxes_0 : decode cX11_taxes 0 = .ok (.iconst 0, 1) := by decide +kernel
theorem dX11_taxes_1 : decode cX11_taxes 1 = .ok (.istore_n 2, 1) := by decide +kernel
theorem dX11_taxes_2 : decode cX11_taxes 2 = .ok (.iconst 0, 1) := by decide +kernel
theorem dX11_taxes_3 : decode cX11_taxes 3 = .ok (.istore_n 3, 1) := by decide +kernel
theorem dX11_taxes_4 : decode cX11_taxes 4 = .ok (.iload_n 3, 1) := by decide +kernel
theorem dX11_taxes_5 : decode cX11_taxes 5 = .ok (.aload_n 0, 1) := by decide +kernel
theorem dX11_taxes_6 : decode cX11_taxes 6 = .ok (.getfield 56, 3) := by decide +kernel
theorem dX11_taxes_9 : decode cX11_taxes 9 = .ok (.if_icmp .ge 18, 3) := by decide +kernel
theorem dX11_taxes_12 : decode cX11_taxes 12 = .ok (.iload_n 2, 1) := by decide +kernel
theorem dX11_taxes_13 : decode cX11_taxes 13 = .ok (.aload_n 0, 1) := by decide +kernel
theorem dX11_taxes_14 : decode cX11_taxes 14 = .ok (.iload_n 1, 1) := by decide +kernel
theorem dX11_taxes_15 : decode cX11_taxes 15 = .ok (.iload_n 3, 1) := by decide +kernel
theorem dX11_taxes_16 : decode cX11_taxes 16 = .ok (.invokevirtual 122, 3) := by decide +kernel
theorem dX11_taxes_19 : decode cX11_taxes 19 = .ok (.iadd, 1) := by decide +kernel
theorem dX11_taxes_20 : decode cX11_taxes 20 = .ok (.istore_n 2, 1) := by decide +kernel
theorem dX11_taxes_21 : decode cX11_taxes 21 = .ok (.iinc 3 1, 3) := by decide +kernel
theorem dX11_taxes_24 : decode cX11_taxes 24 = .ok (.goto (-20), 3) := by decide +kernel
theorem dX11_taxes_27 : decode cX11_taxes 27 = .ok (.iload_n 2, 1) := by decide +kernel
theorem dX11_taxes_28 : decode cX11_taxes 28 = .ok (.ireturn, 1) := by decide +kernel
theorem dX11_thirst_0 : decode cX11_thirst 0 = .ok (.iconst 0, 1) := by decide +kernel
theorem dX11_thirst_1 : decode cX11_thirst 1 = .ok (.istore_n 3, 1) := by decide +kernel
theorem dX11_thirst_2 : decode cX11_thirst 2 = .ok (.iconst 0, 1) := by decide +kernel
theorem dX11_thirst_3 : decode cX11_thirst 3 = .ok (.istore 4, 2) := by decide +kernel
theorem dX11_thirst_5 : decode cX11_thirst 5 = .ok (.iload 4, 2) := by decide +kernel
theorem dX11_thirst_7 : decode cX11_thirst 7 = .ok (.aload_n 0, 1) := by decide +kernel
theorem dX11_thirst_8 : decode cX11_thirst 8 = .ok (.getfield 105, 3) := by decide +kernel
theorem dX11_thirst_11 : decode cX11_thirst 11 = .ok (.if_icmp .ge 46, 3) := by decide +kernel
theorem dX11_thirst_14 : decode cX11_thirst 14 = .ok (.iload_n 3, 1) := by decide +kernel
theorem dX11_thirst_15 : decode cX11_thirst 15 = .ok (.iload_n 2, 1) := by decide +kernel
theorem dX11_thirst_16 : decode cX11_thirst 16 = .ok (.ifCond .ne 14, 3) := by decide +kernel
theorem dX11_thirst_19 : decode cX11_thirst 19 = .ok (.aload_n 0, 1) := by decide +kernel
theorem dX11_thirst_20 : decode cX11_thirst 20 = .ok (.getfield 16, 3) := by decide +kernel
theorem dX11_thirst_23 : decode cX11_thirst 23 = .ok (.iload 4, 2) := by decide +kernel
theorem dX11_thirst_25 : decode cX11_thirst 25 = .ok (.iaload, 1) := by decide +kernel
theorem dX11_thirst_26 : decode cX11_thirst 26 = .ok (.iconst 3, 1) := by decide +kernel
theorem dX11_thirst_27 : decode cX11_thirst 27 = .ok (.if_icmp .eq 21, 3) := by decide +kernel
theorem dX11_thirst_30 : decode cX11_thirst 30 = .ok (.aload_n 0, 1) := by decide +kernel
theorem dX11_thirst_31 : decode cX11_thirst 31 = .ok (.getfield 22, 3) := by decide +kernel
theorem dX11_thirst_34 : decode cX11_thirst 34 = .ok (.bipush 15, 2) := by decide +kernel
theorem dX11_thirst_36 : decode cX11_thirst 36 = .ok (.iload_n 1, 1) := by decide +kernel
theorem dX11_thirst_37 : decode cX11_thirst 37 = .ok (.imul, 1) := by decide +kernel
theorem dX11_thirst_38 : decode cX11_thirst 38 = .ok (.bipush 10, 2) := by decide +kernel
theorem dX11_thirst_40 : decode cX11_thirst 40 = .ok (.iadd, 1) := by decide +kernel
theorem dX11_thirst_41 : decode cX11_thirst 41 = .ok (.iload 4, 2) := by decide +kernel
theorem dX11_thirst_43 : decode cX11_thirst 43 = .ok (.iadd, 1) := by decide +kernel
theorem dX11_thirst_44 : decode cX11_thirst 44 = .ok (.iaload, 1) := by decide +kernel
theorem dX11_thirst_45 : decode cX11_thirst 45 = .ok (.goto 4, 3) := by decide +kernel
theorem dX11_thirst_48 : decode cX11_thirst 48 = .ok (.iconst 0, 1) := by decide +kernel
theorem dX11_thirst_49 : decode cX11_thirst 49 = .ok (.iadd, 1) := by decide +kernel
theorem dX11_thirst_50 : decode cX11_thirst 50 = .ok (.istore_n 3, 1) := by decide +kernel
theorem dX11_thirst_51 : decode cX11_thirst 51 = .ok (.iinc 4 1, 3) := by decide +kernel
theorem dX11_thirst_54 : decode cX11_thirst 54 = .ok (.goto (-49), 3) := by decide +kernel
theorem dX11_thirst_57 : decode cX11_thirst 57 = .ok (.iload_n 3, 1) := by decide +kernel
theorem dX11_thirst_58 : decode cX11_thirst 58 = .ok (.ireturn, 1) := by decide +kernel
theorem dX11_passOn_0 : decode cX11_passOn 0 = .ok (.bipush 15, 2) := by decide +kernel
theorem dX11_passOn_2 : decode cX11_passOn 2 = .ok (.iload_n 1, 1) := by decide +kernel
theorem dX11_passOn_3 : decode cX11_passOn 3 = .ok (.imul, 1) := by decide +kernel
theorem dX11_passOn_4 : decode cX11_passOn 4 = .ok (.istore_n 2, 1) := by decide +kernel
theorem dX11_passOn_5 : decode cX11_passOn 5 = .ok (.iconst 0, 1) := by decide +kernel
theorem dX11_passOn_6 : decode cX11_passOn 6 = .ok (.istore_n 3, 1) := by decide +kernel
theorem dX11_passOn_7 : decode cX11_passOn 7 = .ok (.iload_n 3, 1) := by decide +kernel
theorem dX11_passOn_8 : decode cX11_passOn 8 = .ok (.aload_n 0, 1) := by decide +kernel
theorem dX11_passOn_9 : decode cX11_passOn 9 = .ok (.getfield 56, 3) := by decide +kernel
theorem dX11_passOn_12 : decode cX11_passOn 12 = .ok (.if_icmp .ge 128, 3) := by decide +kernel
theorem dX11_passOn_15 : decode cX11_passOn 15 = .ok (.aload_n 0, 1) := by decide +kernel
theorem dX11_passOn_16 : decode cX11_passOn 16 = .ok (.getfield 22, 3) := by decide +kernel
theorem dX11_passOn_19 : decode cX11_passOn 19 = .ok (.iload_n 2, 1) := by decide +kernel
theorem dX11_passOn_20 : decode cX11_passOn 20 = .ok (.iload_n 3, 1) := by decide +kernel
theorem dX11_passOn_21 : decode cX11_passOn 21 = .ok (.iadd, 1) := by decide +kernel
theorem dX11_passOn_22 : decode cX11_passOn 22 = .ok (.iaload, 1) := by decide +kernel
theorem dX11_passOn_23 : decode cX11_passOn 23 = .ok (.ifCond .le 111, 3) := by decide +kernel
theorem dX11_passOn_26 : decode cX11_passOn 26 = .ok (.aload_n 0, 1) := by decide +kernel
theorem dX11_passOn_27 : decode cX11_passOn 27 = .ok (.getfield 22, 3) := by decide +kernel
theorem dX11_passOn_30 : decode cX11_passOn 30 = .ok (.iload_n 2, 1) := by decide +kernel
theorem dX11_passOn_31 : decode cX11_passOn 31 = .ok (.iconst 5, 1) := by decide +kernel
theorem dX11_passOn_32 : decode cX11_passOn 32 = .ok (.iadd, 1) := by decide +kernel
theorem dX11_passOn_33 : decode cX11_passOn 33 = .ok (.iload_n 3, 1) := by decide +kernel
theorem dX11_passOn_34 : decode cX11_passOn 34 = .ok (.iadd, 1) := by decide +kernel
theorem dX11_passOn_35 : decode cX11_passOn 35 = .ok (.dup2, 1) := by decide +kernel
theorem dX11_passOn_36 : decode cX11_passOn 36 = .ok (.iaload, 1) := by decide +kernel
theorem dX11_passOn_37 : decode cX11_passOn 37 = .ok (.aload_n 0, 1) := by decide +kernel
theorem dX11_passOn_38 : decode cX11_passOn 38 = .ok (.getfield 22, 3) := by decide +kernel
theorem dX11_passOn_41 : decode cX11_passOn 41 = .ok (.iload_n 2, 1) := by decide +kernel
theorem dX11_passOn_42 : decode cX11_passOn 42 = .ok (.iconst 5, 1) := by decide +kernel
theorem dX11_passOn_43 : decode cX11_passOn 43 = .ok (.iadd, 1) := by decide +kernel
theorem dX11_passOn_44 : decode cX11_passOn 44 = .ok (.iload_n 3, 1) := by decide +kernel
theorem dX11_passOn_45 : decode cX11_passOn 45 = .ok (.iadd, 1) := by decide +kernel
theorem dX11_passOn_46 : decode cX11_passOn 46 = .ok (.iaload, 1) := by decide +kernel
theorem dX11_passOn_47 : decode cX11_passOn 47 = .ok (.bipush 9, 2) := by decide +kernel
theorem dX11_passOn_49 : decode cX11_passOn 49 = .ok (.if_icmp .ge 7, 3) := by decide +kernel
theorem dX11_passOn_52 : decode cX11_passOn 52 = .ok (.iconst 1, 1) := by decide +kernel
theorem dX11_passOn_53 : decode cX11_passOn 53 = .ok (.goto 4, 3) := by decide +kernel
theorem dX11_passOn_56 : decode cX11_passOn 56 = .ok (.iconst 0, 1) := by decide +kernel
theorem dX11_passOn_57 : decode cX11_passOn 57 = .ok (.iadd, 1) := by decide +kernel
theorem dX11_passOn_58 : decode cX11_passOn 58 = .ok (.iastore, 1) := by decide +kernel
theorem dX11_passOn_59 : decode cX11_passOn 59 = .ok (.aload_n 0, 1) := by decide +kernel
theorem dX11_passOn_60 : decode cX11_passOn 60 = .ok (.getfield 22, 3) := by decide +kernel
theorem dX11_passOn_63 : decode cX11_passOn 63 = .ok (.iload_n 2, 1) := by decide +kernel
theorem dX11_passOn_64 : decode cX11_passOn 64 = .ok (.iload_n 3, 1) := by decide +kernel
theorem dX11_passOn_65 : decode cX11_passOn 65 = .ok (.iadd, 1) := by decide +kernel
theorem dX11_passOn_66 : decode cX11_passOn 66 = .ok (.dup2, 1) := by decide +kernel
theorem dX11_passOn_67 : decode cX11_passOn 67 = .ok (.iaload, 1) := by decide +kernel
theorem dX11_passOn_68 : decode cX11_passOn 68 = .ok (.aload_n 0, 1) := by decide +kernel
theorem dX11_passOn_69 : decode cX11_passOn 69 = .ok (.getfield 13, 3) := by decide +kernel
theorem dX11_passOn_72 : decode cX11_passOn 72 = .ok (.iload_n 3, 1) := by decide +kernel
theorem dX11_passOn_73 : decode cX11_passOn 73 = .ok (.iaload, 1) := by decide +kernel
theorem dX11_passOn_74 : decode cX11_passOn 74 = .ok (.iconst 1, 1) := by decide +kernel
theorem dX11_passOn_75 : decode cX11_passOn 75 = .ok (.if_icmp .ne 7, 3) := by decide +kernel
theorem dX11_passOn_78 : decode cX11_passOn 78 = .ok (.iconst 1, 1) := by decide +kernel
theorem dX11_passOn_79 : decode cX11_passOn 79 = .ok (.goto 4, 3) := by decide +kernel
theorem dX11_passOn_82 : decode cX11_passOn 82 = .ok (.iconst 0, 1) := by decide +kernel
theorem dX11_passOn_83 : decode cX11_passOn 83 = .ok (.isub, 1) := by decide +kernel
theorem dX11_passOn_84 : decode cX11_passOn 84 = .ok (.iastore, 1) := by decide +kernel
theorem dX11_passOn_85 : decode cX11_passOn 85 = .ok (.aload_n 0, 1) := by decide +kernel
theorem dX11_passOn_86 : decode cX11_passOn 86 = .ok (.getfield 22, 3) := by decide +kernel
theorem dX11_passOn_89 : decode cX11_passOn 89 = .ok (.iload_n 2, 1) := by decide +kernel
theorem dX11_passOn_90 : decode cX11_passOn 90 = .ok (.iload_n 3, 1) := by decide +kernel
theorem dX11_passOn_91 : decode cX11_passOn 91 = .ok (.iadd, 1) := by decide +kernel
theorem dX11_passOn_92 : decode cX11_passOn 92 = .ok (.dup2, 1) := by decide +kernel
theorem dX11_passOn_93 : decode cX11_passOn 93 = .ok (.iaload, 1) := by decide +kernel
theorem dX11_passOn_94 : decode cX11_passOn 94 = .ok (.aload_n 0, 1) := by decide +kernel
theorem dX11_passOn_95 : decode cX11_passOn 95 = .ok (.getfield 13, 3) := by decide +kernel
theorem dX11_passOn_98 : decode cX11_passOn 98 = .ok (.iload_n 3, 1) := by decide +kernel
theorem dX11_passOn_99 : decode cX11_passOn 99 = .ok (.iaload, 1) := by decide +kernel
theorem dX11_passOn_100 : decode cX11_passOn 100 = .ok (.iconst 2, 1) := by decide +kernel
theorem dX11_passOn_101 : decode cX11_passOn 101 = .ok (.if_icmp .ne 30, 3) := by decide +kernel
theorem dX11_passOn_104 : decode cX11_passOn 104 = .ok (.aload_n 0, 1) := by decide +kernel
theorem dX11_passOn_105 : decode cX11_passOn 105 = .ok (.getfield 22, 3) := by decide +kernel
theorem dX11_passOn_108 : decode cX11_passOn 108 = .ok (.iload_n 2, 1) := by decide +kernel
theorem dX11_passOn_109 : decode cX11_passOn 109 = .ok (.iconst 5, 1) := by decide +kernel
theorem dX11_passOn_110 : decode cX11_passOn 110 = .ok (.iadd, 1) := by decide +kernel
theorem dX11_passOn_111 : decode cX11_passOn 111 = .ok (.iload_n 3, 1) := by decide +kernel
theorem dX11_passOn_112 : decode cX11_passOn 112 = .ok (.iadd, 1) := by decide +kernel
theorem dX11_passOn_113 : decode cX11_passOn 113 = .ok (.iaload, 1) := by decide +kernel
theorem dX11_passOn_114 : decode cX11_passOn 114 = .ok (.iconst 1, 1) := by decide +kernel
theorem dX11_passOn_115 : decode cX11_passOn 115 = .ok (.if_icmp .ne 16, 3) := by decide +kernel
theorem dX11_passOn_118 : decode cX11_passOn 118 = .ok (.aload_n 0, 1) := by decide +kernel
theorem dX11_passOn_119 : decode cX11_passOn 119 = .ok (.getfield 22, 3) := by decide +kernel
theorem dX11_passOn_122 : decode cX11_passOn 122 = .ok (.iload_n 2, 1) := by decide +kernel
theorem dX11_passOn_123 : decode cX11_passOn 123 = .ok (.iload_n 3, 1) := by decide +kernel
theorem dX11_passOn_124 : decode cX11_passOn 124 = .ok (.iadd, 1) := by decide +kernel
theorem dX11_passOn_125 : decode cX11_passOn 125 = .ok (.iaload, 1) := by decide +kernel
theorem dX11_passOn_126 : decode cX11_passOn 126 = .ok (.iconst 4, 1) := by decide +kernel
theorem dX11_passOn_127 : decode cX11_passOn 127 = .ok (.idiv, 1) := by decide +kernel
theorem dX11_passOn_128 : decode cX11_passOn 128 = .ok (.goto 4, 3) := by decide +kernel
theorem dX11_passOn_131 : decode cX11_passOn 131 = .ok (.iconst 0, 1) := by decide +kernel
theorem dX11_passOn_132 : decode cX11_passOn 132 = .ok (.isub, 1) := by decide +kernel
theorem dX11_passOn_133 : decode cX11_passOn 133 = .ok (.iastore, 1) := by decide +kernel
theorem dX11_passOn_134 : decode cX11_passOn 134 = .ok (.iinc 3 1, 3) := by decide +kernel
theorem dX11_passOn_137 : decode cX11_passOn 137 = .ok (.goto (-130), 3) := by decide +kernel
theorem dX11_passOn_140 : decode cX11_passOn 140 = .ok (.aload_n 0, 1) := by decide +kernel
theorem dX11_passOn_141 : decode cX11_passOn 141 = .ok (.getfield 22, 3) := by decide +kernel
theorem dX11_passOn_144 : decode cX11_passOn 144 = .ok (.iload_n 2, 1) := by decide +kernel
theorem dX11_passOn_145 : decode cX11_passOn 145 = .ok (.bipush 14, 2) := by decide +kernel
theorem dX11_passOn_147 : decode cX11_passOn 147 = .ok (.iadd, 1) := by decide +kernel
theorem dX11_passOn_148 : decode cX11_passOn 148 = .ok (.dup2, 1) := by decide +kernel
theorem dX11_passOn_149 : decode cX11_passOn 149 = .ok (.iaload, 1) := by decide +kernel
theorem dX11_passOn_150 : decode cX11_passOn 150 = .ok (.iconst 1, 1) := by decide +kernel
theorem dX11_passOn_151 : decode cX11_passOn 151 = .ok (.iadd, 1) := by decide +kernel
theorem dX11_passOn_152 : decode cX11_passOn 152 = .ok (.iastore, 1) := by decide +kernel
theorem dX11_passOn_153 : decode cX11_passOn 153 = .ok (.return_, 1) := by decide +kernel
theorem dX11_sittersAt_0 : decode cX11_sittersAt 0 = .ok (.iconst 0, 1) := by decide +kernel
theorem dX11_sittersAt_1 : decode cX11_sittersAt 1 = .ok (.istore_n 2, 1) := by decide +kernel
theorem dX11_sittersAt_2 : decode cX11_sittersAt 2 = .ok (.iconst 0, 1) := by decide +kernel
theorem dX11_sittersAt_3 : decode cX11_sittersAt 3 = .ok (.istore_n 3, 1) := by decide +kernel
theorem dX11_sittersAt_4 : decode cX11_sittersAt 4 = .ok (.iload_n 3, 1) := by decide +kernel
theorem dX11_sittersAt_5 : decode cX11_sittersAt 5 = .ok (.aload_n 0, 1) := by decide +kernel
theorem dX11_sittersAt_6 : decode cX11_sittersAt 6 = .ok (.getfield 105, 3) := by decide +kernel
theorem dX11_sittersAt_9 : decode cX11_sittersAt 9 = .ok (.if_icmp .ge 32, 3) := by decide +kernel
theorem dX11_sittersAt_12 : decode cX11_sittersAt 12 = .ok (.iload_n 2, 1) := by decide +kernel
theorem dX11_sittersAt_13 : decode cX11_sittersAt 13 = .ok (.aload_n 0, 1) := by decide +kernel
theorem dX11_sittersAt_14 : decode cX11_sittersAt 14 = .ok (.getfield 19, 3) := by decide +kernel
theorem dX11_sittersAt_17 : decode cX11_sittersAt 17 = .ok (.iload_n 3, 1) := by decide +kernel
theorem dX11_sittersAt_18 : decode cX11_sittersAt 18 = .ok (.iaload, 1) := by decide +kernel
theorem dX11_sittersAt_19 : decode cX11_sittersAt 19 = .ok (.iload_n 1, 1) := by decide +kernel
theorem dX11_sittersAt_20 : decode cX11_sittersAt 20 = .ok (.invokestatic 77, 3) := by decide +kernel
theorem dX11_sittersAt_23 : decode cX11_sittersAt 23 = .ok (.ifCond .eq 9, 3) := by decide +kernel
theorem dX11_sittersAt_26 : decode cX11_sittersAt 26 = .ok (.iconst 1, 1) := by decide +kernel
theorem dX11_sittersAt_27 : decode cX11_sittersAt 27 = .ok (.iload_n 3, 1) := by decide +kernel
theorem dX11_sittersAt_28 : decode cX11_sittersAt 28 = .ok (.ishl, 1) := by decide +kernel
theorem dX11_sittersAt_29 : decode cX11_sittersAt 29 = .ok (.goto 4, 3) := by decide +kernel
theorem dX11_sittersAt_32 : decode cX11_sittersAt 32 = .ok (.iconst 0, 1) := by decide +kernel
theorem dX11_sittersAt_33 : decode cX11_sittersAt 33 = .ok (.ior, 1) := by decide +kernel
theorem dX11_sittersAt_34 : decode cX11_sittersAt 34 = .ok (.istore_n 2, 1) := by decide +kernel
theorem dX11_sittersAt_35 : decode cX11_sittersAt 35 = .ok (.iinc 3 1, 3) := by decide +kernel
theorem dX11_sittersAt_38 : decode cX11_sittersAt 38 = .ok (.goto (-34), 3) := by decide +kernel
theorem dX11_sittersAt_41 : decode cX11_sittersAt 41 = .ok (.iload_n 2, 1) := by decide +kernel
theorem dX11_sittersAt_42 : decode cX11_sittersAt 42 = .ok (.ireturn, 1) := by decide +kernel
theorem dX11_glass_0 : decode cX11_glass 0 = .ok (.aload_n 0, 1) := by decide +kernel
theorem dX11_glass_1 : decode cX11_glass 1 = .ok (.iload_n 1, 1) := by decide +kernel
theorem dX11_glass_2 : decode cX11_glass 2 = .ok (.invokevirtual 126, 3) := by decide +kernel
theorem dX11_glass_5 : decode cX11_glass 5 = .ok (.ifCond .ne 5, 3) := by decide +kernel
theorem dX11_glass_8 : decode cX11_glass 8 = .ok (.iconst (-1), 1) := by decide +kernel
theorem dX11_glass_9 : decode cX11_glass 9 = .ok (.ireturn, 1) := by decide +kernel
theorem dX11_glass_10 : decode cX11_glass 10 = .ok (.iload_n 2, 1) := by decide +kernel
theorem dX11_glass_11 : decode cX11_glass 11 = .ok (.tableswitch 80 0 5 #[37, 44, 51, 58, 67, 74], 37) := by decide +kernel
theorem dX11_glass_48 : decode cX11_glass 48 = .ok (.aload_n 0, 1) := by decide +kernel
theorem dX11_glass_49 : decode cX11_glass 49 = .ok (.getfield 7, 3) := by decide +kernel
theorem dX11_glass_52 : decode cX11_glass 52 = .ok (.iload_n 1, 1) := by decide +kernel
theorem dX11_glass_53 : decode cX11_glass 53 = .ok (.iaload, 1) := by decide +kernel
theorem dX11_glass_54 : decode cX11_glass 54 = .ok (.ireturn, 1) := by decide +kernel
theorem dX11_glass_55 : decode cX11_glass 55 = .ok (.aload_n 0, 1) := by decide +kernel
theorem dX11_glass_56 : decode cX11_glass 56 = .ok (.getfield 22, 3) := by decide +kernel
theorem dX11_glass_59 : decode cX11_glass 59 = .ok (.iload_n 1, 1) := by decide +kernel
theorem dX11_glass_60 : decode cX11_glass 60 = .ok (.iaload, 1) := by decide +kernel
theorem dX11_glass_61 : decode cX11_glass 61 = .ok (.ireturn, 1) := by decide +kernel
theorem dX11_glass_62 : decode cX11_glass 62 = .ok (.aload_n 0, 1) := by decide +kernel
theorem dX11_glass_63 : decode cX11_glass 63 = .ok (.getfield 13, 3) := by decide +kernel
theorem dX11_glass_66 : decode cX11_glass 66 = .ok (.iload_n 1, 1) := by decide +kernel
theorem dX11_glass_67 : decode cX11_glass 67 = .ok (.iaload, 1) := by decide +kernel
theorem dX11_glass_68 : decode cX11_glass 68 = .ok (.ireturn, 1) := by decide +kernel
theorem dX11_glass_69 : decode cX11_glass 69 = .ok (.aload_n 0, 1) := by decide +kernel
theorem dX11_glass_70 : decode cX11_glass 70 = .ok (.getfield 22, 3) := by decide +kernel
theorem dX11_glass_73 : decode cX11_glass 73 = .ok (.iconst 5, 1) := by decide +kernel
theorem dX11_glass_74 : decode cX11_glass 74 = .ok (.iload_n 1, 1) := by decide +kernel
theorem dX11_glass_75 : decode cX11_glass 75 = .ok (.iadd, 1) := by decide +kernel
theorem dX11_glass_76 : decode cX11_glass 76 = .ok (.iaload, 1) := by decide +kernel
theorem dX11_glass_77 : decode cX11_glass 77 = .ok (.ireturn, 1) := by decide +kernel
theorem dX11_glass_78 : decode cX11_glass 78 = .ok (.aload_n 0, 1) := by decide +kernel
theorem dX11_glass_79 : decode cX11_glass 79 = .ok (.iconst 0, 1) := by decide +kernel
theorem dX11_glass_80 : decode cX11_glass 80 = .ok (.iload_n 1, 1) := by decide +kernel
theorem dX11_glass_81 : decode cX11_glass 81 = .ok (.invokevirtual 122, 3) := by decide +kernel
theorem dX11_glass_84 : decode cX11_glass 84 = .ok (.ireturn, 1) := by decide +kernel
theorem dX11_glass_85 : decode cX11_glass 85 = .ok (.aload_n 0, 1) := by decide +kernel
theorem dX11_glass_86 : decode cX11_glass 86 = .ok (.iload_n 1, 1) := by decide +kernel
theorem dX11_glass_87 : decode cX11_glass 87 = .ok (.invokevirtual 130, 3) := by decide +kernel
theorem dX11_glass_90 : decode cX11_glass 90 = .ok (.ireturn, 1) := by decide +kernel
theorem dX11_glass_91 : decode cX11_glass 91 = .ok (.bipush (-2), 2) := by decide +kernel
theorem dX11_glass_93 : decode cX11_glass 93 = .ok (.ireturn, 1) := by decide +kernel
theorem dX11_firstOf_0 : decode cX11_firstOf 0 = .ok (.iconst 0, 1) := by decide +kernel
theorem dX11_firstOf_1 : decode cX11_firstOf 1 = .ok (.istore_n 1, 1) := by decide +kernel
theorem dX11_firstOf_2 : decode cX11_firstOf 2 = .ok (.iload_n 1, 1) := by decide +kernel
theorem dX11_firstOf_3 : decode cX11_firstOf 3 = .ok (.iconst 5, 1) := by decide +kernel
theorem dX11_firstOf_4 : decode cX11_firstOf 4 = .ok (.if_icmp .ge 19, 3) := by decide +kernel
theorem dX11_firstOf_7 : decode cX11_firstOf 7 = .ok (.iload_n 0, 1) := by decide +kernel
theorem dX11_firstOf_8 : decode cX11_firstOf 8 = .ok (.iload_n 1, 1) := by decide +kernel
theorem dX11_firstOf_9 : decode cX11_firstOf 9 = .ok (.invokestatic 77, 3) := by decide +kernel
theorem dX11_firstOf_12 : decode cX11_firstOf 12 = .ok (.ifCond .eq 5, 3) := by decide +kernel
theorem dX11_firstOf_15 : decode cX11_firstOf 15 = .ok (.iload_n 1, 1) := by decide +kernel
theorem dX11_firstOf_16 : decode cX11_firstOf 16 = .ok (.ireturn, 1) := by decide +kernel
theorem dX11_firstOf_17 : decode cX11_firstOf 17 = .ok (.iinc 1 1, 3) := by decide +kernel
theorem dX11_firstOf_20 : decode cX11_firstOf 20 = .ok (.goto (-18), 3) := by decide +kernel
theorem dX11_firstOf_23 : decode cX11_firstOf 23 = .ok (.bipush (-9), 2) := by decide +kernel
theorem dX11_firstOf_25 : decode cX11_firstOf 25 = .ok (.ireturn, 1) := by decide +kernel
theorem dX11_drinker_0 : decode cX11_drinker 0 = .ok (.aload_n 0, 1) := by decide +kernel
theorem dX11_drinker_1 : decode cX11_drinker 1 = .ok (.iload_n 1, 1) := by decide +kernel
theorem dX11_drinker_2 : decode cX11_drinker 2 = .ok (.invokevirtual 133, 3) := by decide +kernel
theorem dX11_drinker_5 : decode cX11_drinker 5 = .ok (.ifCond .ne 5, 3) := by decide +kernel
theorem dX11_drinker_8 : decode cX11_drinker 8 = .ok (.iconst (-1), 1) := by decide +kernel
theorem dX11_drinker_9 : decode cX11_drinker 9 = .ok (.ireturn, 1) := by decide +kernel
theorem dX11_drinker_10 : decode cX11_drinker 10 = .ok (.iload_n 2, 1) := by decide +kernel
theorem dX11_drinker_11 : decode cX11_drinker 11 = .ok (.tableswitch 99 0 3 #[29, 39, 46, 53], 29) := by decide +kernel
theorem dX11_drinker_40 : decode cX11_drinker 40 = .ok (.aload_n 0, 1) := by decide +kernel
theorem dX11_drinker_41 : decode cX11_drinker 41 = .ok (.getfield 22, 3) := by decide +kernel
theorem dX11_drinker_44 : decode cX11_drinker 44 = .ok (.bipush 10, 2) := by decide +kernel
theorem dX11_drinker_46 : decode cX11_drinker 46 = .ok (.iload_n 1, 1) := by decide +kernel
theorem dX11_drinker_47 : decode cX11_drinker 47 = .ok (.iadd, 1) := by decide +kernel
theorem dX11_drinker_48 : decode cX11_drinker 48 = .ok (.iaload, 1) := by decide +kernel
theorem dX11_drinker_49 : decode cX11_drinker 49 = .ok (.ireturn, 1) := by decide +kernel
theorem dX11_drinker_50 : decode cX11_drinker 50 = .ok (.aload_n 0, 1) := by decide +kernel
theorem dX11_drinker_51 : decode cX11_drinker 51 = .ok (.getfield 16, 3) := by decide +kernel
theorem dX11_drinker_54 : decode cX11_drinker 54 = .ok (.iload_n 1, 1) := by decide +kernel
theorem dX11_drinker_55 : decode cX11_drinker 55 = .ok (.iaload, 1) := by decide +kernel
theorem dX11_drinker_56 : decode cX11_drinker 56 = .ok (.ireturn, 1) := by decide +kernel
theorem dX11_drinker_57 : decode cX11_drinker 57 = .ok (.aload_n 0, 1) := by decide +kernel
theorem dX11_drinker_58 : decode cX11_drinker 58 = .ok (.getfield 19, 3) := by decide +kernel
theorem dX11_drinker_61 : decode cX11_drinker 61 = .ok (.iload_n 1, 1) := by decide +kernel
theorem dX11_drinker_62 : decode cX11_drinker 62 = .ok (.iaload, 1) := by decide +kernel
theorem dX11_drinker_63 : decode cX11_drinker 63 = .ok (.ireturn, 1) := by decide +kernel
theorem dX11_drinker_64 : decode cX11_drinker 64 = .ok (.aload_n 0, 1) := by decide +kernel
theorem dX11_drinker_65 : decode cX11_drinker 65 = .ok (.getfield 19, 3) := by decide +kernel
theorem dX11_drinker_68 : decode cX11_drinker 68 = .ok (.iload_n 1, 1) := by decide +kernel
theorem dX11_drinker_69 : decode cX11_drinker 69 = .ok (.iaload, 1) := by decide +kernel
theorem dX11_drinker_70 : decode cX11_drinker 70 = .ok (.ifCond .ne 7, 3) := by decide +kernel
theorem dX11_drinker_73 : decode cX11_drinker 73 = .ok (.iconst 0, 1) := by decide +kernel
theorem dX11_drinker_74 : decode cX11_drinker 74 = .ok (.goto 35, 3) := by decide +kernel
theorem dX11_drinker_77 : decode cX11_drinker 77 = .ok (.aload_n 0, 1) := by decide +kernel
theorem dX11_drinker_78 : decode cX11_drinker 78 = .ok (.getfield 22, 3) := by decide +kernel
theorem dX11_drinker_81 : decode cX11_drinker 81 = .ok (.bipush 10, 2) := by decide +kernel
theorem dX11_drinker_83 : decode cX11_drinker 83 = .ok (.iload_n 1, 1) := by decide +kernel
theorem dX11_drinker_84 : decode cX11_drinker 84 = .ok (.iadd, 1) := by decide +kernel
theorem dX11_drinker_85 : decode cX11_drinker 85 = .ok (.iaload, 1) := by decide +kernel
theorem dX11_drinker_86 : decode cX11_drinker 86 = .ok (.aload_n 0, 1) := by decide +kernel
theorem dX11_drinker_87 : decode cX11_drinker 87 = .ok (.getfield 22, 3) := by decide +kernel
theorem dX11_drinker_90 : decode cX11_drinker 90 = .ok (.aload_n 0, 1) := by decide +kernel
theorem dX11_drinker_91 : decode cX11_drinker 91 = .ok (.getfield 19, 3) := by decide +kernel
theorem dX11_drinker_94 : decode cX11_drinker 94 = .ok (.iload_n 1, 1) := by decide +kernel
theorem dX11_drinker_95 : decode cX11_drinker 95 = .ok (.iaload, 1) := by decide +kernel
theorem dX11_drinker_96 : decode cX11_drinker 96 = .ok (.invokestatic 136, 3) := by decide +kernel
theorem dX11_drinker_99 : decode cX11_drinker 99 = .ok (.iaload, 1) := by decide +kernel
theorem dX11_drinker_100 : decode cX11_drinker 100 = .ok (.aload_n 0, 1) := by decide +kernel
theorem dX11_drinker_101 : decode cX11_drinker 101 = .ok (.getfield 16, 3) := by decide +kernel
theorem dX11_drinker_104 : decode cX11_drinker 104 = .ok (.iload_n 1, 1) := by decide +kernel
theorem dX11_drinker_105 : decode cX11_drinker 105 = .ok (.iaload, 1) := by decide +kernel
theorem dX11_drinker_106 : decode cX11_drinker 106 = .ok (.invokestatic 111, 3) := by decide +kernel
theorem dX11_drinker_109 : decode cX11_drinker 109 = .ok (.ireturn, 1) := by decide +kernel
theorem dX11_drinker_110 : decode cX11_drinker 110 = .ok (.bipush (-2), 2) := by decide +kernel
theorem dX11_drinker_112 : decode cX11_drinker 112 = .ok (.ireturn, 1) := by decide +kernel
theorem dX11_keepAct_0 : decode cX11_keepAct 0 = .ok (.iconst 0, 1) := by decide +kernel
theorem dX11_keepAct_1 : decode cX11_keepAct 1 = .ok (.istore_n 1, 1) := by decide +kernel
theorem dX11_keepAct_2 : decode cX11_keepAct 2 = .ok (.iload_n 1, 1) := by decide +kernel
theorem dX11_keepAct_3 : decode cX11_keepAct 3 = .ok (.bipush 15, 2) := by decide +kernel
theorem dX11_keepAct_5 : decode cX11_keepAct 5 = .ok (.if_icmp .ge 29, 3) := by decide +kernel
theorem dX11_keepAct_8 : decode cX11_keepAct 8 = .ok (.aload_n 0, 1) := by decide +kernel
theorem dX11_keepAct_9 : decode cX11_keepAct 9 = .ok (.getfield 37, 3) := by decide +kernel
theorem dX11_keepAct_12 : decode cX11_keepAct 12 = .ok (.bipush 15, 2) := by decide +kernel
theorem dX11_keepAct_14 : decode cX11_keepAct 14 = .ok (.aload_n 0, 1) := by decide +kernel
theorem dX11_keepAct_15 : decode cX11_keepAct 15 = .ok (.getfield 139, 3) := by decide +kernel
theorem dX11_keepAct_18 : decode cX11_keepAct 18 = .ok (.imul, 1) := by decide +kernel
theorem dX11_keepAct_19 : decode cX11_keepAct 19 = .ok (.iload_n 1, 1) := by decide +kernel
theorem dX11_keepAct_20 : decode cX11_keepAct 20 = .ok (.iadd, 1) := by decide +kernel
theorem dX11_keepAct_21 : decode cX11_keepAct 21 = .ok (.aload_n 0, 1) := by decide +kernel
theorem dX11_keepAct_22 : decode cX11_keepAct 22 = .ok (.getfield 22, 3) := by decide +kernel
theorem dX11_keepAct_25 : decode cX11_keepAct 25 = .ok (.iload_n 1, 1) := by decide +kernel
theorem dX11_keepAct_26 : decode cX11_keepAct 26 = .ok (.iaload, 1) := by decide +kernel
theorem dX11_keepAct_27 : decode cX11_keepAct 27 = .ok (.iastore, 1) := by decide +kernel
theorem dX11_keepAct_28 : decode cX11_keepAct 28 = .ok (.iinc 1 1, 3) := by decide +kernel
theorem dX11_keepAct_31 : decode cX11_keepAct 31 = .ok (.goto (-29), 3) := by decide +kernel
theorem dX11_keepAct_34 : decode cX11_keepAct 34 = .ok (.aload_n 0, 1) := by decide +kernel
theorem dX11_keepAct_35 : decode cX11_keepAct 35 = .ok (.aload_n 0, 1) := by decide +kernel
theorem dX11_keepAct_36 : decode cX11_keepAct 36 = .ok (.getfield 139, 3) := by decide +kernel
theorem dX11_keepAct_39 : decode cX11_keepAct 39 = .ok (.iconst 1, 1) := by decide +kernel
theorem dX11_keepAct_40 : decode cX11_keepAct 40 = .ok (.iadd, 1) := by decide +kernel
theorem dX11_keepAct_41 : decode cX11_keepAct 41 = .ok (.bipush 14, 2) := by decide +kernel
theorem dX11_keepAct_43 : decode cX11_keepAct 43 = .ok (.irem, 1) := by decide +kernel
theorem dX11_keepAct_44 : decode cX11_keepAct 44 = .ok (.putfield 139, 3) := by decide +kernel
theorem dX11_keepAct_47 : decode cX11_keepAct 47 = .ok (.aload_n 0, 1) := by decide +kernel
theorem dX11_keepAct_48 : decode cX11_keepAct 48 = .ok (.aload_n 0, 1) := by decide +kernel
theorem dX11_keepAct_49 : decode cX11_keepAct 49 = .ok (.getfield 108, 3) := by decide +kernel
theorem dX11_keepAct_52 : decode cX11_keepAct 52 = .ok (.bipush 14, 2) := by decide +kernel
theorem dX11_keepAct_54 : decode cX11_keepAct 54 = .ok (.if_icmp .ge 12, 3) := by decide +kernel
theorem dX11_keepAct_57 : decode cX11_keepAct 57 = .ok (.aload_n 0, 1) := by decide +kernel
theorem dX11_keepAct_58 : decode cX11_keepAct 58 = .ok (.getfield 108, 3) := by decide +kernel
theorem dX11_keepAct_61 : decode cX11_keepAct 61 = .ok (.iconst 1, 1) := by decide +kernel
theorem dX11_keepAct_62 : decode cX11_keepAct 62 = .ok (.iadd, 1) := by decide +kernel
theorem dX11_keepAct_63 : decode cX11_keepAct 63 = .ok (.goto 5, 3) := by decide +kernel
theorem dX11_keepAct_66 : decode cX11_keepAct 66 = .ok (.bipush 14, 2) := by decide +kernel
theorem dX11_keepAct_68 : decode cX11_keepAct 68 = .ok (.putfield 108, 3) := by decide +kernel
theorem dX11_keepAct_71 : decode cX11_keepAct 71 = .ok (.return_, 1) := by decide +kernel
theorem dX11_roomIn_0 : decode cX11_roomIn 0 = .ok (.aload_n 0, 1) := by decide +kernel
theorem dX11_roomIn_1 : decode cX11_roomIn 1 = .ok (.getfield 7, 3) := by decide +kernel
theorem dX11_roomIn_4 : decode cX11_roomIn 4 = .ok (.iload_n 2, 1) := by decide +kernel
theorem dX11_roomIn_5 : decode cX11_roomIn 5 = .ok (.iaload, 1) := by decide +kernel
theorem dX11_roomIn_6 : decode cX11_roomIn 6 = .ok (.aload_n 0, 1) := by decide +kernel
theorem dX11_roomIn_7 : decode cX11_roomIn 7 = .ok (.getfield 22, 3) := by decide +kernel
theorem dX11_roomIn_10 : decode cX11_roomIn 10 = .ok (.bipush 15, 2) := by decide +kernel
theorem dX11_roomIn_12 : decode cX11_roomIn 12 = .ok (.iload_n 1, 1) := by decide +kernel
theorem dX11_roomIn_13 : decode cX11_roomIn 13 = .ok (.imul, 1) := by decide +kernel
theorem dX11_roomIn_14 : decode cX11_roomIn 14 = .ok (.iload_n 2, 1) := by decide +kernel
theorem dX11_roomIn_15 : decode cX11_roomIn 15 = .ok (.iadd, 1) := by decide +kernel
theorem dX11_roomIn_16 : decode cX11_roomIn 16 = .ok (.iaload, 1) := by decide +kernel
theorem dX11_roomIn_17 : decode cX11_roomIn 17 = .ok (.isub, 1) := by decide +kernel
theorem dX11_roomIn_18 : decode cX11_roomIn 18 = .ok (.ireturn, 1) := by decide +kernel
theorem dX11_pourOn_0 : decode cX11_pourOn 0 = .ok (.iload_n 3, 1) := by decide +kernel
theorem dX11_pourOn_1 : decode cX11_pourOn 1 = .ok (.aload_n 0, 1) := by decide +kernel
theorem dX11_pourOn_2 : decode cX11_pourOn 2 = .ok (.iload_n 1, 1) := by decide +kernel
theorem dX11_pourOn_3 : decode cX11_pourOn 3 = .ok (.iload_n 2, 1) := by decide +kernel
theorem dX11_pourOn_4 : decode cX11_pourOn 4 = .ok (.invokevirtual 142, 3) := by decide +kernel
theorem dX11_pourOn_7 : decode cX11_pourOn 7 = .ok (.if_icmp .ge 7, 3) := by decide +kernel
theorem dX11_pourOn_10 : decode cX11_pourOn 10 = .ok (.iload_n 3, 1) := by decide +kernel
theorem dX11_pourOn_11 : decode cX11_pourOn 11 = .ok (.goto 9, 3) := by decide +kernel
theorem dX11_pourOn_14 : decode cX11_pourOn 14 = .ok (.aload_n 0, 1) := by decide +kernel
theorem dX11_pourOn_15 : decode cX11_pourOn 15 = .ok (.iload_n 1, 1) := by decide +kernel
theorem dX11_pourOn_16 : decode cX11_pourOn 16 = .ok (.iload_n 2, 1) := by decide +kernel
theorem dX11_pourOn_17 : decode cX11_pourOn 17 = .ok (.invokevirtual 142, 3) := by decide +kernel
theorem dX11_pourOn_20 : decode cX11_pourOn 20 = .ok (.istore 4, 2) := by decide +kernel
theorem dX11_pourOn_22 : decode cX11_pourOn 22 = .ok (.aload_n 0, 1) := by decide +kernel
theorem dX11_pourOn_23 : decode cX11_pourOn 23 = .ok (.getfield 22, 3) := by decide +kernel
theorem dX11_pourOn_26 : decode cX11_pourOn 26 = .ok (.bipush 15, 2) := by decide +kernel
theorem dX11_pourOn_28 : decode cX11_pourOn 28 = .ok (.iload_n 1, 1) := by decide +kernel
theorem dX11_pourOn_29 : decode cX11_pourOn 29 = .ok (.imul, 1) := by decide +kernel
theorem dX11_pourOn_30 : decode cX11_pourOn 30 = .ok (.iload_n 2, 1) := by decide +kernel
theorem dX11_pourOn_31 : decode cX11_pourOn 31 = .ok (.iadd, 1) := by decide +kernel
theorem dX11_pourOn_32 : decode cX11_pourOn 32 = .ok (.dup2, 1) := by decide +kernel
theorem dX11_pourOn_33 : decode cX11_pourOn 33 = .ok (.iaload, 1) := by decide +kernel
theorem dX11_pourOn_34 : decode cX11_pourOn 34 = .ok (.iload 4, 2) := by decide +kernel
theorem dX11_pourOn_36 : decode cX11_pourOn 36 = .ok (.iadd, 1) := by decide +kernel
theorem dX11_pourOn_37 : decode cX11_pourOn 37 = .ok (.iastore, 1) := by decide +kernel
theorem dX11_pourOn_38 : decode cX11_pourOn 38 = .ok (.aload_n 0, 1) := by decide +kernel
theorem dX11_pourOn_39 : decode cX11_pourOn 39 = .ok (.getfield 22, 3) := by decide +kernel
theorem dX11_pourOn_42 : decode cX11_pourOn 42 = .ok (.bipush 15, 2) := by decide +kernel
theorem dX11_pourOn_44 : decode cX11_pourOn 44 = .ok (.iload_n 1, 1) := by decide +kernel
theorem dX11_pourOn_45 : decode cX11_pourOn 45 = .ok (.imul, 1) := by decide +kernel
theorem dX11_pourOn_46 : decode cX11_pourOn 46 = .ok (.iconst 5, 1) := by decide +kernel
theorem dX11_pourOn_47 : decode cX11_pourOn 47 = .ok (.iadd, 1) := by decide +kernel
theorem dX11_pourOn_48 : decode cX11_pourOn 48 = .ok (.iload_n 2, 1) := by decide +kernel
theorem dX11_pourOn_49 : decode cX11_pourOn 49 = .ok (.iadd, 1) := by decide +kernel
theorem dX11_pourOn_50 : decode cX11_pourOn 50 = .ok (.iconst 0, 1) := by decide +kernel
theorem dX11_pourOn_51 : decode cX11_pourOn 51 = .ok (.iastore, 1) := by decide +kernel
theorem dX11_pourOn_52 : decode cX11_pourOn 52 = .ok (.iload 4, 2) := by decide +kernel
theorem dX11_pourOn_54 : decode cX11_pourOn 54 = .ok (.ireturn, 1) := by decide +kernel
theorem dX11_pour_0 : decode cX11_pour 0 = .ok (.aload_n 0, 1) := by decide +kernel
theorem dX11_pour_1 : decode cX11_pour 1 = .ok (.iload_n 1, 1) := by decide +kernel
theorem dX11_pour_2 : decode cX11_pour 2 = .ok (.invokevirtual 126, 3) := by decide +kernel
theorem dX11_pour_5 : decode cX11_pour 5 = .ok (.ifCond .ne 5, 3) := by decide +kernel
theorem dX11_pour_8 : decode cX11_pour 8 = .ok (.iconst (-1), 1) := by decide +kernel
theorem dX11_pour_9 : decode cX11_pour 9 = .ok (.ireturn, 1) := by decide +kernel
theorem dX11_pour_10 : decode cX11_pour 10 = .ok (.iload_n 2, 1) := by decide +kernel
theorem dX11_pour_11 : decode cX11_pour 11 = .ok (.i2l, 1) := by decide +kernel
theorem dX11_pour_12 : decode cX11_pour 12 = .ok (.lconst 1, 1) := by decide +kernel
theorem dX11_pour_13 : decode cX11_pour 13 = .ok (.ldc2_w 75, 3) := by decide +kernel
theorem dX11_pour_16 : decode cX11_pour 16 = .ok (.invokestatic 62, 3) := by decide +kernel
theorem dX11_pour_19 : decode cX11_pour 19 = .ok (.ifCond .ne 6, 3) := by decide +kernel
theorem dX11_pour_22 : decode cX11_pour 22 = .ok (.bipush (-2), 2) := by decide +kernel
theorem dX11_pour_24 : decode cX11_pour 24 = .ok (.ireturn, 1) := by decide +kernel
theorem dX11_pour_25 : decode cX11_pour 25 = .ok (.aload_n 0, 1) := by decide +kernel
theorem dX11_pour_26 : decode cX11_pour 26 = .ok (.iconst 0, 1) := by decide +kernel
theorem dX11_pour_27 : decode cX11_pour 27 = .ok (.iload_n 1, 1) := by decide +kernel
theorem dX11_pour_28 : decode cX11_pour 28 = .ok (.invokevirtual 142, 3) := by decide +kernel
theorem dX11_pour_31 : decode cX11_pour 31 = .ok (.ifCond .ne 6, 3) := by decide +kernel
theorem dX11_pour_34 : decode cX11_pour 34 = .ok (.bipush (-3), 2) := by decide +kernel
theorem dX11_pour_36 : decode cX11_pour 36 = .ok (.ireturn, 1) := by decide +kernel
theorem dX11_pour_37 : decode cX11_pour 37 = .ok (.aload_n 0, 1) := by decide +kernel
theorem dX11_pour_38 : decode cX11_pour 38 = .ok (.invokevirtual 145, 3) := by decide +kernel
theorem dX11_pour_41 : decode cX11_pour 41 = .ok (.aload_n 0, 1) := by decide +kernel
theorem dX11_pour_42 : decode cX11_pour 42 = .ok (.iconst 0, 1) := by decide +kernel
theorem dX11_pour_43 : decode cX11_pour 43 = .ok (.iload_n 1, 1) := by decide +kernel
theorem dX11_pour_44 : decode cX11_pour 44 = .ok (.iload_n 2, 1) := by decide +kernel
theorem dX11_pour_45 : decode cX11_pour 45 = .ok (.invokevirtual 148, 3) := by decide +kernel
theorem dX11_pour_48 : decode cX11_pour 48 = .ok (.ireturn, 1) := by decide +kernel
theorem dX11_drink_0 : decode cX11_drink 0 = .ok (.aload_n 0, 1) := by decide +kernel
theorem dX11_drink_1 : decode cX11_drink 1 = .ok (.iload_n 1, 1) := by decide +kernel
theorem dX11_drink_2 : decode cX11_drink 2 = .ok (.invokevirtual 133, 3) := by decide +kernel
theorem dX11_drink_5 : decode cX11_drink 5 = .ok (.ifCond .eq 11, 3) := by decide +kernel
theorem dX11_drink_8 : decode cX11_drink 8 = .ok (.aload_n 0, 1) := by decide +kernel
theorem dX11_drink_9 : decode cX11_drink 9 = .ok (.iload_n 2, 1) := by decide +kernel
theorem dX11_drink_10 : decode cX11_drink 10 = .ok (.invokevirtual 126, 3) := by decide +kernel
theorem dX11_drink_13 : decode cX11_drink 13 = .ok (.ifCond .ne 5, 3) := by decide +kernel
theorem dX11_drink_16 : decode cX11_drink 16 = .ok (.iconst (-1), 1) := by decide +kernel
theorem dX11_drink_17 : decode cX11_drink 17 = .ok (.ireturn, 1) := by decide +kernel
theorem dX11_drink_18 : decode cX11_drink 18 = .ok (.aload_n 0, 1) := by decide +kernel
theorem dX11_drink_19 : decode cX11_drink 19 = .ok (.getfield 19, 3) := by decide +kernel
theorem dX11_drink_22 : decode cX11_drink 22 = .ok (.iload_n 1, 1) := by decide +kernel
theorem dX11_drink_23 : decode cX11_drink 23 = .ok (.iaload, 1) := by decide +kernel
theorem dX11_drink_24 : decode cX11_drink 24 = .ok (.iload_n 2, 1) := by decide +kernel
theorem dX11_drink_25 : decode cX11_drink 25 = .ok (.invokestatic 77, 3) := by decide +kernel
theorem dX11_drink_28 : decode cX11_drink 28 = .ok (.ifCond .ne 6, 3) := by decide +kernel
theorem dX11_drink_31 : decode cX11_drink 31 = .ok (.bipush (-3), 2) := by decide +kernel
theorem dX11_drink_33 : decode cX11_drink 33 = .ok (.ireturn, 1) := by decide +kernel
theorem dX11_drink_34 : decode cX11_drink 34 = .ok (.aload_n 0, 1) := by decide +kernel
theorem dX11_drink_35 : decode cX11_drink 35 = .ok (.invokevirtual 145, 3) := by decide +kernel
theorem dX11_drink_38 : decode cX11_drink 38 = .ok (.aload_n 0, 1) := by decide +kernel
theorem dX11_drink_39 : decode cX11_drink 39 = .ok (.iconst 0, 1) := by decide +kernel
theorem dX11_drink_40 : decode cX11_drink 40 = .ok (.iload_n 1, 1) := by decide +kernel
theorem dX11_drink_41 : decode cX11_drink 41 = .ok (.iload_n 2, 1) := by decide +kernel
theorem dX11_drink_42 : decode cX11_drink 42 = .ok (.invokevirtual 115, 3) := by decide +kernel
theorem dX11_drink_45 : decode cX11_drink 45 = .ok (.ireturn, 1) := by decide +kernel
theorem dX11_canTip_0 : decode cX11_canTip 0 = .ok (.aload_n 0, 1) := by decide +kernel
theorem dX11_canTip_1 : decode cX11_canTip 1 = .ok (.iload_n 2, 1) := by decide +kernel
theorem dX11_canTip_2 : decode cX11_canTip 2 = .ok (.invokevirtual 126, 3) := by decide +kernel
theorem dX11_canTip_5 : decode cX11_canTip 5 = .ok (.ifCond .eq 43, 3) := by decide +kernel
theorem dX11_canTip_8 : decode cX11_canTip 8 = .ok (.aload_n 0, 1) := by decide +kernel
theorem dX11_canTip_9 : decode cX11_canTip 9 = .ok (.iload_n 3, 1) := by decide +kernel
theorem dX11_canTip_10 : decode cX11_canTip 10 = .ok (.invokevirtual 126, 3) := by decide +kernel
theorem dX11_canTip_13 : decode cX11_canTip 13 = .ok (.ifCond .eq 35, 3) := by decide +kernel
theorem dX11_canTip_16 : decode cX11_canTip 16 = .ok (.iload_n 2, 1) := by decide +kernel
theorem dX11_canTip_17 : decode cX11_canTip 17 = .ok (.iload_n 3, 1) := by decide +kernel
theorem dX11_canTip_18 : decode cX11_canTip 18 = .ok (.if_icmp .eq 30, 3) := by decide +kernel
theorem dX11_canTip_21 : decode cX11_canTip 21 = .ok (.aload_n 0, 1) := by decide +kernel
theorem dX11_canTip_22 : decode cX11_canTip 22 = .ok (.getfield 22, 3) := by decide +kernel
theorem dX11_canTip_25 : decode cX11_canTip 25 = .ok (.bipush 15, 2) := by decide +kernel
theorem dX11_canTip_27 : decode cX11_canTip 27 = .ok (.iload_n 1, 1) := by decide +kernel
theorem dX11_canTip_28 : decode cX11_canTip 28 = .ok (.imul, 1) := by decide +kernel
theorem dX11_canTip_29 : decode cX11_canTip 29 = .ok (.iload_n 2, 1) := by decide +kernel
theorem dX11_canTip_30 : decode cX11_canTip 30 = .ok (.iadd, 1) := by decide +kernel
theorem dX11_canTip_31 : decode cX11_canTip 31 = .ok (.iaload, 1) := by decide +kernel
theorem dX11_canTip_32 : decode cX11_canTip 32 = .ok (.ifCond .le 16, 3) := by decide +kernel
theorem dX11_canTip_35 : decode cX11_canTip 35 = .ok (.aload_n 0, 1) := by decide +kernel
theorem dX11_canTip_36 : decode cX11_canTip 36 = .ok (.iload_n 1, 1) := by decide +kernel
theorem dX11_canTip_37 : decode cX11_canTip 37 = .ok (.iload_n 3, 1) := by decide +kernel
theorem dX11_canTip_38 : decode cX11_canTip 38 = .ok (.invokevirtual 142, 3) := by decide +kernel
theorem dX11_canTip_41 : decode cX11_canTip 41 = .ok (.ifCond .le 7, 3) := by decide +kernel
theorem dX11_canTip_44 : decode cX11_canTip 44 = .ok (.iconst 1, 1) := by decide +kernel
theorem dX11_canTip_45 : decode cX11_canTip 45 = .ok (.goto 4, 3) := by decide +kernel
theorem dX11_canTip_48 : decode cX11_canTip 48 = .ok (.iconst 0, 1) := by decide +kernel
theorem dX11_canTip_49 : decode cX11_canTip 49 = .ok (.ireturn, 1) := by decide +kernel
theorem dX11_tipOn_0 : decode cX11_tipOn 0 = .ok (.bipush 15, 2) := by decide +kernel
theorem dX11_tipOn_2 : decode cX11_tipOn 2 = .ok (.iload_n 1, 1) := by decide +kernel
theorem dX11_tipOn_3 : decode cX11_tipOn 3 = .ok (.imul, 1) := by decide +kernel
theorem dX11_tipOn_4 : decode cX11_tipOn 4 = .ok (.istore 4, 2) := by decide +kernel
theorem dX11_tipOn_6 : decode cX11_tipOn 6 = .ok (.aload_n 0, 1) := by decide +kernel
theorem dX11_tipOn_7 : decode cX11_tipOn 7 = .ok (.getfield 22, 3) := by decide +kernel
theorem dX11_tipOn_10 : decode cX11_tipOn 10 = .ok (.iload 4, 2) := by decide +kernel
theorem dX11_tipOn_12 : decode cX11_tipOn 12 = .ok (.iload_n 2, 1) := by decide +kernel
theorem dX11_tipOn_13 : decode cX11_tipOn 13 = .ok (.iadd, 1) := by decide +kernel
theorem dX11_tipOn_14 : decode cX11_tipOn 14 = .ok (.iaload, 1) := by decide +kernel
theorem dX11_tipOn_15 : decode cX11_tipOn 15 = .ok (.aload_n 0, 1) := by decide +kernel
theorem dX11_tipOn_16 : decode cX11_tipOn 16 = .ok (.iload_n 1, 1) := by decide +kernel
theorem dX11_tipOn_17 : decode cX11_tipOn 17 = .ok (.iload_n 3, 1) := by decide +kernel
theorem dX11_tipOn_18 : decode cX11_tipOn 18 = .ok (.invokevirtual 142, 3) := by decide +kernel
theorem dX11_tipOn_21 : decode cX11_tipOn 21 = .ok (.if_icmp .ge 15, 3) := by decide +kernel
theorem dX11_tipOn_24 : decode cX11_tipOn 24 = .ok (.aload_n 0, 1) := by decide +kernel
theorem dX11_tipOn_25 : decode cX11_tipOn 25 = .ok (.getfield 22, 3) := by decide +kernel
theorem dX11_tipOn_28 : decode cX11_tipOn 28 = .ok (.iload 4, 2) := by decide +kernel
theorem dX11_tipOn_30 : decode cX11_tipOn 30 = .ok (.iload_n 2, 1) := by decide +kernel
theorem dX11_tipOn_31 : decode cX11_tipOn 31 = .ok (.iadd, 1) := by decide +kernel
theorem dX11_tipOn_32 : decode cX11_tipOn 32 = .ok (.iaload, 1) := by decide +kernel
theorem dX11_tipOn_33 : decode cX11_tipOn 33 = .ok (.goto 9, 3) := by decide +kernel
theorem dX11_tipOn_36 : decode cX11_tipOn 36 = .ok (.aload_n 0, 1) := by decide +kernel
theorem dX11_tipOn_37 : decode cX11_tipOn 37 = .ok (.iload_n 1, 1) := by decide +kernel
theorem dX11_tipOn_38 : decode cX11_tipOn 38 = .ok (.iload_n 3, 1) := by decide +kernel
theorem dX11_tipOn_39 : decode cX11_tipOn 39 = .ok (.invokevirtual 142, 3) := by decide +kernel
theorem dX11_tipOn_42 : decode cX11_tipOn 42 = .ok (.istore 5, 2) := by decide +kernel
theorem dX11_tipOn_44 : decode cX11_tipOn 44 = .ok (.aload_n 0, 1) := by decide +kernel
theorem dX11_tipOn_45 : decode cX11_tipOn 45 = .ok (.getfield 22, 3) := by decide +kernel
theorem dX11_tipOn_48 : decode cX11_tipOn 48 = .ok (.iload 4, 2) := by decide +kernel
theorem dX11_tipOn_50 : decode cX11_tipOn 50 = .ok (.iload_n 2, 1) := by decide +kernel
theorem dX11_tipOn_51 : decode cX11_tipOn 51 = .ok (.iadd, 1) := by decide +kernel
theorem dX11_tipOn_52 : decode cX11_tipOn 52 = .ok (.dup2, 1) := by decide +kernel
theorem dX11_tipOn_53 : decode cX11_tipOn 53 = .ok (.iaload, 1) := by decide +kernel
theorem dX11_tipOn_54 : decode cX11_tipOn 54 = .ok (.iload 5, 2) := by decide +kernel
theorem dX11_tipOn_56 : decode cX11_tipOn 56 = .ok (.isub, 1) := by decide +kernel
theorem dX11_tipOn_57 : decode cX11_tipOn 57 = .ok (.iastore, 1) := by decide +kernel
theorem dX11_tipOn_58 : decode cX11_tipOn 58 = .ok (.aload_n 0, 1) := by decide +kernel
theorem dX11_tipOn_59 : decode cX11_tipOn 59 = .ok (.getfield 22, 3) := by decide +kernel
theorem dX11_tipOn_62 : decode cX11_tipOn 62 = .ok (.iload 4, 2) := by decide +kernel
theorem dX11_tipOn_64 : decode cX11_tipOn 64 = .ok (.iload_n 3, 1) := by decide +kernel
theorem dX11_tipOn_65 : decode cX11_tipOn 65 = .ok (.iadd, 1) := by decide +kernel
theorem dX11_tipOn_66 : decode cX11_tipOn 66 = .ok (.dup2, 1) := by decide +kernel
theorem dX11_tipOn_67 : decode cX11_tipOn 67 = .ok (.iaload, 1) := by decide +kernel
theorem dX11_tipOn_68 : decode cX11_tipOn 68 = .ok (.iload 5, 2) := by decide +kernel
theorem dX11_tipOn_70 : decode cX11_tipOn 70 = .ok (.iadd, 1) := by decide +kernel
theorem dX11_tipOn_71 : decode cX11_tipOn 71 = .ok (.iastore, 1) := by decide +kernel
theorem dX11_tipOn_72 : decode cX11_tipOn 72 = .ok (.aload_n 0, 1) := by decide +kernel
theorem dX11_tipOn_73 : decode cX11_tipOn 73 = .ok (.getfield 22, 3) := by decide +kernel
theorem dX11_tipOn_76 : decode cX11_tipOn 76 = .ok (.iload 4, 2) := by decide +kernel
theorem dX11_tipOn_78 : decode cX11_tipOn 78 = .ok (.iconst 5, 1) := by decide +kernel
theorem dX11_tipOn_79 : decode cX11_tipOn 79 = .ok (.iadd, 1) := by decide +kernel
theorem dX11_tipOn_80 : decode cX11_tipOn 80 = .ok (.iload_n 2, 1) := by decide +kernel
theorem dX11_tipOn_81 : decode cX11_tipOn 81 = .ok (.iadd, 1) := by decide +kernel
theorem dX11_tipOn_82 : decode cX11_tipOn 82 = .ok (.iaload, 1) := by decide +kernel
theorem dX11_tipOn_83 : decode cX11_tipOn 83 = .ok (.istore 6, 2) := by decide +kernel
theorem dX11_tipOn_85 : decode cX11_tipOn 85 = .ok (.aload_n 0, 1) := by decide +kernel
theorem dX11_tipOn_86 : decode cX11_tipOn 86 = .ok (.getfield 22, 3) := by decide +kernel
theorem dX11_tipOn_89 : decode cX11_tipOn 89 = .ok (.iload 4, 2) := by decide +kernel
theorem dX11_tipOn_91 : decode cX11_tipOn 91 = .ok (.iconst 5, 1) := by decide +kernel
theorem dX11_tipOn_92 : decode cX11_tipOn 92 = .ok (.iadd, 1) := by decide +kernel
theorem dX11_tipOn_93 : decode cX11_tipOn 93 = .ok (.iload_n 3, 1) := by decide +kernel
theorem dX11_tipOn_94 : decode cX11_tipOn 94 = .ok (.iadd, 1) := by decide +kernel
theorem dX11_tipOn_95 : decode cX11_tipOn 95 = .ok (.iload 6, 2) := by decide +kernel
theorem dX11_tipOn_97 : decode cX11_tipOn 97 = .ok (.aload_n 0, 1) := by decide +kernel
theorem dX11_tipOn_98 : decode cX11_tipOn 98 = .ok (.getfield 22, 3) := by decide +kernel
theorem dX11_tipOn_101 : decode cX11_tipOn 101 = .ok (.iload 4, 2) := by decide +kernel
theorem dX11_tipOn_103 : decode cX11_tipOn 103 = .ok (.iconst 5, 1) := by decide +kernel
theorem dX11_tipOn_104 : decode cX11_tipOn 104 = .ok (.iadd, 1) := by decide +kernel
theorem dX11_tipOn_105 : decode cX11_tipOn 105 = .ok (.iload_n 3, 1) := by decide +kernel
theorem dX11_tipOn_106 : decode cX11_tipOn 106 = .ok (.iadd, 1) := by decide +kernel
theorem dX11_tipOn_107 : decode cX11_tipOn 107 = .ok (.iaload, 1) := by decide +kernel
theorem dX11_tipOn_108 : decode cX11_tipOn 108 = .ok (.if_icmp .le 8, 3) := by decide +kernel
theorem dX11_tipOn_111 : decode cX11_tipOn 111 = .ok (.iload 6, 2) := by decide +kernel
theorem dX11_tipOn_113 : decode cX11_tipOn 113 = .ok (.goto 14, 3) := by decide +kernel
theorem dX11_tipOn_116 : decode cX11_tipOn 116 = .ok (.aload_n 0, 1) := by decide +kernel
theorem dX11_tipOn_117 : decode cX11_tipOn 117 = .ok (.getfield 22, 3) := by decide +kernel
theorem dX11_tipOn_120 : decode cX11_tipOn 120 = .ok (.iload 4, 2) := by decide +kernel
theorem dX11_tipOn_122 : decode cX11_tipOn 122 = .ok (.iconst 5, 1) := by decide +kernel
theorem dX11_tipOn_123 : decode cX11_tipOn 123 = .ok (.iadd, 1) := by decide +kernel
theorem dX11_tipOn_124 : decode cX11_tipOn 124 = .ok (.iload_n 3, 1) := by decide +kernel
theorem dX11_tipOn_125 : decode cX11_tipOn 125 = .ok (.iadd, 1) := by decide +kernel
theorem dX11_tipOn_126 : decode cX11_tipOn 126 = .ok (.iaload, 1) := by decide +kernel
theorem dX11_tipOn_127 : decode cX11_tipOn 127 = .ok (.iastore, 1) := by decide +kernel
theorem dX11_tipOn_128 : decode cX11_tipOn 128 = .ok (.iload 5, 2) := by decide +kernel
theorem dX11_tipOn_130 : decode cX11_tipOn 130 = .ok (.ireturn, 1) := by decide +kernel
theorem dX11_tip_0 : decode cX11_tip 0 = .ok (.aload_n 0, 1) := by decide +kernel
theorem dX11_tip_1 : decode cX11_tip 1 = .ok (.iload_n 1, 1) := by decide +kernel
theorem dX11_tip_2 : decode cX11_tip 2 = .ok (.invokevirtual 126, 3) := by decide +kernel
theorem dX11_tip_5 : decode cX11_tip 5 = .ok (.ifCond .eq 11, 3) := by decide +kernel
theorem dX11_tip_8 : decode cX11_tip 8 = .ok (.aload_n 0, 1) := by decide +kernel
theorem dX11_tip_9 : decode cX11_tip 9 = .ok (.iload_n 2, 1) := by decide +kernel
theorem dX11_tip_10 : decode cX11_tip 10 = .ok (.invokevirtual 126, 3) := by decide +kernel
theorem dX11_tip_13 : decode cX11_tip 13 = .ok (.ifCond .ne 5, 3) := by decide +kernel
theorem dX11_tip_16 : decode cX11_tip 16 = .ok (.iconst (-1), 1) := by decide +kernel
theorem dX11_tip_17 : decode cX11_tip 17 = .ok (.ireturn, 1) := by decide +kernel
theorem dX11_tip_18 : decode cX11_tip 18 = .ok (.iload_n 1, 1) := by decide +kernel
theorem dX11_tip_19 : decode cX11_tip 19 = .ok (.iload_n 2, 1) := by decide +kernel
theorem dX11_tip_20 : decode cX11_tip 20 = .ok (.if_icmp .ne 6, 3) := by decide +kernel
theorem dX11_tip_23 : decode cX11_tip 23 = .ok (.bipush (-2), 2) := by decide +kernel
theorem dX11_tip_25 : decode cX11_tip 25 = .ok (.ireturn, 1) := by decide +kernel
theorem dX11_tip_26 : decode cX11_tip 26 = .ok (.aload_n 0, 1) := by decide +kernel
theorem dX11_tip_27 : decode cX11_tip 27 = .ok (.iconst 0, 1) := by decide +kernel
theorem dX11_tip_28 : decode cX11_tip 28 = .ok (.iload_n 1, 1) := by decide +kernel
theorem dX11_tip_29 : decode cX11_tip 29 = .ok (.iload_n 2, 1) := by decide +kernel
theorem dX11_tip_30 : decode cX11_tip 30 = .ok (.invokevirtual 151, 3) := by decide +kernel
theorem dX11_tip_33 : decode cX11_tip 33 = .ok (.ifCond .ne 6, 3) := by decide +kernel
theorem dX11_tip_36 : decode cX11_tip 36 = .ok (.bipush (-3), 2) := by decide +kernel
theorem dX11_tip_38 : decode cX11_tip 38 = .ok (.ireturn, 1) := by decide +kernel
theorem dX11_tip_39 : decode cX11_tip 39 = .ok (.aload_n 0, 1) := by decide +kernel
theorem dX11_tip_40 : decode cX11_tip 40 = .ok (.invokevirtual 145, 3) := by decide +kernel
theorem dX11_tip_43 : decode cX11_tip 43 = .ok (.aload_n 0, 1) := by decide +kernel
