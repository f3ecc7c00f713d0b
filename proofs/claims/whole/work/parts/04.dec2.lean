theorem dX9_init_0 : decode cX9_init 0 = .ok (.aload_n 0, 1) := by decide +kernel
theorem dX9_init_1 : decode cX9_init 1 = .ok (.invokespecial 3, 3) := by decide +kernel
theorem dX9_init_4 : decode cX9_init 4 = .ok (.aload_n 0, 1) := by decide +kernel
theorem dX9_init_5 : decode cX9_init 5 = .ok (.iconst 5, 1) := by decide +kernel
theorem dX9_init_6 : decode cX9_init 6 = .ok (.newarray .int, 2) := by decide +kernel
theorem dX9_init_8 : decode cX9_init 8 = .ok (.putfield 9, 3) := by decide +kernel
theorem dX9_init_11 : decode cX9_init 11 = .ok (.aload_n 0, 1) := by decide +kernel
theorem dX9_init_12 : decode cX9_init 12 = .ok (.iconst 5, 1) := by decide +kernel
theorem dX9_init_13 : decode cX9_init 13 = .ok (.newarray .int, 2) := by decide +kernel
theorem dX9_init_15 : decode cX9_init 15 = .ok (.putfield 15, 3) := by decide +kernel
theorem dX9_init_18 : decode cX9_init 18 = .ok (.aload_n 0, 1) := by decide +kernel
theorem dX9_init_19 : decode cX9_init 19 = .ok (.iconst 4, 1) := by decide +kernel
theorem dX9_init_20 : decode cX9_init 20 = .ok (.newarray .int, 2) := by decide +kernel
theorem dX9_init_22 : decode cX9_init 22 = .ok (.putfield 18, 3) := by decide +kernel
theorem dX9_init_25 : decode cX9_init 25 = .ok (.aload_n 0, 1) := by decide +kernel
theorem dX9_init_26 : decode cX9_init 26 = .ok (.aload_n 1, 1) := by decide +kernel
theorem dX9_init_27 : decode cX9_init 27 = .ok (.putfield 21, 3) := by decide +kernel
theorem dX9_init_30 : decode cX9_init 30 = .ok (.return_, 1) := by decide +kernel
theorem dX9_copyFrom_0 : decode cX9_copyFrom 0 = .ok (.aload_n 1, 1) := by decide +kernel
theorem dX9_copyFrom_1 : decode cX9_copyFrom 1 = .ok (.getfield 9, 3) := by decide +kernel
theorem dX9_copyFrom_4 : decode cX9_copyFrom 4 = .ok (.iconst 0, 1) := by decide +kernel
theorem dX9_copyFrom_5 : decode cX9_copyFrom 5 = .ok (.aload_n 0, 1) := by decide +kernel
theorem dX9_copyFrom_6 : decode cX9_copyFrom 6 = .ok (.getfield 9, 3) := by decide +kernel
theorem dX9_copyFrom_9 : decode cX9_copyFrom 9 = .ok (.iconst 0, 1) := by decide +kernel
theorem dX9_copyFrom_10 : decode cX9_copyFrom 10 = .ok (.iconst 5, 1) := by decide +kernel
theorem dX9_copyFrom_11 : decode cX9_copyFrom 11 = .ok (.invokestatic 25, 3) := by decide +kernel
theorem dX9_copyFrom_14 : decode cX9_copyFrom 14 = .ok (.aload_n 1, 1) := by decide +kernel
theorem dX9_copyFrom_15 : decode cX9_copyFrom 15 = .ok (.getfield 15, 3) := by decide +kernel
theorem dX9_copyFrom_18 : decode cX9_copyFrom 18 = .ok (.iconst 0, 1) := by decide +kernel
theorem dX9_copyFrom_19 : decode cX9_copyFrom 19 = .ok (.aload_n 0, 1) := by decide +kernel
theorem dX9_copyFrom_20 : decode cX9_copyFrom 20 = .ok (.getfield 15, 3) := by decide +kernel
theorem dX9_copyFrom_23 : decode cX9_copyFrom 23 = .ok (.iconst 0, 1) := by decide +kernel
theorem dX9_copyFrom_24 : decode cX9_copyFrom 24 = .ok (.iconst 5, 1) := by decide +kernel
theorem dX9_copyFrom_25 : decode cX9_copyFrom 25 = .ok (.invokestatic 25, 3) := by decide +kernel
theorem dX9_copyFrom_28 : decode cX9_copyFrom 28 = .ok (.aload_n 1, 1) := by decide +kernel
theorem dX9_copyFrom_29 : decode cX9_copyFrom 29 = .ok (.getfield 18, 3) := by decide +kernel
theorem dX9_copyFrom_32 : decode cX9_copyFrom 32 = .ok (.iconst 0, 1) := by decide +kernel
theorem dX9_copyFrom_33 : decode cX9_copyFrom 33 = .ok (.aload_n 0, 1) := by decide +kernel
theorem dX9_copyFrom_34 : decode cX9_copyFrom 34 = .ok (.getfield 18, 3) := by decide +kernel
theorem dX9_copyFrom_37 : decode cX9_copyFrom 37 = .ok (.iconst 0, 1) := by decide +kernel
theorem dX9_copyFrom_38 : decode cX9_copyFrom 38 = .ok (.iconst 4, 1) := by decide +kernel
theorem dX9_copyFrom_39 : decode cX9_copyFrom 39 = .ok (.invokestatic 25, 3) := by decide +kernel
theorem dX9_copyFrom_42 : decode cX9_copyFrom 42 = .ok (.aload_n 0, 1) := by decide +kernel
theorem dX9_copyFrom_43 : decode cX9_copyFrom 43 = .ok (.aload_n 1, 1) := by decide +kernel
theorem dX9_copyFrom_44 : decode cX9_copyFrom 44 = .ok (.getfield 31, 3) := by decide +kernel
theorem dX9_copyFrom_47 : decode cX9_copyFrom 47 = .ok (.putfield 31, 3) := by decide +kernel
theorem dX9_copyFrom_50 : decode cX9_copyFrom 50 = .ok (.return_, 1) := by decide +kernel
theorem dX9_openAnew_0 : decode cX9_openAnew 0 = .ok (.iconst 0, 1) := by decide +kernel
theorem dX9_openAnew_1 : decode cX9_openAnew 1 = .ok (.istore_n 1, 1) := by decide +kernel
theorem dX9_openAnew_2 : decode cX9_openAnew 2 = .ok (.iload_n 1, 1) := by decide +kernel
theorem dX9_openAnew_3 : decode cX9_openAnew 3 = .ok (.iconst 5, 1) := by decide +kernel
theorem dX9_openAnew_4 : decode cX9_openAnew 4 = .ok (.if_icmp .ge 31, 3) := by decide +kernel
theorem dX9_openAnew_7 : decode cX9_openAnew 7 = .ok (.aload_n 0, 1) := by decide +kernel
theorem dX9_openAnew_8 : decode cX9_openAnew 8 = .ok (.getfield 9, 3) := by decide +kernel
theorem dX9_openAnew_11 : decode cX9_openAnew 11 = .ok (.iload_n 1, 1) := by decide +kernel
theorem dX9_openAnew_12 : decode cX9_openAnew 12 = .ok (.aload_n 0, 1) := by decide +kernel
theorem dX9_openAnew_13 : decode cX9_openAnew 13 = .ok (.getfield 21, 3) := by decide +kernel
theorem dX9_openAnew_16 : decode cX9_openAnew 16 = .ok (.getfield 35, 3) := by decide +kernel
theorem dX9_openAnew_19 : decode cX9_openAnew 19 = .ok (.iload_n 1, 1) := by decide +kernel
theorem dX9_openAnew_20 : decode cX9_openAnew 20 = .ok (.iaload, 1) := by decide +kernel
theorem dX9_openAnew_21 : decode cX9_openAnew 21 = .ok (.iastore, 1) := by decide +kernel
theorem dX9_openAnew_22 : decode cX9_openAnew 22 = .ok (.aload_n 0, 1) := by decide +kernel
theorem dX9_openAnew_23 : decode cX9_openAnew 23 = .ok (.getfield 15, 3) := by decide +kernel
theorem dX9_openAnew_26 : decode cX9_openAnew 26 = .ok (.iload_n 1, 1) := by decide +kernel
theorem dX9_openAnew_27 : decode cX9_openAnew 27 = .ok (.iconst 0, 1) := by decide +kernel
theorem dX9_openAnew_28 : decode cX9_openAnew 28 = .ok (.iastore, 1) := by decide +kernel
theorem dX9_openAnew_29 : decode cX9_openAnew 29 = .ok (.iinc 1 1, 3) := by decide +kernel
theorem dX9_openAnew_32 : decode cX9_openAnew 32 = .ok (.goto (-30), 3) := by decide +kernel
theorem dX9_openAnew_35 : decode cX9_openAnew 35 = .ok (.iconst 0, 1) := by decide +kernel
theorem dX9_openAnew_36 : decode cX9_openAnew 36 = .ok (.istore_n 1, 1) := by decide +kernel
theorem dX9_openAnew_37 : decode cX9_openAnew 37 = .ok (.iload_n 1, 1) := by decide +kernel
theorem dX9_openAnew_38 : decode cX9_openAnew 38 = .ok (.iconst 4, 1) := by decide +kernel
theorem dX9_openAnew_39 : decode cX9_openAnew 39 = .ok (.if_icmp .ge 24, 3) := by decide +kernel
theorem dX9_openAnew_42 : decode cX9_openAnew 42 = .ok (.aload_n 0, 1) := by decide +kernel
theorem dX9_openAnew_43 : decode cX9_openAnew 43 = .ok (.getfield 18, 3) := by decide +kernel
theorem dX9_openAnew_46 : decode cX9_openAnew 46 = .ok (.iload_n 1, 1) := by decide +kernel
theorem dX9_openAnew_47 : decode cX9_openAnew 47 = .ok (.aload_n 0, 1) := by decide +kernel
theorem dX9_openAnew_48 : decode cX9_openAnew 48 = .ok (.getfield 21, 3) := by decide +kernel
theorem dX9_openAnew_51 : decode cX9_openAnew 51 = .ok (.getfield 40, 3) := by decide +kernel
theorem dX9_openAnew_54 : decode cX9_openAnew 54 = .ok (.iload_n 1, 1) := by decide +kernel
theorem dX9_openAnew_55 : decode cX9_openAnew 55 = .ok (.iaload, 1) := by decide +kernel
theorem dX9_openAnew_56 : decode cX9_openAnew 56 = .ok (.iastore, 1) := by decide +kernel
theorem dX9_openAnew_57 : decode cX9_openAnew 57 = .ok (.iinc 1 1, 3) := by decide +kernel
theorem dX9_openAnew_60 : decode cX9_openAnew 60 = .ok (.goto (-23), 3) := by decide +kernel
theorem dX9_openAnew_63 : decode cX9_openAnew 63 = .ok (.aload_n 0, 1) := by decide +kernel
theorem dX9_openAnew_64 : decode cX9_openAnew 64 = .ok (.iconst 0, 1) := by decide +kernel
theorem dX9_openAnew_65 : decode cX9_openAnew 65 = .ok (.putfield 31, 3) := by decide +kernel
theorem dX9_openAnew_68 : decode cX9_openAnew 68 = .ok (.return_, 1) := by decide +kernel
theorem dX9_taxOf_0 : decode cX9_taxOf 0 = .ok (.aload_n 0, 1) := by decide +kernel
theorem dX9_taxOf_1 : decode cX9_taxOf 1 = .ok (.getfield 9, 3) := by decide +kernel
theorem dX9_taxOf_4 : decode cX9_taxOf 4 = .ok (.iload_n 1, 1) := by decide +kernel
theorem dX9_taxOf_5 : decode cX9_taxOf 5 = .ok (.iaload, 1) := by decide +kernel
theorem dX9_taxOf_6 : decode cX9_taxOf 6 = .ok (.istore_n 2, 1) := by decide +kernel
theorem dX9_taxOf_7 : decode cX9_taxOf 7 = .ok (.aload_n 0, 1) := by decide +kernel
theorem dX9_taxOf_8 : decode cX9_taxOf 8 = .ok (.getfield 15, 3) := by decide +kernel
theorem dX9_taxOf_11 : decode cX9_taxOf 11 = .ok (.iload_n 1, 1) := by decide +kernel
theorem dX9_taxOf_12 : decode cX9_taxOf 12 = .ok (.iaload, 1) := by decide +kernel
theorem dX9_taxOf_13 : decode cX9_taxOf 13 = .ok (.iconst 3, 1) := by decide +kernel
theorem dX9_taxOf_14 : decode cX9_taxOf 14 = .ok (.if_icmp .lt 7, 3) := by decide +kernel
theorem dX9_taxOf_17 : decode cX9_taxOf 17 = .ok (.iconst 0, 1) := by decide +kernel
theorem dX9_taxOf_18 : decode cX9_taxOf 18 = .ok (.goto 4, 3) := by decide +kernel
theorem dX9_taxOf_21 : decode cX9_taxOf 21 = .ok (.iload_n 2, 1) := by decide +kernel
theorem dX9_taxOf_22 : decode cX9_taxOf 22 = .ok (.istore_n 3, 1) := by decide +kernel
theorem dX9_taxOf_23 : decode cX9_taxOf 23 = .ok (.aload_n 0, 1) := by decide +kernel
theorem dX9_taxOf_24 : decode cX9_taxOf 24 = .ok (.getfield 21, 3) := by decide +kernel
theorem dX9_taxOf_27 : decode cX9_taxOf 27 = .ok (.getfield 43, 3) := by decide +kernel
theorem dX9_taxOf_30 : decode cX9_taxOf 30 = .ok (.iload_n 1, 1) := by decide +kernel
theorem dX9_taxOf_31 : decode cX9_taxOf 31 = .ok (.iaload, 1) := by decide +kernel
theorem dX9_taxOf_32 : decode cX9_taxOf 32 = .ok (.iconst 3, 1) := by decide +kernel
theorem dX9_taxOf_33 : decode cX9_taxOf 33 = .ok (.if_icmp .ne 11, 3) := by decide +kernel
theorem dX9_taxOf_36 : decode cX9_taxOf 36 = .ok (.iconst 0, 1) := by decide +kernel
theorem dX9_taxOf_37 : decode cX9_taxOf 37 = .ok (.iload_n 3, 1) := by decide +kernel
theorem dX9_taxOf_38 : decode cX9_taxOf 38 = .ok (.iconst 2, 1) := by decide +kernel
theorem dX9_taxOf_39 : decode cX9_taxOf 39 = .ok (.isub, 1) := by decide +kernel
theorem dX9_taxOf_40 : decode cX9_taxOf 40 = .ok (.invokestatic 46, 3) := by decide +kernel
theorem dX9_taxOf_43 : decode cX9_taxOf 43 = .ok (.istore_n 3, 1) := by decide +kernel
theorem dX9_taxOf_44 : decode cX9_taxOf 44 = .ok (.iconst 2, 1) := by decide +kernel
theorem dX9_taxOf_45 : decode cX9_taxOf 45 = .ok (.iload_n 2, 1) := by decide +kernel
theorem dX9_taxOf_46 : decode cX9_taxOf 46 = .ok (.imul, 1) := by decide +kernel
theorem dX9_taxOf_47 : decode cX9_taxOf 47 = .ok (.aload_n 0, 1) := by decide +kernel
theorem dX9_taxOf_48 : decode cX9_taxOf 48 = .ok (.getfield 21, 3) := by decide +kernel
theorem dX9_taxOf_51 : decode cX9_taxOf 51 = .ok (.getfield 52, 3) := by decide +kernel
theorem dX9_taxOf_54 : decode cX9_taxOf 54 = .ok (.iload_n 1, 1) := by decide +kernel
theorem dX9_taxOf_55 : decode cX9_taxOf 55 = .ok (.iaload, 1) := by decide +kernel
theorem dX9_taxOf_56 : decode cX9_taxOf 56 = .ok (.if_icmp .lt 7, 3) := by decide +kernel
theorem dX9_taxOf_59 : decode cX9_taxOf 59 = .ok (.iconst 1, 1) := by decide +kernel
theorem dX9_taxOf_60 : decode cX9_taxOf 60 = .ok (.goto 4, 3) := by decide +kernel
theorem dX9_taxOf_63 : decode cX9_taxOf 63 = .ok (.iconst 0, 1) := by decide +kernel
theorem dX9_taxOf_64 : decode cX9_taxOf 64 = .ok (.istore 4, 2) := by decide +kernel
theorem dX9_taxOf_66 : decode cX9_taxOf 66 = .ok (.iload_n 3, 1) := by decide +kernel
theorem dX9_taxOf_67 : decode cX9_taxOf 67 = .ok (.ifCond .le 14, 3) := by decide +kernel
theorem dX9_taxOf_70 : decode cX9_taxOf 70 = .ok (.iload 4, 2) := by decide +kernel
theorem dX9_taxOf_72 : decode cX9_taxOf 72 = .ok (.ifCond .eq 9, 3) := by decide +kernel
theorem dX9_taxOf_75 : decode cX9_taxOf 75 = .ok (.iload_n 3, 1) := by decide +kernel
theorem dX9_taxOf_76 : decode cX9_taxOf 76 = .ok (.iconst 2, 1) := by decide +kernel
theorem dX9_taxOf_77 : decode cX9_taxOf 77 = .ok (.iadd, 1) := by decide +kernel
theorem dX9_taxOf_78 : decode cX9_taxOf 78 = .ok (.goto 4, 3) := by decide +kernel
theorem dX9_taxOf_81 : decode cX9_taxOf 81 = .ok (.iload_n 3, 1) := by decide +kernel
theorem dX9_taxOf_82 : decode cX9_taxOf 82 = .ok (.ireturn, 1) := by decide +kernel
theorem dX9_taxes_0 : decode cX9_taxes 0 = .ok (.iconst 0, 1) := by decide +kernel
theorem dX9_taxes_1 : decode cX9_taxes 1 = .ok (.istore_n 1, 1) := by decide +kernel
theorem dX9_taxes_2 : decode cX9_taxes 2 = .ok (.iconst 0, 1) := by decide +kernel
theorem dX9_taxes_3 : decode cX9_taxes 3 = .ok (.istore_n 2, 1) := by decide +kernel
theorem dX9_taxes_4 : decode cX9_taxes 4 = .ok (.iload_n 2, 1) := by decide +kernel
theorem dX9_taxes_5 : decode cX9_taxes 5 = .ok (.iconst 5, 1) := by decide +kernel
theorem dX9_taxes_6 : decode cX9_taxes 6 = .ok (.if_icmp .ge 17, 3) := by decide +kernel
theorem dX9_taxes_9 : decode cX9_taxes 9 = .ok (.iload_n 1, 1) := by decide +kernel
theorem dX9_taxes_10 : decode cX9_taxes 10 = .ok (.aload_n 0, 1) := by decide +kernel
theorem dX9_taxes_11 : decode cX9_taxes 11 = .ok (.iload_n 2, 1) := by decide +kernel
theorem dX9_taxes_12 : decode cX9_taxes 12 = .ok (.invokevirtual 55, 3) := by decide +kernel
theorem dX9_taxes_15 : decode cX9_taxes 15 = .ok (.iadd, 1) := by decide +kernel
theorem dX9_taxes_16 : decode cX9_taxes 16 = .ok (.istore_n 1, 1) := by decide +kernel
theorem dX9_taxes_17 : decode cX9_taxes 17 = .ok (.iinc 2 1, 3) := by decide +kernel
theorem dX9_taxes_20 : decode cX9_taxes 20 = .ok (.goto (-16), 3) := by decide +kernel
theorem dX9_taxes_23 : decode cX9_taxes 23 = .ok (.iload_n 1, 1) := by decide +kernel
theorem dX9_taxes_24 : decode cX9_taxes 24 = .ok (.ireturn, 1) := by decide +kernel
theorem dX9_thirstOfAll_0 : decode cX9_thirstOfAll 0 = .ok (.iconst 0, 1) := by decide +kernel
theorem dX9_thirstOfAll_1 : decode cX9_thirstOfAll 1 = .ok (.istore_n 1, 1) := by decide +kernel
theorem dX9_thirstOfAll_2 : decode cX9_thirstOfAll 2 = .ok (.iconst 0, 1) := by decide +kernel
theorem dX9_thirstOfAll_3 : decode cX9_thirstOfAll 3 = .ok (.istore_n 2, 1) := by decide +kernel
theorem dX9_thirstOfAll_4 : decode cX9_thirstOfAll 4 = .ok (.iload_n 2, 1) := by decide +kernel
theorem dX9_thirstOfAll_5 : decode cX9_thirstOfAll 5 = .ok (.iconst 4, 1) := by decide +kernel
theorem dX9_thirstOfAll_6 : decode cX9_thirstOfAll 6 = .ok (.if_icmp .ge 18, 3) := by decide +kernel
theorem dX9_thirstOfAll_9 : decode cX9_thirstOfAll 9 = .ok (.iload_n 1, 1) := by decide +kernel
theorem dX9_thirstOfAll_10 : decode cX9_thirstOfAll 10 = .ok (.aload_n 0, 1) := by decide +kernel
theorem dX9_thirstOfAll_11 : decode cX9_thirstOfAll 11 = .ok (.getfield 18, 3) := by decide +kernel
theorem dX9_thirstOfAll_14 : decode cX9_thirstOfAll 14 = .ok (.iload_n 2, 1) := by decide +kernel
theorem dX9_thirstOfAll_15 : decode cX9_thirstOfAll 15 = .ok (.iaload, 1) := by decide +kernel
theorem dX9_thirstOfAll_16 : decode cX9_thirstOfAll 16 = .ok (.iadd, 1) := by decide +kernel
theorem dX9_thirstOfAll_17 : decode cX9_thirstOfAll 17 = .ok (.istore_n 1, 1) := by decide +kernel
theorem dX9_thirstOfAll_18 : decode cX9_thirstOfAll 18 = .ok (.iinc 2 1, 3) := by decide +kernel
theorem dX9_thirstOfAll_21 : decode cX9_thirstOfAll 21 = .ok (.goto (-17), 3) := by decide +kernel
theorem dX9_thirstOfAll_24 : decode cX9_thirstOfAll 24 = .ok (.iload_n 1, 1) := by decide +kernel
theorem dX9_thirstOfAll_25 : decode cX9_thirstOfAll 25 = .ok (.ireturn, 1) := by decide +kernel
theorem dX9_roomIn_0 : decode cX9_roomIn 0 = .ok (.aload_n 0, 1) := by decide +kernel
theorem dX9_roomIn_1 : decode cX9_roomIn 1 = .ok (.getfield 21, 3) := by decide +kernel
theorem dX9_roomIn_4 : decode cX9_roomIn 4 = .ok (.getfield 52, 3) := by decide +kernel
theorem dX9_roomIn_7 : decode cX9_roomIn 7 = .ok (.iload_n 1, 1) := by decide +kernel
theorem dX9_roomIn_8 : decode cX9_roomIn 8 = .ok (.iaload, 1) := by decide +kernel
theorem dX9_roomIn_9 : decode cX9_roomIn 9 = .ok (.aload_n 0, 1) := by decide +kernel
theorem dX9_roomIn_10 : decode cX9_roomIn 10 = .ok (.getfield 9, 3) := by decide +kernel
theorem dX9_roomIn_13 : decode cX9_roomIn 13 = .ok (.iload_n 1, 1) := by decide +kernel
theorem dX9_roomIn_14 : decode cX9_roomIn 14 = .ok (.iaload, 1) := by decide +kernel
theorem dX9_roomIn_15 : decode cX9_roomIn 15 = .ok (.isub, 1) := by decide +kernel
theorem dX9_roomIn_16 : decode cX9_roomIn 16 = .ok (.ireturn, 1) := by decide +kernel
theorem dX9_firstGulp_0 : decode cX9_firstGulp 0 = .ok (.iconst 0, 1) := by decide +kernel
theorem dX9_firstGulp_1 : decode cX9_firstGulp 1 = .ok (.istore_n 2, 1) := by decide +kernel
theorem dX9_firstGulp_2 : decode cX9_firstGulp 2 = .ok (.iload_n 2, 1) := by decide +kernel
theorem dX9_firstGulp_3 : decode cX9_firstGulp 3 = .ok (.iconst 5, 1) := by decide +kernel
theorem dX9_firstGulp_4 : decode cX9_firstGulp 4 = .ok (.if_icmp .ge 46, 3) := by decide +kernel
theorem dX9_firstGulp_7 : decode cX9_firstGulp 7 = .ok (.aload_n 0, 1) := by decide +kernel
theorem dX9_firstGulp_8 : decode cX9_firstGulp 8 = .ok (.getfield 21, 3) := by decide +kernel
theorem dX9_firstGulp_11 : decode cX9_firstGulp 11 = .ok (.iload_n 1, 1) := by decide +kernel
theorem dX9_firstGulp_12 : decode cX9_firstGulp 12 = .ok (.iload_n 2, 1) := by decide +kernel
theorem dX9_firstGulp_13 : decode cX9_firstGulp 13 = .ok (.invokevirtual 59, 3) := by decide +kernel
theorem dX9_firstGulp_16 : decode cX9_firstGulp 16 = .ok (.ifCond .eq 28, 3) := by decide +kernel
theorem dX9_firstGulp_19 : decode cX9_firstGulp 19 = .ok (.aload_n 0, 1) := by decide +kernel
theorem dX9_firstGulp_20 : decode cX9_firstGulp 20 = .ok (.getfield 21, 3) := by decide +kernel
theorem dX9_firstGulp_23 : decode cX9_firstGulp 23 = .ok (.getfield 63, 3) := by decide +kernel
theorem dX9_firstGulp_26 : decode cX9_firstGulp 26 = .ok (.iload_n 1, 1) := by decide +kernel
theorem dX9_firstGulp_27 : decode cX9_firstGulp 27 = .ok (.iaload, 1) := by decide +kernel
theorem dX9_firstGulp_28 : decode cX9_firstGulp 28 = .ok (.aload_n 0, 1) := by decide +kernel
theorem dX9_firstGulp_29 : decode cX9_firstGulp 29 = .ok (.getfield 18, 3) := by decide +kernel
theorem dX9_firstGulp_32 : decode cX9_firstGulp 32 = .ok (.iload_n 1, 1) := by decide +kernel
theorem dX9_firstGulp_33 : decode cX9_firstGulp 33 = .ok (.iaload, 1) := by decide +kernel
theorem dX9_firstGulp_34 : decode cX9_firstGulp 34 = .ok (.aload_n 0, 1) := by decide +kernel
theorem dX9_firstGulp_35 : decode cX9_firstGulp 35 = .ok (.getfield 9, 3) := by decide +kernel
theorem dX9_firstGulp_38 : decode cX9_firstGulp 38 = .ok (.iload_n 2, 1) := by decide +kernel
theorem dX9_firstGulp_39 : decode cX9_firstGulp 39 = .ok (.iaload, 1) := by decide +kernel
theorem dX9_firstGulp_40 : decode cX9_firstGulp 40 = .ok (.invokestatic 66, 3) := by decide +kernel
theorem dX9_firstGulp_43 : decode cX9_firstGulp 43 = .ok (.ireturn, 1) := by decide +kernel
theorem dX9_firstGulp_44 : decode cX9_firstGulp 44 = .ok (.iinc 2 1, 3) := by decide +kernel
theorem dX9_firstGulp_47 : decode cX9_firstGulp 47 = .ok (.goto (-45), 3) := by decide +kernel
theorem dX9_firstGulp_50 : decode cX9_firstGulp 50 = .ok (.iconst 0, 1) := by decide +kernel
theorem dX9_firstGulp_51 : decode cX9_firstGulp 51 = .ok (.ireturn, 1) := by decide +kernel
theorem dX9_pourInto_0 : decode cX9_pourInto 0 = .ok (.aload_n 0, 1) := by decide +kernel
theorem dX9_pourInto_1 : decode cX9_pourInto 1 = .ok (.getfield 21, 3) := by decide +kernel
theorem dX9_pourInto_4 : decode cX9_pourInto 4 = .ok (.iload_n 1, 1) := by decide +kernel
theorem dX9_pourInto_5 : decode cX9_pourInto 5 = .ok (.invokevirtual 70, 3) := by decide +kernel
theorem dX9_pourInto_8 : decode cX9_pourInto 8 = .ok (.ifCond .ne 5, 3) := by decide +kernel
theorem dX9_pourInto_11 : decode cX9_pourInto 11 = .ok (.iconst (-1), 1) := by decide +kernel
theorem dX9_pourInto_12 : decode cX9_pourInto 12 = .ok (.ireturn, 1) := by decide +kernel
theorem dX9_pourInto_13 : decode cX9_pourInto 13 = .ok (.iload_n 2, 1) := by decide +kernel
theorem dX9_pourInto_14 : decode cX9_pourInto 14 = .ok (.iconst 1, 1) := by decide +kernel
theorem dX9_pourInto_15 : decode cX9_pourInto 15 = .ok (.if_icmp .lt 9, 3) := by decide +kernel
theorem dX9_pourInto_18 : decode cX9_pourInto 18 = .ok (.iload_n 2, 1) := by decide +kernel
theorem dX9_pourInto_19 : decode cX9_pourInto 19 = .ok (.bipush 9, 2) := by decide +kernel
theorem dX9_pourInto_21 : decode cX9_pourInto 21 = .ok (.if_icmp .le 6, 3) := by decide +kernel
theorem dX9_pourInto_24 : decode cX9_pourInto 24 = .ok (.bipush (-2), 2) := by decide +kernel
theorem dX9_pourInto_26 : decode cX9_pourInto 26 = .ok (.ireturn, 1) := by decide +kernel
theorem dX9_pourInto_27 : decode cX9_pourInto 27 = .ok (.iload_n 2, 1) := by decide +kernel
theorem dX9_pourInto_28 : decode cX9_pourInto 28 = .ok (.aload_n 0, 1) := by decide +kernel
theorem dX9_pourInto_29 : decode cX9_pourInto 29 = .ok (.iload_n 1, 1) := by decide +kernel
theorem dX9_pourInto_30 : decode cX9_pourInto 30 = .ok (.invokevirtual 74, 3) := by decide +kernel
theorem dX9_pourInto_33 : decode cX9_pourInto 33 = .ok (.invokestatic 77, 3) := by decide +kernel
theorem dX9_pourInto_36 : decode cX9_pourInto 36 = .ok (.istore_n 3, 1) := by decide +kernel
theorem dX9_pourInto_37 : decode cX9_pourInto 37 = .ok (.iload_n 3, 1) := by decide +kernel
theorem dX9_pourInto_38 : decode cX9_pourInto 38 = .ok (.ifCond .gt 6, 3) := by decide +kernel
theorem dX9_pourInto_41 : decode cX9_pourInto 41 = .ok (.bipush (-3), 2) := by decide +kernel
theorem dX9_pourInto_43 : decode cX9_pourInto 43 = .ok (.ireturn, 1) := by decide +kernel
theorem dX9_pourInto_44 : decode cX9_pourInto 44 = .ok (.aload_n 0, 1) := by decide +kernel
theorem dX9_pourInto_45 : decode cX9_pourInto 45 = .ok (.getfield 9, 3) := by decide +kernel
theorem dX9_pourInto_48 : decode cX9_pourInto 48 = .ok (.iload_n 1, 1) := by decide +kernel
theorem dX9_pourInto_49 : decode cX9_pourInto 49 = .ok (.dup2, 1) := by decide +kernel
theorem dX9_pourInto_50 : decode cX9_pourInto 50 = .ok (.iaload, 1) := by decide +kernel
theorem dX9_pourInto_51 : decode cX9_pourInto 51 = .ok (.iload_n 3, 1) := by decide +kernel
theorem dX9_pourInto_52 : decode cX9_pourInto 52 = .ok (.iadd, 1) := by decide +kernel
theorem dX9_pourInto_53 : decode cX9_pourInto 53 = .ok (.iastore, 1) := by decide +kernel
theorem dX9_pourInto_54 : decode cX9_pourInto 54 = .ok (.aload_n 0, 1) := by decide +kernel
theorem dX9_pourInto_55 : decode cX9_pourInto 55 = .ok (.getfield 15, 3) := by decide +kernel
theorem dX9_pourInto_58 : decode cX9_pourInto 58 = .ok (.iload_n 1, 1) := by decide +kernel
theorem dX9_pourInto_59 : decode cX9_pourInto 59 = .ok (.iconst 0, 1) := by decide +kernel
theorem dX9_pourInto_60 : decode cX9_pourInto 60 = .ok (.iastore, 1) := by decide +kernel
theorem dX9_pourInto_61 : decode cX9_pourInto 61 = .ok (.iload_n 3, 1) := by decide +kernel
theorem dX9_pourInto_62 : decode cX9_pourInto 62 = .ok (.ireturn, 1) := by decide +kernel
theorem dX9_drinkAt_0 : decode cX9_drinkAt 0 = .ok (.aload_n 0, 1) := by decide +kernel
theorem dX9_drinkAt_1 : decode cX9_drinkAt 1 = .ok (.getfield 21, 3) := by decide +kernel
theorem dX9_drinkAt_4 : decode cX9_drinkAt 4 = .ok (.iload_n 1, 1) := by decide +kernel
theorem dX9_drinkAt_5 : decode cX9_drinkAt 5 = .ok (.invokevirtual 80, 3) := by decide +kernel
theorem dX9_drinkAt_8 : decode cX9_drinkAt 8 = .ok (.ifCond .eq 14, 3) := by decide +kernel
theorem dX9_drinkAt_11 : decode cX9_drinkAt 11 = .ok (.aload_n 0, 1) := by decide +kernel
theorem dX9_drinkAt_12 : decode cX9_drinkAt 12 = .ok (.getfield 21, 3) := by decide +kernel
theorem dX9_drinkAt_15 : decode cX9_drinkAt 15 = .ok (.iload_n 2, 1) := by decide +kernel
theorem dX9_drinkAt_16 : decode cX9_drinkAt 16 = .ok (.invokevirtual 70, 3) := by decide +kernel
theorem dX9_drinkAt_19 : decode cX9_drinkAt 19 = .ok (.ifCond .ne 5, 3) := by decide +kernel
theorem dX9_drinkAt_22 : decode cX9_drinkAt 22 = .ok (.iconst (-1), 1) := by decide +kernel
theorem dX9_drinkAt_23 : decode cX9_drinkAt 23 = .ok (.ireturn, 1) := by decide +kernel
theorem dX9_drinkAt_24 : decode cX9_drinkAt 24 = .ok (.aload_n 0, 1) := by decide +kernel
theorem dX9_drinkAt_25 : decode cX9_drinkAt 25 = .ok (.getfield 21, 3) := by decide +kernel
theorem dX9_drinkAt_28 : decode cX9_drinkAt 28 = .ok (.iload_n 1, 1) := by decide +kernel
theorem dX9_drinkAt_29 : decode cX9_drinkAt 29 = .ok (.iload_n 2, 1) := by decide +kernel
theorem dX9_drinkAt_30 : decode cX9_drinkAt 30 = .ok (.invokevirtual 59, 3) := by decide +kernel
theorem dX9_drinkAt_33 : decode cX9_drinkAt 33 = .ok (.ifCond .eq 12, 3) := by decide +kernel
theorem dX9_drinkAt_36 : decode cX9_drinkAt 36 = .ok (.aload_n 0, 1) := by decide +kernel
theorem dX9_drinkAt_37 : decode cX9_drinkAt 37 = .ok (.iload_n 1, 1) := by decide +kernel
theorem dX9_drinkAt_38 : decode cX9_drinkAt 38 = .ok (.iload_n 2, 1) := by decide +kernel
theorem dX9_drinkAt_39 : decode cX9_drinkAt 39 = .ok (.invokevirtual 83, 3) := by decide +kernel
theorem dX9_drinkAt_42 : decode cX9_drinkAt 42 = .ok (.goto 5, 3) := by decide +kernel
theorem dX9_drinkAt_45 : decode cX9_drinkAt 45 = .ok (.bipush (-3), 2) := by decide +kernel
theorem dX9_drinkAt_47 : decode cX9_drinkAt 47 = .ok (.ireturn, 1) := by decide +kernel
theorem dX9_tipOver_0 : decode cX9_tipOver 0 = .ok (.aload_n 0, 1) := by decide +kernel
theorem dX9_tipOver_1 : decode cX9_tipOver 1 = .ok (.getfield 21, 3) := by decide +kernel
theorem dX9_tipOver_4 : decode cX9_tipOver 4 = .ok (.iload_n 1, 1) := by decide +kernel
theorem dX9_tipOver_5 : decode cX9_tipOver 5 = .ok (.invokevirtual 70, 3) := by decide +kernel
theorem dX9_tipOver_8 : decode cX9_tipOver 8 = .ok (.ifCond .eq 14, 3) := by decide +kernel
theorem dX9_tipOver_11 : decode cX9_tipOver 11 = .ok (.aload_n 0, 1) := by decide +kernel
theorem dX9_tipOver_12 : decode cX9_tipOver 12 = .ok (.getfield 21, 3) := by decide +kernel
theorem dX9_tipOver_15 : decode cX9_tipOver 15 = .ok (.iload_n 2, 1) := by decide +kernel
theorem dX9_tipOver_16 : decode cX9_tipOver 16 = .ok (.invokevirtual 70, 3) := by decide +kernel
theorem dX9_tipOver_19 : decode cX9_tipOver 19 = .ok (.ifCond .ne 5, 3) := by decide +kernel
theorem dX9_tipOver_22 : decode cX9_tipOver 22 = .ok (.iconst (-1), 1) := by decide +kernel
theorem dX9_tipOver_23 : decode cX9_tipOver 23 = .ok (.ireturn, 1) := by decide +kernel
theorem dX9_tipOver_24 : decode cX9_tipOver 24 = .ok (.iload_n 1, 1) := by decide +kernel
theorem dX9_tipOver_25 : decode cX9_tipOver 25 = .ok (.iload_n 2, 1) := by decide +kernel
theorem dX9_tipOver_26 : decode cX9_tipOver 26 = .ok (.if_icmp .ne 6, 3) := by decide +kernel
theorem dX9_tipOver_29 : decode cX9_tipOver 29 = .ok (.bipush (-2), 2) := by decide +kernel
theorem dX9_tipOver_31 : decode cX9_tipOver 31 = .ok (.ireturn, 1) := by decide +kernel
theorem dX9_tipOver_32 : decode cX9_tipOver 32 = .ok (.aload_n 0, 1) := by decide +kernel
theorem dX9_tipOver_33 : decode cX9_tipOver 33 = .ok (.getfield 9, 3) := by decide +kernel
theorem dX9_tipOver_36 : decode cX9_tipOver 36 = .ok (.iload_n 1, 1) := by decide +kernel
theorem dX9_tipOver_37 : decode cX9_tipOver 37 = .ok (.iaload, 1) := by decide +kernel
theorem dX9_tipOver_38 : decode cX9_tipOver 38 = .ok (.aload_n 0, 1) := by decide +kernel
theorem dX9_tipOver_39 : decode cX9_tipOver 39 = .ok (.iload_n 2, 1) := by decide +kernel
theorem dX9_tipOver_40 : decode cX9_tipOver 40 = .ok (.invokevirtual 74, 3) := by decide +kernel
theorem dX9_tipOver_43 : decode cX9_tipOver 43 = .ok (.invokestatic 77, 3) := by decide +kernel
theorem dX9_tipOver_46 : decode cX9_tipOver 46 = .ok (.istore_n 3, 1) := by decide +kernel
theorem dX9_tipOver_47 : decode cX9_tipOver 47 = .ok (.iload_n 3, 1) := by decide +kernel
theorem dX9_tipOver_48 : decode cX9_tipOver 48 = .ok (.ifCond .gt 6, 3) := by decide +kernel
theorem dX9_tipOver_51 : decode cX9_tipOver 51 = .ok (.bipush (-3), 2) := by decide +kernel
theorem dX9_tipOver_53 : decode cX9_tipOver 53 = .ok (.ireturn, 1) := by decide +kernel
theorem dX9_tipOver_54 : decode cX9_tipOver 54 = .ok (.aload_n 0, 1) := by decide +kernel
theorem dX9_tipOver_55 : decode cX9_tipOver 55 = .ok (.getfield 9, 3) := by decide +kernel
theorem dX9_tipOver_58 : decode cX9_tipOver 58 = .ok (.iload_n 1, 1) := by decide +kernel
theorem dX9_tipOver_59 : decode cX9_tipOver 59 = .ok (.dup2, 1) := by decide +kernel
theorem dX9_tipOver_60 : decode cX9_tipOver 60 = .ok (.iaload, 1) := by decide +kernel
theorem dX9_tipOver_61 : decode cX9_tipOver 61 = .ok (.iload_n 3, 1) := by decide +kernel
theorem dX9_tipOver_62 : decode cX9_tipOver 62 = .ok (.isub, 1) := by decide +kernel
theorem dX9_tipOver_63 : decode cX9_tipOver 63 = .ok (.iastore, 1) := by decide +kernel
theorem dX9_tipOver_64 : decode cX9_tipOver 64 = .ok (.aload_n 0, 1) := by decide +kernel
theorem dX9_tipOver_65 : decode cX9_tipOver 65 = .ok (.getfield 9, 3) := by decide +kernel
theorem dX9_tipOver_68 : decode cX9_tipOver 68 = .ok (.iload_n 2, 1) := by decide +kernel
theorem dX9_tipOver_69 : decode cX9_tipOver 69 = .ok (.dup2, 1) := by decide +kernel
theorem dX9_tipOver_70 : decode cX9_tipOver 70 = .ok (.iaload, 1) := by decide +kernel
theorem dX9_tipOver_71 : decode cX9_tipOver 71 = .ok (.iload_n 3, 1) := by decide +kernel
theorem dX9_tipOver_72 : decode cX9_tipOver 72 = .ok (.iadd, 1) := by decide +kernel
theorem dX9_tipOver_73 : decode cX9_tipOver 73 = .ok (.iastore, 1) := by decide +kernel
theorem dX9_tipOver_74 : decode cX9_tipOver 74 = .ok (.aload_n 0, 1) := by decide +kernel
theorem dX9_tipOver_75 : decode cX9_tipOver 75 = .ok (.getfield 15, 3) := by decide +kernel
theorem dX9_tipOver_78 : decode cX9_tipOver 78 = .ok (.iload_n 2, 1) := by decide +kernel
theorem dX9_tipOver_79 : decode cX9_tipOver 79 = .ok (.aload_n 0, 1) := by decide +kernel
theorem dX9_tipOver_80 : decode cX9_tipOver 80 = .ok (.getfield 15, 3) := by decide +kernel
theorem dX9_tipOver_83 : decode cX9_tipOver 83 = .ok (.iload_n 1, 1) := by decide +kernel
theorem dX9_tipOver_84 : decode cX9_tipOver 84 = .ok (.iaload, 1) := by decide +kernel
theorem dX9_tipOver_85 : decode cX9_tipOver 85 = .ok (.aload_n 0, 1) := by decide +kernel
theorem dX9_tipOver_86 : decode cX9_tipOver 86 = .ok (.getfield 15, 3) := by decide +kernel
theorem dX9_tipOver_89 : decode cX9_tipOver 89 = .ok (.iload_n 2, 1) := by decide +kernel
theorem dX9_tipOver_90 : decode cX9_tipOver 90 = .ok (.iaload, 1) := by decide +kernel
theorem dX9_tipOver_91 : decode cX9_tipOver 91 = .ok (.invokestatic 46, 3) := by decide +kernel
theorem dX9_tipOver_94 : decode cX9_tipOver 94 = .ok (.iastore, 1) := by decide +kernel
theorem dX9_tipOver_95 : decode cX9_tipOver 95 = .ok (.iload_n 3, 1) := by decide +kernel
theorem dX9_tipOver_96 : decode cX9_tipOver 96 = .ok (.ireturn, 1) := by decide +kernel
theorem dX9_passHour_0 : decode cX9_passHour 0 = .ok (.iconst 0, 1) := by decide +kernel
theorem dX9_passHour_1 : decode cX9_passHour 1 = .ok (.istore_n 1, 1) := by decide +kernel
theorem dX9_passHour_2 : decode cX9_passHour 2 = .ok (.iload_n 1, 1) := by decide +kernel
theorem dX9_passHour_3 : decode cX9_passHour 3 = .ok (.iconst 5, 1) := by decide +kernel
theorem dX9_passHour_4 : decode cX9_passHour 4 = .ok (.if_icmp .ge 23, 3) := by decide +kernel
theorem dX9_passHour_7 : decode cX9_passHour 7 = .ok (.aload_n 0, 1) := by decide +kernel
theorem dX9_passHour_8 : decode cX9_passHour 8 = .ok (.getfield 9, 3) := by decide +kernel
theorem dX9_passHour_11 : decode cX9_passHour 11 = .ok (.iload_n 1, 1) := by decide +kernel
theorem dX9_passHour_12 : decode cX9_passHour 12 = .ok (.iaload, 1) := by decide +kernel
theorem dX9_passHour_13 : decode cX9_passHour 13 = .ok (.ifCond .le 8, 3) := by decide +kernel
theorem dX9_passHour_16 : decode cX9_passHour 16 = .ok (.aload_n 0, 1) := by decide +kernel
theorem dX9_passHour_17 : decode cX9_passHour 17 = .ok (.iload_n 1, 1) := by decide +kernel
theorem dX9_passHour_18 : decode cX9_passHour 18 = .ok (.invokevirtual 86, 3) := by decide +kernel
theorem dX9_passHour_21 : decode cX9_passHour 21 = .ok (.iinc 1 1, 3) := by decide +kernel
theorem dX9_passHour_24 : decode cX9_passHour 24 = .ok (.goto (-22), 3) := by decide +kernel
theorem dX9_passHour_27 : decode cX9_passHour 27 = .ok (.aload_n 0, 1) := by decide +kernel
theorem dX9_passHour_28 : decode cX9_passHour 28 = .ok (.dup, 1) := by decide +kernel
theorem dX9_passHour_29 : decode cX9_passHour 29 = .ok (.getfield 31, 3) := by decide +kernel
theorem dX9_passHour_32 : decode cX9_passHour 32 = .ok (.iconst 1, 1) := by decide +kernel
theorem dX9_passHour_33 : decode cX9_passHour 33 = .ok (.iadd, 1) := by decide +kernel
theorem dX9_passHour_34 : decode cX9_passHour 34 = .ok (.putfield 31, 3) := by decide +kernel
theorem dX9_passHour_37 : decode cX9_passHour 37 = .ok (.aload_n 0, 1) := by decide +kernel
theorem dX9_passHour_38 : decode cX9_passHour 38 = .ok (.invokevirtual 90, 3) := by decide +kernel
theorem dX9_passHour_41 : decode cX9_passHour 41 = .ok (.ireturn, 1) := by decide +kernel
theorem dX9_ageByHour_0 : decode cX9_ageByHour 0 = .ok (.aload_n 0, 1) := by decide +kernel
theorem dX9_ageByHour_1 : decode cX9_ageByHour 1 = .ok (.getfield 15, 3) := by decide +kernel
theorem dX9_ageByHour_4 : decode cX9_ageByHour 4 = .ok (.iload_n 1, 1) := by decide +kernel
theorem dX9_ageByHour_5 : decode cX9_ageByHour 5 = .ok (.bipush 9, 2) := by decide +kernel
theorem dX9_ageByHour_7 : decode cX9_ageByHour 7 = .ok (.aload_n 0, 1) := by decide +kernel
theorem dX9_ageByHour_8 : decode cX9_ageByHour 8 = .ok (.getfield 15, 3) := by decide +kernel
theorem dX9_ageByHour_11 : decode cX9_ageByHour 11 = .ok (.iload_n 1, 1) := by decide +kernel
theorem dX9_ageByHour_12 : decode cX9_ageByHour 12 = .ok (.iaload, 1) := by decide +kernel
theorem dX9_ageByHour_13 : decode cX9_ageByHour 13 = .ok (.iconst 1, 1) := by decide +kernel
theorem dX9_ageByHour_14 : decode cX9_ageByHour 14 = .ok (.iadd, 1) := by decide +kernel
theorem dX9_ageByHour_15 : decode cX9_ageByHour 15 = .ok (.invokestatic 77, 3) := by decide +kernel
theorem dX9_ageByHour_18 : decode cX9_ageByHour 18 = .ok (.iastore, 1) := by decide +kernel
theorem dX9_ageByHour_19 : decode cX9_ageByHour 19 = .ok (.aload_n 0, 1) := by decide +kernel
theorem dX9_ageByHour_20 : decode cX9_ageByHour 20 = .ok (.getfield 21, 3) := by decide +kernel
theorem dX9_ageByHour_23 : decode cX9_ageByHour 23 = .ok (.getfield 43, 3) := by decide +kernel
theorem dX9_ageByHour_26 : decode cX9_ageByHour 26 = .ok (.iload_n 1, 1) := by decide +kernel
theorem dX9_ageByHour_27 : decode cX9_ageByHour 27 = .ok (.iaload, 1) := by decide +kernel
theorem dX9_ageByHour_28 : decode cX9_ageByHour 28 = .ok (.iconst 1, 1) := by decide +kernel
theorem dX9_ageByHour_29 : decode cX9_ageByHour 29 = .ok (.if_icmp .ne 16, 3) := by decide +kernel
theorem dX9_ageByHour_32 : decode cX9_ageByHour 32 = .ok (.aload_n 0, 1) := by decide +kernel
theorem dX9_ageByHour_33 : decode cX9_ageByHour 33 = .ok (.getfield 9, 3) := by decide +kernel
theorem dX9_ageByHour_36 : decode cX9_ageByHour 36 = .ok (.iload_n 1, 1) := by decide +kernel
theorem dX9_ageByHour_37 : decode cX9_ageByHour 37 = .ok (.dup2, 1) := by decide +kernel
theorem dX9_ageByHour_38 : decode cX9_ageByHour 38 = .ok (.iaload, 1) := by decide +kernel
theorem dX9_ageByHour_39 : decode cX9_ageByHour 39 = .ok (.iconst 1, 1) := by decide +kernel
theorem dX9_ageByHour_40 : decode cX9_ageByHour 40 = .ok (.isub, 1) := by decide +kernel
theorem dX9_ageByHour_41 : decode cX9_ageByHour 41 = .ok (.iastore, 1) := by decide +kernel
theorem dX9_ageByHour_42 : decode cX9_ageByHour 42 = .ok (.goto 43, 3) := by decide +kernel
theorem dX9_ageByHour_45 : decode cX9_ageByHour 45 = .ok (.aload_n 0, 1) := by decide +kernel
theorem dX9_ageByHour_46 : decode cX9_ageByHour 46 = .ok (.getfield 21, 3) := by decide +kernel
theorem dX9_ageByHour_49 : decode cX9_ageByHour 49 = .ok (.getfield 43, 3) := by decide +kernel
theorem dX9_ageByHour_52 : decode cX9_ageByHour 52 = .ok (.iload_n 1, 1) := by decide +kernel
theorem dX9_ageByHour_53 : decode cX9_ageByHour 53 = .ok (.iaload, 1) := by decide +kernel
theorem dX9_ageByHour_54 : decode cX9_ageByHour 54 = .ok (.iconst 2, 1) := by decide +kernel
theorem dX9_ageByHour_55 : decode cX9_ageByHour 55 = .ok (.if_icmp .ne 30, 3) := by decide +kernel
theorem dX9_ageByHour_58 : decode cX9_ageByHour 58 = .ok (.aload_n 0, 1) := by decide +kernel
theorem dX9_ageByHour_59 : decode cX9_ageByHour 59 = .ok (.getfield 15, 3) := by decide +kernel
theorem dX9_ageByHour_62 : decode cX9_ageByHour 62 = .ok (.iload_n 1, 1) := by decide +kernel
theorem dX9_ageByHour_63 : decode cX9_ageByHour 63 = .ok (.iaload, 1) := by decide +kernel
theorem dX9_ageByHour_64 : decode cX9_ageByHour 64 = .ok (.iconst 1, 1) := by decide +kernel
theorem dX9_ageByHour_65 : decode cX9_ageByHour 65 = .ok (.if_icmp .ne 20, 3) := by decide +kernel
theorem dX9_ageByHour_68 : decode cX9_ageByHour 68 = .ok (.aload_n 0, 1) := by decide +kernel
theorem dX9_ageByHour_69 : decode cX9_ageByHour 69 = .ok (.getfield 9, 3) := by decide +kernel
theorem dX9_ageByHour_72 : decode cX9_ageByHour 72 = .ok (.iload_n 1, 1) := by decide +kernel
theorem dX9_ageByHour_73 : decode cX9_ageByHour 73 = .ok (.dup2, 1) := by decide +kernel
theorem dX9_ageByHour_74 : decode cX9_ageByHour 74 = .ok (.iaload, 1) := by decide +kernel
theorem dX9_ageByHour_75 : decode cX9_ageByHour 75 = .ok (.aload_n 0, 1) := by decide +kernel
theorem dX9_ageByHour_76 : decode cX9_ageByHour 76 = .ok (.getfield 9, 3) := by decide +kernel
theorem dX9_ageByHour_79 : decode cX9_ageByHour 79 = .ok (.iload_n 1, 1) := by decide +kernel
theorem dX9_ageByHour_80 : decode cX9_ageByHour 80 = .ok (.iaload, 1) := by decide +kernel
theorem dX9_ageByHour_81 : decode cX9_ageByHour 81 = .ok (.iconst 4, 1) := by decide +kernel
theorem dX9_ageByHour_82 : decode cX9_ageByHour 82 = .ok (.idiv, 1) := by decide +kernel
theorem dX9_ageByHour_83 : decode cX9_ageByHour 83 = .ok (.isub, 1) := by decide +kernel
theorem dX9_ageByHour_84 : decode cX9_ageByHour 84 = .ok (.iastore, 1) := by decide +kernel
theorem dX9_ageByHour_85 : decode cX9_ageByHour 85 = .ok (.return_, 1) := by decide +kernel
theorem dX9_told_0 : decode cX9_told 0 = .ok (.iload_n 1, 1) := by decide +kernel
theorem dX9_told_1 : decode cX9_told 1 = .ok (.bipush 10, 2) := by decide +kernel
theorem dX9_told_3 : decode cX9_told 3 = .ok (.idiv, 1) := by decide +kernel
theorem dX9_told_4 : decode cX9_told 4 = .ok (.bipush 10, 2) := by decide +kernel
theorem dX9_told_6 : decode cX9_told 6 = .ok (.irem, 1) := by decide +kernel
theorem dX9_told_7 : decode cX9_told 7 = .ok (.istore_n 2, 1) := by decide +kernel
theorem dX9_told_8 : decode cX9_told 8 = .ok (.iload_n 1, 1) := by decide +kernel
theorem dX9_told_9 : decode cX9_told 9 = .ok (.bipush 10, 2) := by decide +kernel
theorem dX9_told_11 : decode cX9_told 11 = .ok (.irem, 1) := by decide +kernel
theorem dX9_told_12 : decode cX9_told 12 = .ok (.istore_n 3, 1) := by decide +kernel
theorem dX9_told_13 : decode cX9_told 13 = .ok (.iload_n 1, 1) := by decide +kernel
theorem dX9_told_14 : decode cX9_told 14 = .ok (.bipush 100, 2) := by decide +kernel
theorem dX9_told_16 : decode cX9_told 16 = .ok (.idiv, 1) := by decide +kernel
theorem dX9_told_17 : decode cX9_told 17 = .ok (.tableswitch 70 0 3 #[31, 38, 45, 52], 31) := by decide +kernel
theorem dX9_told_48 : decode cX9_told 48 = .ok (.aload_n 0, 1) := by decide +kernel
theorem dX9_told_49 : decode cX9_told 49 = .ok (.iload_n 2, 1) := by decide +kernel
theorem dX9_told_50 : decode cX9_told 50 = .ok (.iload_n 3, 1) := by decide +kernel
theorem dX9_told_51 : decode cX9_told 51 = .ok (.invokevirtual 94, 3) := by decide +kernel
theorem dX9_told_54 : decode cX9_told 54 = .ok (.ireturn, 1) := by decide +kernel
theorem dX9_told_55 : decode cX9_told 55 = .ok (.aload_n 0, 1) := by decide +kernel
theorem dX9_told_56 : decode cX9_told 56 = .ok (.iload_n 2, 1) := by decide +kernel
theorem dX9_told_57 : decode cX9_told 57 = .ok (.iload_n 3, 1) := by decide +kernel
theorem dX9_told_58 : decode cX9_told 58 = .ok (.invokevirtual 97, 3) := by decide +kernel
theorem dX9_told_61 : decode cX9_told 61 = .ok (.ireturn, 1) := by decide +kernel
theorem dX9_told_62 : decode cX9_told 62 = .ok (.aload_n 0, 1) := by decide +kernel
theorem dX9_told_63 : decode cX9_told 63 = .ok (.iload_n 2, 1) := by decide +kernel
theorem dX9_told_64 : decode cX9_told 64 = .ok (.iload_n 3, 1) := by decide +kernel
theorem dX9_told_65 : decode cX9_told 65 = .ok (.invokevirtual 100, 3) := by decide +kernel
theorem dX9_told_68 : decode cX9_told 68 = .ok (.ireturn, 1) := by decide +kernel
theorem dX9_told_69 : decode cX9_told 69 = .ok (.iload_n 2, 1) := by decide +kernel
theorem dX9_told_70 : decode cX9_told 70 = .ok (.ifCond .ne 14, 3) := by decide +kernel
theorem dX9_told_73 : decode cX9_told 73 = .ok (.iload_n 3, 1) := by decide +kernel
theorem dX9_told_74 : decode cX9_told 74 = .ok (.ifCond .ne 10, 3) := by decide +kernel
theorem dX9_told_77 : decode cX9_told 77 = .ok (.aload_n 0, 1) := by decide +kernel
theorem dX9_told_78 : decode cX9_told 78 = .ok (.invokevirtual 103, 3) := by decide +kernel
theorem dX9_told_81 : decode cX9_told 81 = .ok (.goto 5, 3) := by decide +kernel
theorem dX9_told_84 : decode cX9_told 84 = .ok (.bipush (-2), 2) := by decide +kernel
theorem dX9_told_86 : decode cX9_told 86 = .ok (.ireturn, 1) := by decide +kernel
theorem dX9_told_87 : decode cX9_told 87 = .ok (.bipush (-2), 2) := by decide +kernel
theorem dX9_told_89 : decode cX9_told 89 = .ok (.ireturn, 1) := by decide +kernel
theorem dX9_passChance_0 : decode cX9_passChance 0 = .ok (.iload_n 1, 1) := by decide +kernel
theorem dX9_passChance_1 : decode cX9_passChance 1 = .ok (.bipush 20, 2) := by decide +kernel
theorem dX9_passChance_3 : decode cX9_passChance 3 = .ok (.if_icmp .lt 11, 3) := by decide +kernel
theorem dX9_passChance_6 : decode cX9_passChance 6 = .ok (.aload_n 0, 1) := by decide +kernel
theorem dX9_passChance_7 : decode cX9_passChance 7 = .ok (.invokevirtual 103, 3) := by decide +kernel
theorem dX9_passChance_10 : decode cX9_passChance 10 = .ok (.pop, 1) := by decide +kernel
theorem dX9_passChance_11 : decode cX9_passChance 11 = .ok (.goto 14, 3) := by decide +kernel
theorem dX9_passChance_14 : decode cX9_passChance 14 = .ok (.aload_n 0, 1) := by decide +kernel
theorem dX9_passChance_15 : decode cX9_passChance 15 = .ok (.iload_n 1, 1) := by decide +kernel
theorem dX9_passChance_16 : decode cX9_passChance 16 = .ok (.iconst 5, 1) := by decide +kernel
theorem dX9_passChance_17 : decode cX9_passChance 17 = .ok (.idiv, 1) := by decide +kernel
theorem dX9_passChance_18 : decode cX9_passChance 18 = .ok (.iload_n 1, 1) := by decide +kernel
theorem dX9_passChance_19 : decode cX9_passChance 19 = .ok (.iconst 5, 1) := by decide +kernel
theorem dX9_passChance_20 : decode cX9_passChance 20 = .ok (.irem, 1) := by decide +kernel
theorem dX9_passChance_21 : decode cX9_passChance 21 = .ok (.invokevirtual 97, 3) := by decide +kernel
theorem dX9_passChance_24 : decode cX9_passChance 24 = .ok (.pop, 1) := by decide +kernel
theorem dX9_passChance_25 : decode cX9_passChance 25 = .ok (.return_, 1) := by decide +kernel
theorem dX9_passEvening_0 : decode cX9_passEvening 0 = .ok (.iconst 0, 1) := by decide +kernel
theorem dX9_passEvening_1 : decode cX9_passEvening 1 = .ok (.istore_n 2, 1) := by decide +kernel
theorem dX9_passEvening_2 : decode cX9_passEvening 2 = .ok (.iload_n 2, 1) := by decide +kernel
theorem dX9_passEvening_3 : decode cX9_passEvening 3 = .ok (.iconst 4, 1) := by decide +kernel
theorem dX9_passEvening_4 : decode cX9_passEvening 4 = .ok (.if_icmp .ge 22, 3) := by decide +kernel
theorem dX9_passEvening_7 : decode cX9_passEvening 7 = .ok (.iload_n 1, 1) := by decide +kernel
theorem dX9_passEvening_8 : decode cX9_passEvening 8 = .ok (.iload_n 2, 1) := by decide +kernel
theorem dX9_passEvening_9 : decode cX9_passEvening 9 = .ok (.invokestatic 106, 3) := by decide +kernel
theorem dX9_passEvening_12 : decode cX9_passEvening 12 = .ok (.ifCond .eq 8, 3) := by decide +kernel
theorem dX9_passEvening_15 : decode cX9_passEvening 15 = .ok (.aload_n 0, 1) := by decide +kernel
theorem dX9_passEvening_16 : decode cX9_passEvening 16 = .ok (.iload_n 2, 1) := by decide +kernel
theorem dX9_passEvening_17 : decode cX9_passEvening 17 = .ok (.invokevirtual 109, 3) := by decide +kernel
theorem dX9_passEvening_20 : decode cX9_passEvening 20 = .ok (.iinc 2 1, 3) := by decide +kernel
theorem dX9_passEvening_23 : decode cX9_passEvening 23 = .ok (.goto (-21), 3) := by decide +kernel
theorem dX9_passEvening_26 : decode cX9_passEvening 26 = .ok (.return_, 1) := by decide +kernel
theorem dX9_drinkAround_0 : decode cX9_drinkAround 0 = .ok (.aload_n 0, 1) := by decide +kernel
theorem dX9_drinkAround_1 : decode cX9_drinkAround 1 = .ok (.getfield 21, 3) := by decide +kernel
theorem dX9_drinkAround_4 : decode cX9_drinkAround 4 = .ok (.getfield 112, 3) := by decide +kernel
theorem dX9_drinkAround_7 : decode cX9_drinkAround 7 = .ok (.iload_n 1, 1) := by decide +kernel
theorem dX9_drinkAround_8 : decode cX9_drinkAround 8 = .ok (.iaload, 1) := by decide +kernel
theorem dX9_drinkAround_9 : decode cX9_drinkAround 9 = .ok (.istore_n 2, 1) := by decide +kernel
theorem dX9_drinkAround_10 : decode cX9_drinkAround 10 = .ok (.iconst 0, 1) := by decide +kernel
theorem dX9_drinkAround_11 : decode cX9_drinkAround 11 = .ok (.istore_n 3, 1) := by decide +kernel
theorem dX9_drinkAround_12 : decode cX9_drinkAround 12 = .ok (.iload_n 3, 1) := by decide +kernel
theorem dX9_drinkAround_13 : decode cX9_drinkAround 13 = .ok (.iconst 5, 1) := by decide +kernel
theorem dX9_drinkAround_14 : decode cX9_drinkAround 14 = .ok (.if_icmp .ge 24, 3) := by decide +kernel
theorem dX9_drinkAround_17 : decode cX9_drinkAround 17 = .ok (.iload_n 2, 1) := by decide +kernel
theorem dX9_drinkAround_18 : decode cX9_drinkAround 18 = .ok (.iload_n 3, 1) := by decide +kernel
theorem dX9_drinkAround_19 : decode cX9_drinkAround 19 = .ok (.invokestatic 106, 3) := by decide +kernel
theorem dX9_drinkAround_22 : decode cX9_drinkAround 22 = .ok (.ifCond .eq 10, 3) := by decide +kernel
theorem dX9_drinkAround_25 : decode cX9_drinkAround 25 = .ok (.aload_n 0, 1) := by decide +kernel
theorem dX9_drinkAround_26 : decode cX9_drinkAround 26 = .ok (.iload_n 1, 1) := by decide +kernel
theorem dX9_drinkAround_27 : decode cX9_drinkAround 27 = .ok (.iload_n 3, 1) := by decide +kernel
theorem dX9_drinkAround_28 : decode cX9_drinkAround 28 = .ok (.invokevirtual 83, 3) := by decide +kernel
theorem dX9_drinkAround_31 : decode cX9_drinkAround 31 = .ok (.pop, 1) := by decide +kernel
theorem dX9_drinkAround_32 : decode cX9_drinkAround 32 = .ok (.iinc 3 1, 3) := by decide +kernel
theorem dX9_drinkAround_35 : decode cX9_drinkAround 35 = .ok (.goto (-23), 3) := by decide +kernel
theorem dX9_drinkAround_38 : decode cX9_drinkAround 38 = .ok (.return_, 1) := by decide +kernel
theorem dX9_swallow_0 : decode cX9_swallow 0 = .ok (.aload_n 0, 1) := by decide +kernel
theorem dX9_swallow_1 : decode cX9_swallow 1 = .ok (.getfield 21, 3) := by decide +kernel
theorem dX9_swallow_4 : decode cX9_swallow 4 = .ok (.getfield 63, 3) := by decide +kernel
theorem dX9_swallow_7 : decode cX9_swallow 7 = .ok (.iload_n 1, 1) := by decide +kernel
theorem dX9_swallow_8 : decode cX9_swallow 8 = .ok (.iaload, 1) := by decide +kernel
theorem dX9_swallow_9 : decode cX9_swallow 9 = .ok (.aload_n 0, 1) := by decide +kernel
theorem dX9_swallow_10 : decode cX9_swallow 10 = .ok (.getfield 18, 3) := by decide +kernel
theorem dX9_swallow_13 : decode cX9_swallow 13 = .ok (.iload_n 1, 1) := by decide +kernel
theorem dX9_swallow_14 : decode cX9_swallow 14 = .ok (.iaload, 1) := by decide +kernel
theorem dX9_swallow_15 : decode cX9_swallow 15 = .ok (.aload_n 0, 1) := by decide +kernel
theorem dX9_swallow_16 : decode cX9_swallow 16 = .ok (.getfield 9, 3) := by decide +kernel
theorem dX9_swallow_19 : decode cX9_swallow 19 = .ok (.iload_n 2, 1) := by decide +kernel
theorem dX9_swallow_20 : decode cX9_swallow 20 = .ok (.iaload, 1) := by decide +kernel
theorem dX9_swallow_21 : decode cX9_swallow 21 = .ok (.invokestatic 66, 3) := by decide +kernel
theorem dX9_swallow_24 : decode cX9_swallow 24 = .ok (.istore_n 3, 1) := by decide +kernel
theorem dX9_swallow_25 : decode cX9_swallow 25 = .ok (.aload_n 0, 1) := by decide +kernel
theorem dX9_swallow_26 : decode cX9_swallow 26 = .ok (.getfield 9, 3) := by decide +kernel
theorem dX9_swallow_29 : decode cX9_swallow 29 = .ok (.iload_n 2, 1) := by decide +kernel
theorem dX9_swallow_30 : decode cX9_swallow 30 = .ok (.dup2, 1) := by decide +kernel
theorem dX9_swallow_31 : decode cX9_swallow 31 = .ok (.iaload, 1) := by decide +kernel
theorem dX9_swallow_32 : decode cX9_swallow 32 = .ok (.iload_n 3, 1) := by decide +kernel
theorem dX9_swallow_33 : decode cX9_swallow 33 = .ok (.isub, 1) := by decide +kernel
theorem dX9_swallow_34 : decode cX9_swallow 34 = .ok (.iastore, 1) := by decide +kernel
theorem dX9_swallow_35 : decode cX9_swallow 35 = .ok (.aload_n 0, 1) := by decide +kernel
theorem dX9_swallow_36 : decode cX9_swallow 36 = .ok (.getfield 18, 3) := by decide +kernel
theorem dX9_swallow_39 : decode cX9_swallow 39 = .ok (.iload_n 1, 1) := by decide +kernel
theorem dX9_swallow_40 : decode cX9_swallow 40 = .ok (.dup2, 1) := by decide +kernel
theorem dX9_swallow_41 : decode cX9_swallow 41 = .ok (.iaload, 1) := by decide +kernel
theorem dX9_swallow_42 : decode cX9_swallow 42 = .ok (.iload_n 3, 1) := by decide +kernel
theorem dX9_swallow_43 : decode cX9_swallow 43 = .ok (.isub, 1) := by decide +kernel
theorem dX9_swallow_44 : decode cX9_swallow 44 = .ok (.iastore, 1) := by decide +kernel
theorem dX9_swallow_45 : decode cX9_swallow 45 = .ok (.iload_n 3, 1) := by decide +kernel
theorem dX9_swallow_46 : decode cX9_swallow 46 = .ok (.ireturn, 1) := by decide +kernel
theorem dX9_fillOnly_0 : decode cX9_fillOnly 0 = .ok (.iconst 0, 1) := by decide +kernel
theorem dX9_fillOnly_1 : decode cX9_fillOnly 1 = .ok (.istore_n 2, 1) := by decide +kernel
theorem dX9_fillOnly_2 : decode cX9_fillOnly 2 = .ok (.iload_n 2, 1) := by decide +kernel
theorem dX9_fillOnly_3 : decode cX9_fillOnly 3 = .ok (.iconst 5, 1) := by decide +kernel
theorem dX9_fillOnly_4 : decode cX9_fillOnly 4 = .ok (.if_icmp .ge 43, 3) := by decide +kernel
theorem dX9_fillOnly_7 : decode cX9_fillOnly 7 = .ok (.aload_n 0, 1) := by decide +kernel
theorem dX9_fillOnly_8 : decode cX9_fillOnly 8 = .ok (.getfield 9, 3) := by decide +kernel
theorem dX9_fillOnly_11 : decode cX9_fillOnly 11 = .ok (.iload_n 2, 1) := by decide +kernel
theorem dX9_fillOnly_12 : decode cX9_fillOnly 12 = .ok (.iload_n 1, 1) := by decide +kernel
theorem dX9_fillOnly_13 : decode cX9_fillOnly 13 = .ok (.iload_n 2, 1) := by decide +kernel
theorem dX9_fillOnly_14 : decode cX9_fillOnly 14 = .ok (.invokestatic 106, 3) := by decide +kernel
theorem dX9_fillOnly_17 : decode cX9_fillOnly 17 = .ok (.ifCond .eq 15, 3) := by decide +kernel
theorem dX9_fillOnly_20 : decode cX9_fillOnly 20 = .ok (.aload_n 0, 1) := by decide +kernel
theorem dX9_fillOnly_21 : decode cX9_fillOnly 21 = .ok (.getfield 21, 3) := by decide +kernel
theorem dX9_fillOnly_24 : decode cX9_fillOnly 24 = .ok (.getfield 52, 3) := by decide +kernel
theorem dX9_fillOnly_27 : decode cX9_fillOnly 27 = .ok (.iload_n 2, 1) := by decide +kernel
theorem dX9_fillOnly_28 : decode cX9_fillOnly 28 = .ok (.iaload, 1) := by decide +kernel
theorem dX9_fillOnly_29 : decode cX9_fillOnly 29 = .ok (.goto 4, 3) := by decide +kernel
theorem dX9_fillOnly_32 : decode cX9_fillOnly 32 = .ok (.iconst 0, 1) := by decide +kernel
theorem dX9_fillOnly_33 : decode cX9_fillOnly 33 = .ok (.iastore, 1) := by decide +kernel
theorem dX9_fillOnly_34 : decode cX9_fillOnly 34 = .ok (.aload_n 0, 1) := by decide +kernel
theorem dX9_fillOnly_35 : decode cX9_fillOnly 35 = .ok (.getfield 15, 3) := by decide +kernel
theorem dX9_fillOnly_38 : decode cX9_fillOnly 38 = .ok (.iload_n 2, 1) := by decide +kernel
theorem dX9_fillOnly_39 : decode cX9_fillOnly 39 = .ok (.iconst 0, 1) := by decide +kernel
theorem dX9_fillOnly_40 : decode cX9_fillOnly 40 = .ok (.iastore, 1) := by decide +kernel
theorem dX9_fillOnly_41 : decode cX9_fillOnly 41 = .ok (.iinc 2 1, 3) := by decide +kernel
theorem dX9_fillOnly_44 : decode cX9_fillOnly 44 = .ok (.goto (-42), 3) := by decide +kernel
theorem dX9_fillOnly_47 : decode cX9_fillOnly 47 = .ok (.return_, 1) := by decide +kernel
theorem dX9_isQuenched_0 : decode cX9_isQuenched 0 = .ok (.iconst 0, 1) := by decide +kernel
theorem dX9_isQuenched_1 : decode cX9_isQuenched 1 = .ok (.istore_n 1, 1) := by decide +kernel
theorem dX9_isQuenched_2 : decode cX9_isQuenched 2 = .ok (.iload_n 1, 1) := by decide +kernel
theorem dX9_isQuenched_3 : decode cX9_isQuenched 3 = .ok (.iconst 4, 1) := by decide +kernel
theorem dX9_isQuenched_4 : decode cX9_isQuenched 4 = .ok (.if_icmp .ge 33, 3) := by decide +kernel
theorem dX9_isQuenched_7 : decode cX9_isQuenched 7 = .ok (.aload_n 0, 1) := by decide +kernel
theorem dX9_isQuenched_8 : decode cX9_isQuenched 8 = .ok (.getfield 18, 3) := by decide +kernel
theorem dX9_isQuenched_11 : decode cX9_isQuenched 11 = .ok (.iload_n 1, 1) := by decide +kernel
theorem dX9_isQuenched_12 : decode cX9_isQuenched 12 = .ok (.iaload, 1) := by decide +kernel
theorem dX9_isQuenched_13 : decode cX9_isQuenched 13 = .ok (.ifCond .le 18, 3) := by decide +kernel
theorem dX9_isQuenched_16 : decode cX9_isQuenched 16 = .ok (.aload_n 0, 1) := by decide +kernel
theorem dX9_isQuenched_17 : decode cX9_isQuenched 17 = .ok (.getfield 21, 3) := by decide +kernel
theorem dX9_isQuenched_20 : decode cX9_isQuenched 20 = .ok (.getfield 63, 3) := by decide +kernel
theorem dX9_isQuenched_23 : decode cX9_isQuenched 23 = .ok (.iload_n 1, 1) := by decide +kernel
theorem dX9_isQuenched_24 : decode cX9_isQuenched 24 = .ok (.iaload, 1) := by decide +kernel
theorem dX9_isQuenched_25 : decode cX9_isQuenched 25 = .ok (.iconst 3, 1) := by decide +kernel
theorem dX9_isQuenched_26 : decode cX9_isQuenched 26 = .ok (.if_icmp .eq 5, 3) := by decide +kernel
theorem dX9_isQuenched_29 : decode cX9_isQuenched 29 = .ok (.iconst 0, 1) := by decide +kernel
theorem dX9_isQuenched_30 : decode cX9_isQuenched 30 = .ok (.ireturn, 1) := by decide +kernel
theorem dX9_isQuenched_31 : decode cX9_isQuenched 31 = .ok (.iinc 1 1, 3) := by decide +kernel
theorem dX9_isQuenched_34 : decode cX9_isQuenched 34 = .ok (.goto (-32), 3) := by decide +kernel
theorem dX9_isQuenched_37 : decode cX9_isQuenched 37 = .ok (.iconst 1, 1) := by decide +kernel
theorem dX9_isQuenched_38 : decode cX9_isQuenched 38 = .ok (.ireturn, 1) := by decide +kernel
theorem dX10_init_0 : decode cX10_init 0 = .ok (.aload_n 0, 1) := by decide +kernel
theorem dX10_init_1 : decode cX10_init 1 = .ok (.invokespecial 3, 3) := by decide +kernel
theorem dX10_init_4 : decode cX10_init 4 = .ok (.aload_n 0, 1) := by decide +kernel
theorem dX10_init_5 : decode cX10_init 5 = .ok (.new 9, 3) := by decide +kernel
theorem dX10_init_8 : decode cX10_init 8 = .ok (.dup, 1) := by decide +kernel
theorem dX10_init_9 : decode cX10_init 9 = .ok (.invokespecial 11, 3) := by decide +kernel
theorem dX10_init_12 : decode cX10_init 12 = .ok (.putfield 12, 3) := by decide +kernel
theorem dX10_init_15 : decode cX10_init 15 = .ok (.aload_n 0, 1) := by decide +kernel
theorem dX10_init_16 : decode cX10_init 16 = .ok (.new 16, 3) := by decide +kernel
theorem dX10_init_19 : decode cX10_init 19 = .ok (.dup, 1) := by decide +kernel
theorem dX10_init_20 : decode cX10_init 20 = .ok (.invokespecial 18, 3) := by decide +kernel
theorem dX10_init_23 : decode cX10_init 23 = .ok (.putfield 19, 3) := by decide +kernel
theorem dX10_init_26 : decode cX10_init 26 = .ok (.aload_n 0, 1) := by decide +kernel
theorem dX10_init_27 : decode cX10_init 27 = .ok (.new 23, 3) := by decide +kernel
theorem dX10_init_30 : decode cX10_init 30 = .ok (.dup, 1) := by decide +kernel
theorem dX10_init_31 : decode cX10_init 31 = .ok (.invokespecial 25, 3) := by decide +kernel
theorem dX10_init_34 : decode cX10_init 34 = .ok (.putfield 26, 3) := by decide +kernel
theorem dX10_init_37 : decode cX10_init 37 = .ok (.aload_n 0, 1) := by decide +kernel
theorem dX10_init_38 : decode cX10_init 38 = .ok (.new 23, 3) := by decide +kernel
theorem dX10_init_41 : decode cX10_init 41 = .ok (.dup, 1) := by decide +kernel
theorem dX10_init_42 : decode cX10_init 42 = .ok (.invokespecial 25, 3) := by decide +kernel
theorem dX10_init_45 : decode cX10_init 45 = .ok (.putfield 30, 3) := by decide +kernel
theorem dX10_init_48 : decode cX10_init 48 = .ok (.aload_n 0, 1) := by decide +kernel
theorem dX10_init_49 : decode cX10_init 49 = .ok (.new 33, 3) := by decide +kernel
theorem dX10_init_52 : decode cX10_init 52 = .ok (.dup, 1) := by decide +kernel
theorem dX10_init_53 : decode cX10_init 53 = .ok (.aload_n 0, 1) := by decide +kernel
theorem dX10_init_54 : decode cX10_init 54 = .ok (.getfield 30, 3) := by decide +kernel
theorem dX10_init_57 : decode cX10_init 57 = .ok (.invokespecial 35, 3) := by decide +kernel
theorem dX10_init_60 : decode cX10_init 60 = .ok (.putfield 38, 3) := by decide +kernel
theorem dX10_init_63 : decode cX10_init 63 = .ok (.aload_n 0, 1) := by decide +kernel
theorem dX10_init_64 : decode cX10_init 64 = .ok (.new 33, 3) := by decide +kernel
theorem dX10_init_67 : decode cX10_init 67 = .ok (.dup, 1) := by decide +kernel
theorem dX10_init_68 : decode cX10_init 68 = .ok (.aload_n 0, 1) := by decide +kernel
theorem dX10_init_69 : decode cX10_init 69 = .ok (.getfield 30, 3) := by decide +kernel
theorem dX10_init_72 : decode cX10_init 72 = .ok (.invokespecial 35, 3) := by decide +kernel
theorem dX10_init_75 : decode cX10_init 75 = .ok (.putfield 42, 3) := by decide +kernel
theorem dX10_init_78 : decode cX10_init 78 = .ok (.aload_n 0, 1) := by decide +kernel
theorem dX10_init_79 : decode cX10_init 79 = .ok (.new 33, 3) := by decide +kernel
theorem dX10_init_82 : decode cX10_init 82 = .ok (.dup, 1) := by decide +kernel
theorem dX10_init_83 : decode cX10_init 83 = .ok (.aload_n 0, 1) := by decide +kernel
theorem dX10_init_84 : decode cX10_init 84 = .ok (.getfield 30, 3) := by decide +kernel
theorem dX10_init_87 : decode cX10_init 87 = .ok (.invokespecial 35, 3) := by decide +kernel
theorem dX10_init_90 : decode cX10_init 90 = .ok (.putfield 45, 3) := by decide +kernel
theorem dX10_init_93 : decode cX10_init 93 = .ok (.aload_n 0, 1) := by decide +kernel
theorem dX10_init_94 : decode cX10_init 94 = .ok (.new 48, 3) := by decide +kernel
theorem dX10_init_97 : decode cX10_init 97 = .ok (.dup, 1) := by decide +kernel
theorem dX10_init_98 : decode cX10_init 98 = .ok (.invokespecial 50, 3) := by decide +kernel
theorem dX10_init_101 : decode cX10_init 101 = .ok (.putfield 51, 3) := by decide +kernel
theorem dX10_init_104 : decode cX10_init 104 = .ok (.aload_n 0, 1) := by decide +kernel
theorem dX10_init_105 : decode cX10_init 105 = .ok (.new 55, 3) := by decide +kernel
theorem dX10_init_108 : decode cX10_init 108 = .ok (.dup, 1) := by decide +kernel
theorem dX10_init_109 : decode cX10_init 109 = .ok (.iconst 2, 1) := by decide +kernel
theorem dX10_init_110 : decode cX10_init 110 = .ok (.invokespecial 57, 3) := by decide +kernel
theorem dX10_init_113 : decode cX10_init 113 = .ok (.putfield 60, 3) := by decide +kernel
theorem dX10_init_116 : decode cX10_init 116 = .ok (.aload_n 0, 1) := by decide +kernel
theorem dX10_init_117 : decode cX10_init 117 = .ok (.new 64, 3) := by decide +kernel
theorem dX10_init_120 : decode cX10_init 120 = .ok (.dup, 1) := by decide +kernel
theorem dX10_init_121 : decode cX10_init 121 = .ok (.invokespecial 66, 3) := by decide +kernel
theorem dX10_init_124 : decode cX10_init 124 = .ok (.putfield 67, 3) := by decide +kernel
theorem dX10_init_127 : decode cX10_init 127 = .ok (.aload_n 0, 1) := by decide +kernel
theorem dX10_init_128 : decode cX10_init 128 = .ok (.new 71, 3) := by decide +kernel
theorem dX10_init_131 : decode cX10_init 131 = .ok (.dup, 1) := by decide +kernel
theorem dX10_init_132 : decode cX10_init 132 = .ok (.aload_n 0, 1) := by decide +kernel
theorem dX10_init_133 : decode cX10_init 133 = .ok (.getfield 30, 3) := by decide +kernel
theorem dX10_init_136 : decode cX10_init 136 = .ok (.aload_n 0, 1) := by decide +kernel
theorem dX10_init_137 : decode cX10_init 137 = .ok (.getfield 38, 3) := by decide +kernel
theorem dX10_init_140 : decode cX10_init 140 = .ok (.aload_n 0, 1) := by decide +kernel
theorem dX10_init_141 : decode cX10_init 141 = .ok (.getfield 45, 3) := by decide +kernel
theorem dX10_init_144 : decode cX10_init 144 = .ok (.invokespecial 73, 3) := by decide +kernel
theorem dX10_init_147 : decode cX10_init 147 = .ok (.putfield 76, 3) := by decide +kernel
theorem dX10_init_150 : decode cX10_init 150 = .ok (.aload_n 0, 1) := by decide +kernel
theorem dX10_init_151 : decode cX10_init 151 = .ok (.new 80, 3) := by decide +kernel
theorem dX10_init_154 : decode cX10_init 154 = .ok (.dup, 1) := by decide +kernel
theorem dX10_init_155 : decode cX10_init 155 = .ok (.aload_n 0, 1) := by decide +kernel
theorem dX10_init_156 : decode cX10_init 156 = .ok (.getfield 30, 3) := by decide +kernel
theorem dX10_init_159 : decode cX10_init 159 = .ok (.aload_n 0, 1) := by decide +kernel
theorem dX10_init_160 : decode cX10_init 160 = .ok (.getfield 38, 3) := by decide +kernel
theorem dX10_init_163 : decode cX10_init 163 = .ok (.aload_n 0, 1) := by decide +kernel
theorem dX10_init_164 : decode cX10_init 164 = .ok (.getfield 45, 3) := by decide +kernel
theorem dX10_init_167 : decode cX10_init 167 = .ok (.invokespecial 82, 3) := by decide +kernel
theorem dX10_init_170 : decode cX10_init 170 = .ok (.putfield 83, 3) := by decide +kernel
theorem dX10_init_173 : decode cX10_init 173 = .ok (.aload_n 0, 1) := by decide +kernel
theorem dX10_init_174 : decode cX10_init 174 = .ok (.new 87, 3) := by decide +kernel
theorem dX10_init_177 : decode cX10_init 177 = .ok (.dup, 1) := by decide +kernel
theorem dX10_init_178 : decode cX10_init 178 = .ok (.aload_n 0, 1) := by decide +kernel
theorem dX10_init_179 : decode cX10_init 179 = .ok (.getfield 30, 3) := by decide +kernel
theorem dX10_init_182 : decode cX10_init 182 = .ok (.aload_n 0, 1) := by decide +kernel
theorem dX10_init_183 : decode cX10_init 183 = .ok (.getfield 38, 3) := by decide +kernel
theorem dX10_init_186 : decode cX10_init 186 = .ok (.invokespecial 89, 3) := by decide +kernel
theorem dX10_init_189 : decode cX10_init 189 = .ok (.putfield 92, 3) := by decide +kernel
theorem dX10_init_192 : decode cX10_init 192 = .ok (.return_, 1) := by decide +kernel
theorem dX10_write_0 : decode cX10_write 0 = .ok (.iload_n 1, 1) := by decide +kernel
theorem dX10_write_1 : decode cX10_write 1 = .ok (.ifCond .lt 10, 3) := by decide +kernel
theorem dX10_write_4 : decode cX10_write 4 = .ok (.iload_n 1, 1) := by decide +kernel
theorem dX10_write_5 : decode cX10_write 5 = .ok (.sipush 255, 3) := by decide +kernel
theorem dX10_write_8 : decode cX10_write 8 = .ok (.if_icmp .le 6, 3) := by decide +kernel
theorem dX10_write_11 : decode cX10_write 11 = .ok (.bipush (-2), 2) := by decide +kernel
theorem dX10_write_13 : decode cX10_write 13 = .ok (.ireturn, 1) := by decide +kernel
theorem dX10_write_14 : decode cX10_write 14 = .ok (.aload_n 0, 1) := by decide +kernel
theorem dX10_write_15 : decode cX10_write 15 = .ok (.getfield 12, 3) := by decide +kernel
theorem dX10_write_18 : decode cX10_write 18 = .ok (.iload_n 1, 1) := by decide +kernel
theorem dX10_write_19 : decode cX10_write 19 = .ok (.invokevirtual 96, 3) := by decide +kernel
theorem dX10_write_22 : decode cX10_write 22 = .ok (.ireturn, 1) := by decide +kernel
theorem dX10_wipe_0 : decode cX10_wipe 0 = .ok (.aload_n 0, 1) := by decide +kernel
theorem dX10_wipe_1 : decode cX10_wipe 1 = .ok (.getfield 12, 3) := by decide +kernel
theorem dX10_wipe_4 : decode cX10_wipe 4 = .ok (.getfield 100, 3) := by decide +kernel
theorem dX10_wipe_7 : decode cX10_wipe 7 = .ok (.istore_n 1, 1) := by decide +kernel
theorem dX10_wipe_8 : decode cX10_wipe 8 = .ok (.aload_n 0, 1) := by decide +kernel
theorem dX10_wipe_9 : decode cX10_wipe 9 = .ok (.getfield 12, 3) := by decide +kernel
theorem dX10_wipe_12 : decode cX10_wipe 12 = .ok (.iconst 0, 1) := by decide +kernel
theorem dX10_wipe_13 : decode cX10_wipe 13 = .ok (.putfield 100, 3) := by decide +kernel
theorem dX10_wipe_16 : decode cX10_wipe 16 = .ok (.iload_n 1, 1) := by decide +kernel
theorem dX10_wipe_17 : decode cX10_wipe 17 = .ok (.ireturn, 1) := by decide +kernel
theorem dX10_fault_0 : decode cX10_fault 0 = .ok (.aload_n 0, 1) := by decide +kernel
theorem dX10_fault_1 : decode cX10_fault 1 = .ok (.getfield 19, 3) := by decide +kernel
theorem dX10_fault_4 : decode cX10_fault 4 = .ok (.aload_n 0, 1) := by decide +kernel
theorem dX10_fault_5 : decode cX10_fault 5 = .ok (.getfield 12, 3) := by decide +kernel
theorem dX10_fault_8 : decode cX10_fault 8 = .ok (.aload_n 0, 1) := by decide +kernel
theorem dX10_fault_9 : decode cX10_fault 9 = .ok (.getfield 26, 3) := by decide +kernel
theorem dX10_fault_12 : decode cX10_fault 12 = .ok (.invokevirtual 104, 3) := by decide +kernel
theorem dX10_fault_15 : decode cX10_fault 15 = .ok (.ireturn, 1) := by decide +kernel
theorem dX10_inn_0 : decode cX10_inn 0 = .ok (.aload_n 0, 1) := by decide +kernel
theorem dX10_inn_1 : decode cX10_inn 1 = .ok (.getfield 19, 3) := by decide +kernel
theorem dX10_inn_4 : decode cX10_inn 4 = .ok (.aload_n 0, 1) := by decide +kernel
theorem dX10_inn_5 : decode cX10_inn 5 = .ok (.getfield 12, 3) := by decide +kernel
theorem dX10_inn_8 : decode cX10_inn 8 = .ok (.aload_n 0, 1) := by decide +kernel
theorem dX10_inn_9 : decode cX10_inn 9 = .ok (.getfield 26, 3) := by decide +kernel
theorem dX10_inn_12 : decode cX10_inn 12 = .ok (.invokevirtual 104, 3) := by decide +kernel
theorem dX10_inn_15 : decode cX10_inn 15 = .ok (.bipush (-9), 2) := by decide +kernel
theorem dX10_inn_17 : decode cX10_inn 17 = .ok (.if_icmp .eq 6, 3) := by decide +kernel
theorem dX10_inn_20 : decode cX10_inn 20 = .ok (.bipush (-3), 2) := by decide +kernel
theorem dX10_inn_22 : decode cX10_inn 22 = .ok (.ireturn, 1) := by decide +kernel
theorem dX10_inn_23 : decode cX10_inn 23 = .ok (.aload_n 0, 1) := by decide +kernel
theorem dX10_inn_24 : decode cX10_inn 24 = .ok (.getfield 30, 3) := by decide +kernel
theorem dX10_inn_27 : decode cX10_inn 27 = .ok (.aload_n 0, 1) := by decide +kernel
theorem dX10_inn_28 : decode cX10_inn 28 = .ok (.getfield 26, 3) := by decide +kernel
theorem dX10_inn_31 : decode cX10_inn 31 = .ok (.invokevirtual 108, 3) := by decide +kernel
theorem dX10_inn_34 : decode cX10_inn 34 = .ok (.aload_n 0, 1) := by decide +kernel
theorem dX10_inn_35 : decode cX10_inn 35 = .ok (.getfield 38, 3) := by decide +kernel
theorem dX10_inn_38 : decode cX10_inn 38 = .ok (.invokevirtual 111, 3) := by decide +kernel
theorem dX10_inn_41 : decode cX10_inn 41 = .ok (.aload_n 0, 1) := by decide +kernel
theorem dX10_inn_42 : decode cX10_inn 42 = .ok (.getfield 51, 3) := by decide +kernel
theorem dX10_inn_45 : decode cX10_inn 45 = .ok (.invokevirtual 114, 3) := by decide +kernel
theorem dX10_inn_48 : decode cX10_inn 48 = .ok (.aload_n 0, 1) := by decide +kernel
theorem dX10_inn_49 : decode cX10_inn 49 = .ok (.iconst 0, 1) := by decide +kernel
theorem dX10_inn_50 : decode cX10_inn 50 = .ok (.putfield 117, 3) := by decide +kernel
theorem dX10_inn_53 : decode cX10_inn 53 = .ok (.bipush 10, 2) := by decide +kernel
theorem dX10_inn_55 : decode cX10_inn 55 = .ok (.aload_n 0, 1) := by decide +kernel
theorem dX10_inn_56 : decode cX10_inn 56 = .ok (.getfield 30, 3) := by decide +kernel
theorem dX10_inn_59 : decode cX10_inn 59 = .ok (.getfield 120, 3) := by decide +kernel
theorem dX10_inn_62 : decode cX10_inn 62 = .ok (.imul, 1) := by decide +kernel
theorem dX10_inn_63 : decode cX10_inn 63 = .ok (.aload_n 0, 1) := by decide +kernel
theorem dX10_inn_64 : decode cX10_inn 64 = .ok (.getfield 30, 3) := by decide +kernel
theorem dX10_inn_67 : decode cX10_inn 67 = .ok (.getfield 123, 3) := by decide +kernel
theorem dX10_inn_70 : decode cX10_inn 70 = .ok (.iadd, 1) := by decide +kernel
theorem dX10_inn_71 : decode cX10_inn 71 = .ok (.ireturn, 1) := by decide +kernel
theorem dX10_glass_0 : decode cX10_glass 0 = .ok (.aload_n 0, 1) := by decide +kernel
theorem dX10_glass_1 : decode cX10_glass 1 = .ok (.getfield 30, 3) := by decide +kernel
theorem dX10_glass_4 : decode cX10_glass 4 = .ok (.iload_n 1, 1) := by decide +kernel
theorem dX10_glass_5 : decode cX10_glass 5 = .ok (.invokevirtual 126, 3) := by decide +kernel
theorem dX10_glass_8 : decode cX10_glass 8 = .ok (.ifCond .ne 5, 3) := by decide +kernel
theorem dX10_glass_11 : decode cX10_glass 11 = .ok (.iconst (-1), 1) := by decide +kernel
theorem dX10_glass_12 : decode cX10_glass 12 = .ok (.ireturn, 1) := by decide +kernel
theorem dX10_glass_13 : decode cX10_glass 13 = .ok (.iload_n 2, 1) := by decide +kernel
theorem dX10_glass_14 : decode cX10_glass 14 = .ok (.tableswitch 96 0 5 #[38, 48, 58, 68, 78, 87], 38) := by decide +kernel
theorem dX10_glass_52 : decode cX10_glass 52 = .ok (.aload_n 0, 1) := by decide +kernel
theorem dX10_glass_53 : decode cX10_glass 53 = .ok (.getfield 30, 3) := by decide +kernel
theorem dX10_glass_56 : decode cX10_glass 56 = .ok (.getfield 130, 3) := by decide +kernel
theorem dX10_glass_59 : decode cX10_glass 59 = .ok (.iload_n 1, 1) := by decide +kernel
theorem dX10_glass_60 : decode cX10_glass 60 = .ok (.iaload, 1) := by decide +kernel
theorem dX10_glass_61 : decode cX10_glass 61 = .ok (.ireturn, 1) := by decide +kernel
theorem dX10_glass_62 : decode cX10_glass 62 = .ok (.aload_n 0, 1) := by decide +kernel
theorem dX10_glass_63 : decode cX10_glass 63 = .ok (.getfield 38, 3) := by decide +kernel
theorem dX10_glass_66 : decode cX10_glass 66 = .ok (.getfield 134, 3) := by decide +kernel
theorem dX10_glass_69 : decode cX10_glass 69 = .ok (.iload_n 1, 1) := by decide +kernel
theorem dX10_glass_70 : decode cX10_glass 70 = .ok (.iaload, 1) := by decide +kernel
theorem dX10_glass_71 : decode cX10_glass 71 = .ok (.ireturn, 1) := by decide +kernel
theorem dX10_glass_72 : decode cX10_glass 72 = .ok (.aload_n 0, 1) := by decide +kernel
theorem dX10_glass_73 : decode cX10_glass 73 = .ok (.getfield 30, 3) := by decide +kernel
theorem dX10_glass_76 : decode cX10_glass 76 = .ok (.getfield 137, 3) := by decide +kernel
theorem dX10_glass_79 : decode cX10_glass 79 = .ok (.iload_n 1, 1) := by decide +kernel
theorem dX10_glass_80 : decode cX10_glass 80 = .ok (.iaload, 1) := by decide +kernel
theorem dX10_glass_81 : decode cX10_glass 81 = .ok (.ireturn, 1) := by decide +kernel
theorem dX10_glass_82 : decode cX10_glass 82 = .ok (.aload_n 0, 1) := by decide +kernel
theorem dX10_glass_83 : decode cX10_glass 83 = .ok (.getfield 38, 3) := by decide +kernel
theorem dX10_glass_86 : decode cX10_glass 86 = .ok (.getfield 140, 3) := by decide +kernel
theorem dX10_glass_89 : decode cX10_glass 89 = .ok (.iload_n 1, 1) := by decide +kernel
theorem dX10_glass_90 : decode cX10_glass 90 = .ok (.iaload, 1) := by decide +kernel
theorem dX10_glass_91 : decode cX10_glass 91 = .ok (.ireturn, 1) := by decide +kernel
theorem dX10_glass_92 : decode cX10_glass 92 = .ok (.aload_n 0, 1) := by decide +kernel
theorem dX10_glass_93 : decode cX10_glass 93 = .ok (.getfield 38, 3) := by decide +kernel
theorem dX10_glass_96 : decode cX10_glass 96 = .ok (.iload_n 1, 1) := by decide +kernel
theorem dX10_glass_97 : decode cX10_glass 97 = .ok (.invokevirtual 143, 3) := by decide +kernel
theorem dX10_glass_100 : decode cX10_glass 100 = .ok (.ireturn, 1) := by decide +kernel
theorem dX10_glass_101 : decode cX10_glass 101 = .ok (.aload_n 0, 1) := by decide +kernel
theorem dX10_glass_102 : decode cX10_glass 102 = .ok (.getfield 30, 3) := by decide +kernel
theorem dX10_glass_105 : decode cX10_glass 105 = .ok (.iload_n 1, 1) := by decide +kernel
theorem dX10_glass_106 : decode cX10_glass 106 = .ok (.invokevirtual 146, 3) := by decide +kernel
theorem dX10_glass_109 : decode cX10_glass 109 = .ok (.ireturn, 1) := by decide +kernel
theorem dX10_glass_110 : decode cX10_glass 110 = .ok (.bipush (-2), 2) := by decide +kernel
theorem dX10_glass_112 : decode cX10_glass 112 = .ok (.ireturn, 1) := by decide +kernel
theorem dX10_drinker_0 : decode cX10_drinker 0 = .ok (.aload_n 0, 1) := by decide +kernel
theorem dX10_drinker_1 : decode cX10_drinker 1 = .ok (.getfield 30, 3) := by decide +kernel
theorem dX10_drinker_4 : decode cX10_drinker 4 = .ok (.iload_n 1, 1) := by decide +kernel
theorem dX10_drinker_5 : decode cX10_drinker 5 = .ok (.invokevirtual 149, 3) := by decide +kernel
theorem dX10_drinker_8 : decode cX10_drinker 8 = .ok (.ifCond .ne 5, 3) := by decide +kernel
theorem dX10_drinker_11 : decode cX10_drinker 11 = .ok (.iconst (-1), 1) := by decide +kernel
theorem dX10_drinker_12 : decode cX10_drinker 12 = .ok (.ireturn, 1) := by decide +kernel
theorem dX10_drinker_13 : decode cX10_drinker 13 = .ok (.iload_n 2, 1) := by decide +kernel
theorem dX10_drinker_14 : decode cX10_drinker 14 = .ok (.tableswitch 69 0 3 #[30, 40, 50, 60], 30) := by decide +kernel
theorem dX10_drinker_44 : decode cX10_drinker 44 = .ok (.aload_n 0, 1) := by decide +kernel
theorem dX10_drinker_45 : decode cX10_drinker 45 = .ok (.getfield 38, 3) := by decide +kernel
theorem dX10_drinker_48 : decode cX10_drinker 48 = .ok (.getfield 152, 3) := by decide +kernel
theorem dX10_drinker_51 : decode cX10_drinker 51 = .ok (.iload_n 1, 1) := by decide +kernel
theorem dX10_drinker_52 : decode cX10_drinker 52 = .ok (.iaload, 1) := by decide +kernel
theorem dX10_drinker_53 : decode cX10_drinker 53 = .ok (.ireturn, 1) := by decide +kernel
theorem dX10_drinker_54 : decode cX10_drinker 54 = .ok (.aload_n 0, 1) := by decide +kernel
theorem dX10_drinker_55 : decode cX10_drinker 55 = .ok (.getfield 30, 3) := by decide +kernel
theorem dX10_drinker_58 : decode cX10_drinker 58 = .ok (.getfield 155, 3) := by decide +kernel
theorem dX10_drinker_61 : decode cX10_drinker 61 = .ok (.iload_n 1, 1) := by decide +kernel
theorem dX10_drinker_62 : decode cX10_drinker 62 = .ok (.iaload, 1) := by decide +kernel
theorem dX10_drinker_63 : decode cX10_drinker 63 = .ok (.ireturn, 1) := by decide +kernel
theorem dX10_drinker_64 : decode cX10_drinker 64 = .ok (.aload_n 0, 1) := by decide +kernel
theorem dX10_drinker_65 : decode cX10_drinker 65 = .ok (.getfield 30, 3) := by decide +kernel
theorem dX10_drinker_68 : decode cX10_drinker 68 = .ok (.getfield 158, 3) := by decide +kernel
theorem dX10_drinker_71 : decode cX10_drinker 71 = .ok (.iload_n 1, 1) := by decide +kernel
theorem dX10_drinker_72 : decode cX10_drinker 72 = .ok (.iaload, 1) := by decide +kernel
theorem dX10_drinker_73 : decode cX10_drinker 73 = .ok (.ireturn, 1) := by decide +kernel
theorem dX10_drinker_74 : decode cX10_drinker 74 = .ok (.aload_n 0, 1) := by decide +kernel
theorem dX10_drinker_75 : decode cX10_drinker 75 = .ok (.getfield 38, 3) := by decide +kernel
theorem dX10_drinker_78 : decode cX10_drinker 78 = .ok (.iload_n 1, 1) := by decide +kernel
theorem dX10_drinker_79 : decode cX10_drinker 79 = .ok (.invokevirtual 161, 3) := by decide +kernel
theorem dX10_drinker_82 : decode cX10_drinker 82 = .ok (.ireturn, 1) := by decide +kernel
theorem dX10_drinker_83 : decode cX10_drinker 83 = .ok (.bipush (-2), 2) := by decide +kernel
theorem dX10_drinker_85 : decode cX10_drinker 85 = .ok (.ireturn, 1) := by decide +kernel
theorem dX10_pour_0 : decode cX10_pour 0 = .ok (.aload_n 0, 1) := by decide +kernel
theorem dX10_pour_1 : decode cX10_pour 1 = .ok (.getfield 42, 3) := by decide +kernel
theorem dX10_pour_4 : decode cX10_pour 4 = .ok (.aload_n 0, 1) := by decide +kernel
theorem dX10_pour_5 : decode cX10_pour 5 = .ok (.getfield 38, 3) := by decide +kernel
theorem dX10_pour_8 : decode cX10_pour 8 = .ok (.invokevirtual 164, 3) := by decide +kernel
theorem dX10_pour_11 : decode cX10_pour 11 = .ok (.aload_n 0, 1) := by decide +kernel
theorem dX10_pour_12 : decode cX10_pour 12 = .ok (.aload_n 0, 1) := by decide +kernel
theorem dX10_pour_13 : decode cX10_pour 13 = .ok (.getfield 38, 3) := by decide +kernel
theorem dX10_pour_16 : decode cX10_pour 16 = .ok (.iload_n 1, 1) := by decide +kernel
theorem dX10_pour_17 : decode cX10_pour 17 = .ok (.iload_n 2, 1) := by decide +kernel
theorem dX10_pour_18 : decode cX10_pour 18 = .ok (.invokevirtual 167, 3) := by decide +kernel
theorem dX10_pour_21 : decode cX10_pour 21 = .ok (.invokevirtual 171, 3) := by decide +kernel
theorem dX10_pour_24 : decode cX10_pour 24 = .ok (.ireturn, 1) := by decide +kernel
theorem dX10_drink_0 : decode cX10_drink 0 = .ok (.aload_n 0, 1) := by decide +kernel
theorem dX10_drink_1 : decode cX10_drink 1 = .ok (.getfield 42, 3) := by decide +kernel
theorem dX10_drink_4 : decode cX10_drink 4 = .ok (.aload_n 0, 1) := by decide +kernel
theorem dX10_drink_5 : decode cX10_drink 5 = .ok (.getfield 38, 3) := by decide +kernel
theorem dX10_drink_8 : decode cX10_drink 8 = .ok (.invokevirtual 164, 3) := by decide +kernel
theorem dX10_drink_11 : decode cX10_drink 11 = .ok (.aload_n 0, 1) := by decide +kernel
theorem dX10_drink_12 : decode cX10_drink 12 = .ok (.aload_n 0, 1) := by decide +kernel
theorem dX10_drink_13 : decode cX10_drink 13 = .ok (.getfield 38, 3) := by decide +kernel
theorem dX10_drink_16 : decode cX10_drink 16 = .ok (.iload_n 1, 1) := by decide +kernel
theorem dX10_drink_17 : decode cX10_drink 17 = .ok (.iload_n 2, 1) := by decide +kernel
theorem dX10_drink_18 : decode cX10_drink 18 = .ok (.invokevirtual 174, 3) := by decide +kernel
theorem dX10_drink_21 : decode cX10_drink 21 = .ok (.invokevirtual 171, 3) := by decide +kernel
theorem dX10_drink_24 : decode cX10_drink 24 = .ok (.ireturn, 1) := by decide +kernel
theorem dX10_tip_0 : decode cX10_tip 0 = .ok (.aload_n 0, 1) := by decide +kernel
theorem dX10_tip_1 : decode cX10_tip 1 = .ok (.getfield 42, 3) := by decide +kernel
theorem dX10_tip_4 : decode cX10_tip 4 = .ok (.aload_n 0, 1) := by decide +kernel
theorem dX10_tip_5 : decode cX10_tip 5 = .ok (.getfield 38, 3) := by decide +kernel
theorem dX10_tip_8 : decode cX10_tip 8 = .ok (.invokevirtual 164, 3) := by decide +kernel
theorem dX10_tip_11 : decode cX10_tip 11 = .ok (.aload_n 0, 1) := by decide +kernel
theorem dX10_tip_12 : decode cX10_tip 12 = .ok (.aload_n 0, 1) := by decide +kernel
theorem dX10_tip_13 : decode cX10_tip 13 = .ok (.getfield 38, 3) := by decide +kernel
theorem dX10_tip_16 : decode cX10_tip 16 = .ok (.iload_n 1, 1) := by decide +kernel
theorem dX10_tip_17 : decode cX10_tip 17 = .ok (.iload_n 2, 1) := by decide +kernel
theorem dX10_tip_18 : decode cX10_tip 18 = .ok (.invokevirtual 177, 3) := by decide +kernel
theorem dX10_tip_21 : decode cX10_tip 21 = .ok (.invokevirtual 171, 3) := by decide +kernel
theorem dX10_tip_24 : decode cX10_tip 24 = .ok (.ireturn, 1) := by decide +kernel
theorem dX10_hour_0 : decode cX10_hour 0 = .ok (.aload_n 0, 1) := by decide +kernel
theorem dX10_hour_1 : decode cX10_hour 1 = .ok (.getfield 42, 3) := by decide +kernel
theorem dX10_hour_4 : decode cX10_hour 4 = .ok (.aload_n 0, 1) := by decide +kernel
theorem dX10_hour_5 : decode cX10_hour 5 = .ok (.getfield 38, 3) := by decide +kernel
theorem dX10_hour_8 : decode cX10_hour 8 = .ok (.invokevirtual 164, 3) := by decide +kernel
theorem dX10_hour_11 : decode cX10_hour 11 = .ok (.aload_n 0, 1) := by decide +kernel
theorem dX10_hour_12 : decode cX10_hour 12 = .ok (.aload_n 0, 1) := by decide +kernel
theorem dX10_hour_13 : decode cX10_hour 13 = .ok (.getfield 38, 3) := by decide +kernel
theorem dX10_hour_16 : decode cX10_hour 16 = .ok (.invokevirtual 180, 3) := by decide +kernel
theorem dX10_hour_19 : decode cX10_hour 19 = .ok (.invokevirtual 171, 3) := by decide +kernel
theorem dX10_hour_22 : decode cX10_hour 22 = .ok (.ireturn, 1) := by decide +kernel
theorem dX10_acted_0 : decode cX10_acted 0 = .ok (.iload_n 1, 1) := by decide +kernel
theorem dX10_acted_1 : decode cX10_acted 1 = .ok (.ifCond .lt 14, 3) := by decide +kernel
theorem dX10_acted_4 : decode cX10_acted 4 = .ok (.aload_n 0, 1) := by decide +kernel
theorem dX10_acted_5 : decode cX10_acted 5 = .ok (.getfield 51, 3) := by decide +kernel
theorem dX10_acted_8 : decode cX10_acted 8 = .ok (.aload_n 0, 1) := by decide +kernel
theorem dX10_acted_9 : decode cX10_acted 9 = .ok (.getfield 42, 3) := by decide +kernel
theorem dX10_acted_12 : decode cX10_acted 12 = .ok (.invokevirtual 184, 3) := by decide +kernel
theorem dX10_acted_15 : decode cX10_acted 15 = .ok (.iload_n 1, 1) := by decide +kernel
theorem dX10_acted_16 : decode cX10_acted 16 = .ok (.ireturn, 1) := by decide +kernel
theorem dX10_undo_0 : decode cX10_undo 0 = .ok (.aload_n 0, 1) := by decide +kernel
theorem dX10_undo_1 : decode cX10_undo 1 = .ok (.getfield 51, 3) := by decide +kernel
theorem dX10_undo_4 : decode cX10_undo 4 = .ok (.getfield 187, 3) := by decide +kernel
theorem dX10_undo_7 : decode cX10_undo 7 = .ok (.ifCond .ne 6, 3) := by decide +kernel
theorem dX10_undo_10 : decode cX10_undo 10 = .ok (.bipush (-3), 2) := by decide +kernel
theorem dX10_undo_12 : decode cX10_undo 12 = .ok (.ireturn, 1) := by decide +kernel
theorem dX10_undo_13 : decode cX10_undo 13 = .ok (.aload_n 0, 1) := by decide +kernel
theorem dX10_undo_14 : decode cX10_undo 14 = .ok (.getfield 51, 3) := by decide +kernel
theorem dX10_undo_17 : decode cX10_undo 17 = .ok (.aload_n 0, 1) := by decide +kernel
theorem dX10_undo_18 : decode cX10_undo 18 = .ok (.getfield 38, 3) := by decide +kernel
theorem dX10_undo_21 : decode cX10_undo 21 = .ok (.invokevirtual 190, 3) := by decide +kernel
theorem dX10_undo_24 : decode cX10_undo 24 = .ok (.aload_n 0, 1) := by decide +kernel
theorem dX10_undo_25 : decode cX10_undo 25 = .ok (.getfield 51, 3) := by decide +kernel
theorem dX10_undo_28 : decode cX10_undo 28 = .ok (.getfield 187, 3) := by decide +kernel
theorem dX10_undo_31 : decode cX10_undo 31 = .ok (.ireturn, 1) := by decide +kernel
theorem dX10_left_0 : decode cX10_left 0 = .ok (.aload_n 0, 1) := by decide +kernel
theorem dX10_left_1 : decode cX10_left 1 = .ok (.getfield 30, 3) := by decide +kernel
theorem dX10_left_4 : decode cX10_left 4 = .ok (.iload_n 1, 1) := by decide +kernel
theorem dX10_left_5 : decode cX10_left 5 = .ok (.invokevirtual 126, 3) := by decide +kernel
theorem dX10_left_8 : decode cX10_left 8 = .ok (.ifCond .ne 5, 3) := by decide +kernel
theorem dX10_left_11 : decode cX10_left 11 = .ok (.iconst (-1), 1) := by decide +kernel
theorem dX10_left_12 : decode cX10_left 12 = .ok (.ireturn, 1) := by decide +kernel
theorem dX10_left_13 : decode cX10_left 13 = .ok (.aload_n 0, 1) := by decide +kernel
theorem dX10_left_14 : decode cX10_left 14 = .ok (.getfield 45, 3) := by decide +kernel
theorem dX10_left_17 : decode cX10_left 17 = .ok (.aload_n 0, 1) := by decide +kernel
theorem dX10_left_18 : decode cX10_left 18 = .ok (.getfield 38, 3) := by decide +kernel
theorem dX10_left_21 : decode cX10_left 21 = .ok (.invokevirtual 164, 3) := by decide +kernel
theorem dX10_left_24 : decode cX10_left 24 = .ok (.aload_n 0, 1) := by decide +kernel
theorem dX10_left_25 : decode cX10_left 25 = .ok (.getfield 45, 3) := by decide +kernel
theorem dX10_left_28 : decode cX10_left 28 = .ok (.bipush 15, 2) := by decide +kernel
theorem dX10_left_30 : decode cX10_left 30 = .ok (.invokevirtual 193, 3) := by decide +kernel
theorem dX10_left_33 : decode cX10_left 33 = .ok (.aload_n 0, 1) := by decide +kernel
theorem dX10_left_34 : decode cX10_left 34 = .ok (.getfield 45, 3) := by decide +kernel
theorem dX10_left_37 : decode cX10_left 37 = .ok (.getfield 134, 3) := by decide +kernel
theorem dX10_left_40 : decode cX10_left 40 = .ok (.iload_n 1, 1) := by decide +kernel
theorem dX10_left_41 : decode cX10_left 41 = .ok (.iaload, 1) := by decide +kernel
theorem dX10_left_42 : decode cX10_left 42 = .ok (.ireturn, 1) := by decide +kernel
theorem dX10_evening_0 : decode cX10_evening 0 = .ok (.iload_n 1, 1) := by decide +kernel
theorem dX10_evening_1 : decode cX10_evening 1 = .ok (.ifCond .lt 8, 3) := by decide +kernel
theorem dX10_evening_4 : decode cX10_evening 4 = .ok (.iload_n 1, 1) := by decide +kernel
theorem dX10_evening_5 : decode cX10_evening 5 = .ok (.iconst 1, 1) := by decide +kernel
theorem dX10_evening_6 : decode cX10_evening 6 = .ok (.if_icmp .le 6, 3) := by decide +kernel
theorem dX10_evening_9 : decode cX10_evening 9 = .ok (.bipush (-2), 2) := by decide +kernel
theorem dX10_evening_11 : decode cX10_evening 11 = .ok (.ireturn, 1) := by decide +kernel
theorem dX10_evening_12 : decode cX10_evening 12 = .ok (.aload_n 0, 1) := by decide +kernel
theorem dX10_evening_13 : decode cX10_evening 13 = .ok (.getfield 45, 3) := by decide +kernel
theorem dX10_evening_16 : decode cX10_evening 16 = .ok (.aload_n 0, 1) := by decide +kernel
theorem dX10_evening_17 : decode cX10_evening 17 = .ok (.getfield 38, 3) := by decide +kernel
theorem dX10_evening_20 : decode cX10_evening 20 = .ok (.invokevirtual 164, 3) := by decide +kernel
theorem dX10_evening_23 : decode cX10_evening 23 = .ok (.aload_n 0, 1) := by decide +kernel
theorem dX10_evening_24 : decode cX10_evening 24 = .ok (.getfield 45, 3) := by decide +kernel
theorem dX10_evening_27 : decode cX10_evening 27 = .ok (.bipush 15, 2) := by decide +kernel
theorem dX10_evening_29 : decode cX10_evening 29 = .ok (.invokevirtual 193, 3) := by decide +kernel
theorem dX10_evening_32 : decode cX10_evening 32 = .ok (.iload_n 1, 1) := by decide +kernel
theorem dX10_evening_33 : decode cX10_evening 33 = .ok (.ifCond .ne 13, 3) := by decide +kernel
theorem dX10_evening_36 : decode cX10_evening 36 = .ok (.aload_n 0, 1) := by decide +kernel
theorem dX10_evening_37 : decode cX10_evening 37 = .ok (.getfield 45, 3) := by decide +kernel
theorem dX10_evening_40 : decode cX10_evening 40 = .ok (.invokevirtual 196, 3) := by decide +kernel
theorem dX10_evening_43 : decode cX10_evening 43 = .ok (.goto 10, 3) := by decide +kernel
theorem dX10_evening_46 : decode cX10_evening 46 = .ok (.aload_n 0, 1) := by decide +kernel
theorem dX10_evening_47 : decode cX10_evening 47 = .ok (.getfield 45, 3) := by decide +kernel
theorem dX10_evening_50 : decode cX10_evening 50 = .ok (.invokevirtual 199, 3) := by decide +kernel
theorem dX10_evening_53 : decode cX10_evening 53 = .ok (.ireturn, 1) := by decide +kernel
theorem dX10_pouring_0 : decode cX10_pouring 0 = .ok (.iload_n 1, 1) := by decide +kernel
theorem dX10_pouring_1 : decode cX10_pouring 1 = .ok (.ifCond .lt 9, 3) := by decide +kernel
theorem dX10_pouring_4 : decode cX10_pouring 4 = .ok (.iload_n 1, 1) := by decide +kernel
theorem dX10_pouring_5 : decode cX10_pouring 5 = .ok (.bipush 9, 2) := by decide +kernel
theorem dX10_pouring_7 : decode cX10_pouring 7 = .ok (.if_icmp .le 6, 3) := by decide +kernel
theorem dX10_pouring_10 : decode cX10_pouring 10 = .ok (.bipush (-2), 2) := by decide +kernel
theorem dX10_pouring_12 : decode cX10_pouring 12 = .ok (.ireturn, 1) := by decide +kernel
theorem dX10_pouring_13 : decode cX10_pouring 13 = .ok (.aload_n 0, 1) := by decide +kernel
theorem dX10_pouring_14 : decode cX10_pouring 14 = .ok (.getfield 76, 3) := by decide +kernel
theorem dX10_pouring_17 : decode cX10_pouring 17 = .ok (.invokevirtual 202, 3) := by decide +kernel
theorem dX10_pouring_20 : decode cX10_pouring 20 = .ok (.aload_n 0, 1) := by decide +kernel
theorem dX10_pouring_21 : decode cX10_pouring 21 = .ok (.getfield 76, 3) := by decide +kernel
theorem dX10_pouring_24 : decode cX10_pouring 24 = .ok (.iconst 0, 1) := by decide +kernel
theorem dX10_pouring_25 : decode cX10_pouring 25 = .ok (.iload_n 1, 1) := by decide +kernel
theorem dX10_pouring_26 : decode cX10_pouring 26 = .ok (.iconst 0, 1) := by decide +kernel
theorem dX10_pouring_27 : decode cX10_pouring 27 = .ok (.invokevirtual 205, 3) := by decide +kernel
theorem dX10_pouring_30 : decode cX10_pouring 30 = .ok (.iload_n 2, 1) := by decide +kernel
theorem dX10_pouring_31 : decode cX10_pouring 31 = .ok (.ifCond .eq 13, 3) := by decide +kernel
theorem dX10_pouring_34 : decode cX10_pouring 34 = .ok (.aload_n 0, 1) := by decide +kernel
theorem dX10_pouring_35 : decode cX10_pouring 35 = .ok (.getfield 76, 3) := by decide +kernel
theorem dX10_pouring_38 : decode cX10_pouring 38 = .ok (.getfield 209, 3) := by decide +kernel
theorem dX10_pouring_41 : decode cX10_pouring 41 = .ok (.goto 10, 3) := by decide +kernel
theorem dX10_pouring_44 : decode cX10_pouring 44 = .ok (.aload_n 0, 1) := by decide +kernel
theorem dX10_pouring_45 : decode cX10_pouring 45 = .ok (.getfield 76, 3) := by decide +kernel
theorem dX10_pouring_48 : decode cX10_pouring 48 = .ok (.getfield 212, 3) := by decide +kernel
theorem dX10_pouring_51 : decode cX10_pouring 51 = .ok (.ireturn, 1) := by decide +kernel
theorem dX10_wake_0 : decode cX10_wake 0 = .ok (.aload_n 0, 1) := by decide +kernel
theorem dX10_wake_1 : decode cX10_wake 1 = .ok (.getfield 76, 3) := by decide +kernel
theorem dX10_wake_4 : decode cX10_wake 4 = .ok (.invokevirtual 215, 3) := by decide +kernel
theorem dX10_wake_7 : decode cX10_wake 7 = .ok (.ireturn, 1) := by decide +kernel
theorem dX10_order_0 : decode cX10_order 0 = .ok (.aload_n 0, 1) := by decide +kernel
theorem dX10_order_1 : decode cX10_order 1 = .ok (.getfield 76, 3) := by decide +kernel
theorem dX10_order_4 : decode cX10_order 4 = .ok (.invokevirtual 202, 3) := by decide +kernel
theorem dX10_order_7 : decode cX10_order 7 = .ok (.aload_n 0, 1) := by decide +kernel
theorem dX10_order_8 : decode cX10_order 8 = .ok (.getfield 76, 3) := by decide +kernel
theorem dX10_order_11 : decode cX10_order 11 = .ok (.iconst 0, 1) := by decide +kernel
theorem dX10_order_12 : decode cX10_order 12 = .ok (.iconst 0, 1) := by decide +kernel
theorem dX10_order_13 : decode cX10_order 13 = .ok (.iconst 0, 1) := by decide +kernel
theorem dX10_order_14 : decode cX10_order 14 = .ok (.invokevirtual 218, 3) := by decide +kernel
theorem dX10_order_17 : decode cX10_order 17 = .ok (.iload_n 1, 1) := by decide +kernel
theorem dX10_order_18 : decode cX10_order 18 = .ok (.ifCond .eq 13, 3) := by decide +kernel
theorem dX10_order_21 : decode cX10_order 21 = .ok (.aload_n 0, 1) := by decide +kernel
theorem dX10_order_22 : decode cX10_order 22 = .ok (.getfield 76, 3) := by decide +kernel
theorem dX10_order_25 : decode cX10_order 25 = .ok (.getfield 209, 3) := by decide +kernel
theorem dX10_order_28 : decode cX10_order 28 = .ok (.goto 10, 3) := by decide +kernel
theorem dX10_order_31 : decode cX10_order 31 = .ok (.aload_n 0, 1) := by decide +kernel
theorem dX10_order_32 : decode cX10_order 32 = .ok (.getfield 76, 3) := by decide +kernel
theorem dX10_order_35 : decode cX10_order 35 = .ok (.getfield 212, 3) := by decide +kernel
theorem dX10_order_38 : decode cX10_order 38 = .ok (.ireturn, 1) := by decide +kernel
theorem dX10_hall_0 : decode cX10_hall 0 = .ok (.iload_n 1, 1) := by decide +kernel
theorem dX10_hall_1 : decode cX10_hall 1 = .ok (.ifCond .lt 9, 3) := by decide +kernel
theorem dX10_hall_4 : decode cX10_hall 4 = .ok (.iload_n 1, 1) := by decide +kernel
theorem dX10_hall_5 : decode cX10_hall 5 = .ok (.bipush 9, 2) := by decide +kernel
theorem dX10_hall_7 : decode cX10_hall 7 = .ok (.if_icmp .le 6, 3) := by decide +kernel
theorem dX10_hall_10 : decode cX10_hall 10 = .ok (.bipush (-2), 2) := by decide +kernel
theorem dX10_hall_12 : decode cX10_hall 12 = .ok (.ireturn, 1) := by decide +kernel
theorem dX10_hall_13 : decode cX10_hall 13 = .ok (.aload_n 0, 1) := by decide +kernel
theorem dX10_hall_14 : decode cX10_hall 14 = .ok (.getfield 45, 3) := by decide +kernel
theorem dX10_hall_17 : decode cX10_hall 17 = .ok (.aload_n 0, 1) := by decide +kernel
theorem dX10_hall_18 : decode cX10_hall 18 = .ok (.getfield 38, 3) := by decide +kernel
theorem dX10_hall_21 : decode cX10_hall 21 = .ok (.invokevirtual 164, 3) := by decide +kernel
theorem dX10_hall_24 : decode cX10_hall 24 = .ok (.iconst 0, 1) := by decide +kernel
theorem dX10_hall_25 : decode cX10_hall 25 = .ok (.istore_n 2, 1) := by decide +kernel
theorem dX10_hall_26 : decode cX10_hall 26 = .ok (.iload_n 2, 1) := by decide +kernel
theorem dX10_hall_27 : decode cX10_hall 27 = .ok (.iload_n 1, 1) := by decide +kernel
theorem dX10_hall_28 : decode cX10_hall 28 = .ok (.if_icmp .ge 17, 3) := by decide +kernel
theorem dX10_hall_31 : decode cX10_hall 31 = .ok (.aload_n 0, 1) := by decide +kernel
theorem dX10_hall_32 : decode cX10_hall 32 = .ok (.getfield 45, 3) := by decide +kernel
theorem dX10_hall_35 : decode cX10_hall 35 = .ok (.invokevirtual 180, 3) := by decide +kernel
theorem dX10_hall_38 : decode cX10_hall 38 = .ok (.pop, 1) := by decide +kernel
theorem dX10_hall_39 : decode cX10_hall 39 = .ok (.iinc 2 1, 3) := by decide +kernel
theorem dX10_hall_42 : decode cX10_hall 42 = .ok (.goto (-16), 3) := by decide +kernel
theorem dX10_hall_45 : decode cX10_hall 45 = .ok (.aload_n 0, 1) := by decide +kernel
theorem dX10_hall_46 : decode cX10_hall 46 = .ok (.getfield 45, 3) := by decide +kernel
theorem dX10_hall_49 : decode cX10_hall 49 = .ok (.invokevirtual 196, 3) := by decide +kernel
theorem dX10_hall_52 : decode cX10_hall 52 = .ok (.ireturn, 1) := by decide +kernel
theorem dX10_judge_0 : decode cX10_judge 0 = .ok (.iload_n 1, 1) := by decide +kernel
theorem dX10_judge_1 : decode cX10_judge 1 = .ok (.iconst 1, 1) := by decide +kernel
theorem dX10_judge_2 : decode cX10_judge 2 = .ok (.if_icmp .lt 8, 3) := by decide +kernel
theorem dX10_judge_5 : decode cX10_judge 5 = .ok (.iload_n 1, 1) := by decide +kernel
theorem dX10_judge_6 : decode cX10_judge 6 = .ok (.iconst 4, 1) := by decide +kernel
theorem dX10_judge_7 : decode cX10_judge 7 = .ok (.if_icmp .le 6, 3) := by decide +kernel
theorem dX10_judge_10 : decode cX10_judge 10 = .ok (.bipush (-2), 2) := by decide +kernel
theorem dX10_judge_12 : decode cX10_judge 12 = .ok (.ireturn, 1) := by decide +kernel
theorem dX10_judge_13 : decode cX10_judge 13 = .ok (.lconst 1, 1) := by decide +kernel
theorem dX10_judge_14 : decode cX10_judge 14 = .ok (.lstore 4, 2) := by decide +kernel
theorem dX10_judge_16 : decode cX10_judge 16 = .ok (.iconst 0, 1) := by decide +kernel
theorem dX10_judge_17 : decode cX10_judge 17 = .ok (.istore 6, 2) := by decide +kernel
theorem dX10_judge_19 : decode cX10_judge 19 = .ok (.iload 6, 2) := by decide +kernel
theorem dX10_judge_21 : decode cX10_judge 21 = .ok (.iload_n 1, 1) := by decide +kernel
theorem dX10_judge_22 : decode cX10_judge 22 = .ok (.if_icmp .ge 17, 3) := by decide +kernel
theorem dX10_judge_25 : decode cX10_judge 25 = .ok (.lload 4, 2) := by decide +kernel
theorem dX10_judge_27 : decode cX10_judge 27 = .ok (.ldc2_w 221, 3) := by decide +kernel
theorem dX10_judge_30 : decode cX10_judge 30 = .ok (.lmul, 1) := by decide +kernel
theorem dX10_judge_31 : decode cX10_judge 31 = .ok (.lstore 4, 2) := by decide +kernel
theorem dX10_judge_33 : decode cX10_judge 33 = .ok (.iinc 6 1, 3) := by decide +kernel
theorem dX10_judge_36 : decode cX10_judge 36 = .ok (.goto (-17), 3) := by decide +kernel
theorem dX10_judge_39 : decode cX10_judge 39 = .ok (.lload_n 2, 1) := by decide +kernel
theorem dX10_judge_40 : decode cX10_judge 40 = .ok (.lconst 0, 1) := by decide +kernel
theorem dX10_judge_41 : decode cX10_judge 41 = .ok (.lcmp, 1) := by decide +kernel
theorem dX10_judge_42 : decode cX10_judge 42 = .ok (.ifCond .lt 10, 3) := by decide +kernel
theorem dX10_judge_45 : decode cX10_judge 45 = .ok (.lload_n 2, 1) := by decide +kernel
theorem dX10_judge_46 : decode cX10_judge 46 = .ok (.lload 4, 2) := by decide +kernel
theorem dX10_judge_48 : decode cX10_judge 48 = .ok (.lcmp, 1) := by decide +kernel
theorem dX10_judge_49 : decode cX10_judge 49 = .ok (.ifCond .lt 6, 3) := by decide +kernel
theorem dX10_judge_52 : decode cX10_judge 52 = .ok (.bipush (-2), 2) := by decide +kernel
theorem dX10_judge_54 : decode cX10_judge 54 = .ok (.ireturn, 1) := by decide +kernel
theorem dX10_judge_55 : decode cX10_judge 55 = .ok (.aload_n 0, 1) := by decide +kernel
theorem dX10_judge_56 : decode cX10_judge 56 = .ok (.getfield 45, 3) := by decide +kernel
theorem dX10_judge_59 : decode cX10_judge 59 = .ok (.aload_n 0, 1) := by decide +kernel
theorem dX10_judge_60 : decode cX10_judge 60 = .ok (.getfield 38, 3) := by decide +kernel
theorem dX10_judge_63 : decode cX10_judge 63 = .ok (.invokevirtual 164, 3) := by decide +kernel
theorem dX10_judge_66 : decode cX10_judge 66 = .ok (.iconst 0, 1) := by decide +kernel
theorem dX10_judge_67 : decode cX10_judge 67 = .ok (.istore 6, 2) := by decide +kernel
theorem dX10_judge_69 : decode cX10_judge 69 = .ok (.iload 6, 2) := by decide +kernel
theorem dX10_judge_71 : decode cX10_judge 71 = .ok (.iload_n 1, 1) := by decide +kernel
theorem dX10_judge_72 : decode cX10_judge 72 = .ok (.if_icmp .ge 43, 3) := by decide +kernel
theorem dX10_judge_75 : decode cX10_judge 75 = .ok (.lconst 1, 1) := by decide +kernel
theorem dX10_judge_76 : decode cX10_judge 76 = .ok (.lload 4, 2) := by decide +kernel
theorem dX10_judge_78 : decode cX10_judge 78 = .ok (.ldc2_w 221, 3) := by decide +kernel
theorem dX10_judge_81 : decode cX10_judge 81 = .ok (.ldiv, 1) := by decide +kernel
theorem dX10_judge_82 : decode cX10_judge 82 = .ok (.invokestatic 223, 3) := by decide +kernel
theorem dX10_judge_85 : decode cX10_judge 85 = .ok (.lstore 4, 2) := by decide +kernel
theorem dX10_judge_87 : decode cX10_judge 87 = .ok (.aload_n 0, 1) := by decide +kernel
theorem dX10_judge_88 : decode cX10_judge 88 = .ok (.getfield 45, 3) := by decide +kernel
theorem dX10_judge_91 : decode cX10_judge 91 = .ok (.lload_n 2, 1) := by decide +kernel
theorem dX10_judge_92 : decode cX10_judge 92 = .ok (.lload 4, 2) := by decide +kernel
theorem dX10_judge_94 : decode cX10_judge 94 = .ok (.ldiv, 1) := by decide +kernel
theorem dX10_judge_95 : decode cX10_judge 95 = .ok (.ldc2_w 221, 3) := by decide +kernel
theorem dX10_judge_98 : decode cX10_judge 98 = .ok (.lrem, 1) := by decide +kernel
theorem dX10_judge_99 : decode cX10_judge 99 = .ok (.l2i, 1) := by decide +kernel
theorem dX10_judge_100 : decode cX10_judge 100 = .ok (.invokevirtual 229, 3) := by decide +kernel
theorem dX10_judge_103 : decode cX10_judge 103 = .ok (.ifCond .ge 6, 3) := by decide +kernel
theorem dX10_judge_106 : decode cX10_judge 106 = .ok (.iload 6, 2) := by decide +kernel
theorem dX10_judge_108 : decode cX10_judge 108 = .ok (.ireturn, 1) := by decide +kernel
theorem dX10_judge_109 : decode cX10_judge 109 = .ok (.iinc 6 1, 3) := by decide +kernel
theorem dX10_judge_112 : decode cX10_judge 112 = .ok (.goto (-43), 3) := by decide +kernel
theorem dX10_judge_115 : decode cX10_judge 115 = .ok (.bipush (-9), 2) := by decide +kernel
theorem dX10_judge_117 : decode cX10_judge 117 = .ok (.ireturn, 1) := by decide +kernel
theorem dX10_see_0 : decode cX10_see 0 = .ok (.aload_n 0, 1) := by decide +kernel
theorem dX10_see_1 : decode cX10_see 1 = .ok (.getfield 30, 3) := by decide +kernel
theorem dX10_see_4 : decode cX10_see 4 = .ok (.iload_n 1, 1) := by decide +kernel
theorem dX10_see_5 : decode cX10_see 5 = .ok (.invokevirtual 149, 3) := by decide +kernel
theorem dX10_see_8 : decode cX10_see 8 = .ok (.ifCond .ne 5, 3) := by decide +kernel
theorem dX10_see_11 : decode cX10_see 11 = .ok (.iconst (-1), 1) := by decide +kernel
theorem dX10_see_12 : decode cX10_see 12 = .ok (.ireturn, 1) := by decide +kernel
theorem dX10_see_13 : decode cX10_see 13 = .ok (.iload_n 2, 1) := by decide +kernel
theorem dX10_see_14 : decode cX10_see 14 = .ok (.ifCond .lt 18, 3) := by decide +kernel
theorem dX10_see_17 : decode cX10_see 17 = .ok (.iload_n 2, 1) := by decide +kernel
theorem dX10_see_18 : decode cX10_see 18 = .ok (.bipush 9, 2) := by decide +kernel
theorem dX10_see_20 : decode cX10_see 20 = .ok (.if_icmp .gt 12, 3) := by decide +kernel
theorem dX10_see_23 : decode cX10_see 23 = .ok (.iload_n 3, 1) := by decide +kernel
theorem dX10_see_24 : decode cX10_see 24 = .ok (.ifCond .lt 8, 3) := by decide +kernel
theorem dX10_see_27 : decode cX10_see 27 = .ok (.iload_n 3, 1) := by decide +kernel
theorem dX10_see_28 : decode cX10_see 28 = .ok (.iload_n 2, 1) := by decide +kernel
theorem dX10_see_29 : decode cX10_see 29 = .ok (.if_icmp .le 6, 3) := by decide +kernel
theorem dX10_see_32 : decode cX10_see 32 = .ok (.bipush (-2), 2) := by decide +kernel
theorem dX10_see_34 : decode cX10_see 34 = .ok (.ireturn, 1) := by decide +kernel
theorem dX10_see_35 : decode cX10_see 35 = .ok (.aload_n 0, 1) := by decide +kernel
theorem dX10_see_36 : decode cX10_see 36 = .ok (.getfield 67, 3) := by decide +kernel
theorem dX10_see_39 : decode cX10_see 39 = .ok (.iload_n 1, 1) := by decide +kernel
theorem dX10_see_40 : decode cX10_see 40 = .ok (.iload_n 2, 1) := by decide +kernel
theorem dX10_see_41 : decode cX10_see 41 = .ok (.iload_n 3, 1) := by decide +kernel
theorem dX10_see_42 : decode cX10_see 42 = .ok (.invokevirtual 232, 3) := by decide +kernel
theorem dX10_see_45 : decode cX10_see 45 = .ok (.ireturn, 1) := by decide +kernel
theorem dX10_unsee_0 : decode cX10_unsee 0 = .ok (.aload_n 0, 1) := by decide +kernel
theorem dX10_unsee_1 : decode cX10_unsee 1 = .ok (.getfield 67, 3) := by decide +kernel
theorem dX10_unsee_4 : decode cX10_unsee 4 = .ok (.getfield 235, 3) := by decide +kernel
theorem dX10_unsee_7 : decode cX10_unsee 7 = .ok (.istore_n 1, 1) := by decide +kernel
theorem dX10_unsee_8 : decode cX10_unsee 8 = .ok (.aload_n 0, 1) := by decide +kernel
theorem dX10_unsee_9 : decode cX10_unsee 9 = .ok (.getfield 67, 3) := by decide +kernel
theorem dX10_unsee_12 : decode cX10_unsee 12 = .ok (.iconst 0, 1) := by decide +kernel
theorem dX10_unsee_13 : decode cX10_unsee 13 = .ok (.putfield 235, 3) := by decide +kernel
theorem dX10_unsee_16 : decode cX10_unsee 16 = .ok (.iload_n 1, 1) := by decide +kernel
theorem dX10_unsee_17 : decode cX10_unsee 17 = .ok (.ireturn, 1) := by decide +kernel
theorem dX10_thirsts_0 : decode cX10_thirsts 0 = .ok (.aload_n 0, 1) := by decide +kernel
theorem dX10_thirsts_1 : decode cX10_thirsts 1 = .ok (.getfield 30, 3) := by decide +kernel
theorem dX10_thirsts_4 : decode cX10_thirsts 4 = .ok (.iload_n 1, 1) := by decide +kernel
theorem dX10_thirsts_5 : decode cX10_thirsts 5 = .ok (.invokevirtual 149, 3) := by decide +kernel
theorem dX10_thirsts_8 : decode cX10_thirsts 8 = .ok (.ifCond .ne 5, 3) := by decide +kernel
theorem dX10_thirsts_11 : decode cX10_thirsts 11 = .ok (.iconst (-1), 1) := by decide +kernel
theorem dX10_thirsts_12 : decode cX10_thirsts 12 = .ok (.ireturn, 1) := by decide +kernel
theorem dX10_thirsts_13 : decode cX10_thirsts 13 = .ok (.aload_n 0, 1) := by decide +kernel
theorem dX10_thirsts_14 : decode cX10_thirsts 14 = .ok (.getfield 67, 3) := by decide +kernel
theorem dX10_thirsts_17 : decode cX10_thirsts 17 = .ok (.iload_n 1, 1) := by decide +kernel
theorem dX10_thirsts_18 : decode cX10_thirsts 18 = .ok (.aload_n 0, 1) := by decide +kernel
theorem dX10_thirsts_19 : decode cX10_thirsts 19 = .ok (.getfield 30, 3) := by decide +kernel
theorem dX10_thirsts_22 : decode cX10_thirsts 22 = .ok (.getfield 155, 3) := by decide +kernel
theorem dX10_thirsts_25 : decode cX10_thirsts 25 = .ok (.iload_n 1, 1) := by decide +kernel
theorem dX10_thirsts_26 : decode cX10_thirsts 26 = .ok (.iaload, 1) := by decide +kernel
theorem dX10_thirsts_27 : decode cX10_thirsts 27 = .ok (.invokevirtual 236, 3) := by decide +kernel
theorem dX10_thirsts_30 : decode cX10_thirsts 30 = .ok (.ireturn, 1) := by decide +kernel
theorem dX10_share_0 : decode cX10_share 0 = .ok (.aload_n 0, 1) := by decide +kernel
theorem dX10_share_1 : decode cX10_share 1 = .ok (.getfield 30, 3) := by decide +kernel
theorem dX10_share_4 : decode cX10_share 4 = .ok (.iload_n 1, 1) := by decide +kernel
theorem dX10_share_5 : decode cX10_share 5 = .ok (.invokevirtual 149, 3) := by decide +kernel
theorem dX10_share_8 : decode cX10_share 8 = .ok (.ifCond .ne 5, 3) := by decide +kernel
theorem dX10_share_11 : decode cX10_share 11 = .ok (.iconst (-1), 1) := by decide +kernel
theorem dX10_share_12 : decode cX10_share 12 = .ok (.ireturn, 1) := by decide +kernel
theorem dX10_share_13 : decode cX10_share 13 = .ok (.aload_n 0, 1) := by decide +kernel
theorem dX10_share_14 : decode cX10_share 14 = .ok (.getfield 83, 3) := by decide +kernel
theorem dX10_share_17 : decode cX10_share 17 = .ok (.iload_n 1, 1) := by decide +kernel
theorem dX10_share_18 : decode cX10_share 18 = .ok (.iload_n 2, 1) := by decide +kernel
theorem dX10_share_19 : decode cX10_share 19 = .ok (.invokevirtual 239, 3) := by decide +kernel
theorem dX10_share_22 : decode cX10_share 22 = .ok (.ireturn, 1) := by decide +kernel
theorem dX10_rests_0 : decode cX10_rests 0 = .ok (.aload_n 0, 1) := by decide +kernel
theorem dX10_rests_1 : decode cX10_rests 1 = .ok (.getfield 30, 3) := by decide +kernel
theorem dX10_rests_4 : decode cX10_rests 4 = .ok (.iload_n 1, 1) := by decide +kernel
theorem dX10_rests_5 : decode cX10_rests 5 = .ok (.invokevirtual 149, 3) := by decide +kernel
theorem dX10_rests_8 : decode cX10_rests 8 = .ok (.ifCond .eq 14, 3) := by decide +kernel
theorem dX10_rests_11 : decode cX10_rests 11 = .ok (.aload_n 0, 1) := by decide +kernel
theorem dX10_rests_12 : decode cX10_rests 12 = .ok (.getfield 30, 3) := by decide +kernel
theorem dX10_rests_15 : decode cX10_rests 15 = .ok (.iload_n 2, 1) := by decide +kernel
theorem dX10_rests_16 : decode cX10_rests 16 = .ok (.invokevirtual 149, 3) := by decide +kernel
theorem dX10_rests_19 : decode cX10_rests 19 = .ok (.ifCond .ne 5, 3) := by decide +kernel
theorem dX10_rests_22 : decode cX10_rests 22 = .ok (.iconst (-1), 1) := by decide +kernel
theorem dX10_rests_23 : decode cX10_rests 23 = .ok (.ireturn, 1) := by decide +kernel
theorem dX10_rests_24 : decode cX10_rests 24 = .ok (.iload_n 1, 1) := by decide +kernel
theorem dX10_rests_25 : decode cX10_rests 25 = .ok (.iload_n 2, 1) := by decide +kernel
theorem dX10_rests_26 : decode cX10_rests 26 = .ok (.if_icmp .eq 12, 3) := by decide +kernel
theorem dX10_rests_29 : decode cX10_rests 29 = .ok (.iload_n 3, 1) := by decide +kernel
theorem dX10_rests_30 : decode cX10_rests 30 = .ok (.ifCond .lt 8, 3) := by decide +kernel
theorem dX10_rests_33 : decode cX10_rests 33 = .ok (.iload_n 3, 1) := by decide +kernel
theorem dX10_rests_34 : decode cX10_rests 34 = .ok (.iconst 1, 1) := by decide +kernel
theorem dX10_rests_35 : decode cX10_rests 35 = .ok (.if_icmp .le 6, 3) := by decide +kernel
theorem dX10_rests_38 : decode cX10_rests 38 = .ok (.bipush (-2), 2) := by decide +kernel
theorem dX10_rests_40 : decode cX10_rests 40 = .ok (.ireturn, 1) := by decide +kernel
theorem dX10_rests_41 : decode cX10_rests 41 = .ok (.aload_n 0, 1) := by decide +kernel
theorem dX10_rests_42 : decode cX10_rests 42 = .ok (.getfield 92, 3) := by decide +kernel
theorem dX10_rests_45 : decode cX10_rests 45 = .ok (.iload_n 1, 1) := by decide +kernel
theorem dX10_rests_46 : decode cX10_rests 46 = .ok (.iload_n 2, 1) := by decide +kernel
theorem dX10_rests_47 : decode cX10_rests 47 = .ok (.invokevirtual 243, 3) := by decide +kernel
theorem dX10_rests_50 : decode cX10_rests 50 = .ok (.aload_n 0, 1) := by decide +kernel
theorem dX10_rests_51 : decode cX10_rests 51 = .ok (.getfield 92, 3) := by decide +kernel
theorem dX10_rests_54 : decode cX10_rests 54 = .ok (.getfield 247, 3) := by decide +kernel
theorem dX10_rests_57 : decode cX10_rests 57 = .ok (.ifCond .ne 6, 3) := by decide +kernel
theorem dX10_rests_60 : decode cX10_rests 60 = .ok (.bipush (-9), 2) := by decide +kernel
theorem dX10_rests_62 : decode cX10_rests 62 = .ok (.ireturn, 1) := by decide +kernel
theorem dX10_rests_63 : decode cX10_rests 63 = .ok (.iload_n 3, 1) := by decide +kernel
theorem dX10_rests_64 : decode cX10_rests 64 = .ok (.ifCond .ne 13, 3) := by decide +kernel
theorem dX10_rests_67 : decode cX10_rests 67 = .ok (.aload_n 0, 1) := by decide +kernel
theorem dX10_rests_68 : decode cX10_rests 68 = .ok (.getfield 92, 3) := by decide +kernel
theorem dX10_rests_71 : decode cX10_rests 71 = .ok (.getfield 247, 3) := by decide +kernel
theorem dX10_rests_74 : decode cX10_rests 74 = .ok (.goto 10, 3) := by decide +kernel
theorem dX10_rests_77 : decode cX10_rests 77 = .ok (.aload_n 0, 1) := by decide +kernel
theorem dX10_rests_78 : decode cX10_rests 78 = .ok (.getfield 92, 3) := by decide +kernel
theorem dX10_rests_81 : decode cX10_rests 81 = .ok (.getfield 248, 3) := by decide +kernel
theorem dX10_rests_84 : decode cX10_rests 84 = .ok (.ireturn, 1) := by decide +kernel
theorem dX10_leak_0 : decode cX10_leak 0 = .ok (.iload_n 1, 1) := by decide +kernel
theorem dX10_leak_1 : decode cX10_leak 1 = .ok (.ifCond .lt 19, 3) := by decide +kernel
theorem dX10_leak_4 : decode cX10_leak 4 = .ok (.iload_n 1, 1) := by decide +kernel
theorem dX10_leak_5 : decode cX10_leak 5 = .ok (.bipush 60, 2) := by decide +kernel
theorem dX10_leak_7 : decode cX10_leak 7 = .ok (.if_icmp .gt 13, 3) := by decide +kernel
theorem dX10_leak_10 : decode cX10_leak 10 = .ok (.iload_n 2, 1) := by decide +kernel
theorem dX10_leak_11 : decode cX10_leak 11 = .ok (.ifCond .lt 9, 3) := by decide +kernel
theorem dX10_leak_14 : decode cX10_leak 14 = .ok (.iload_n 2, 1) := by decide +kernel
theorem dX10_leak_15 : decode cX10_leak 15 = .ok (.bipush 10, 2) := by decide +kernel
theorem dX10_leak_17 : decode cX10_leak 17 = .ok (.if_icmp .le 6, 3) := by decide +kernel
theorem dX10_leak_20 : decode cX10_leak 20 = .ok (.bipush (-2), 2) := by decide +kernel
theorem dX10_leak_22 : decode cX10_leak 22 = .ok (.ireturn, 1) := by decide +kernel
theorem dX10_leak_23 : decode cX10_leak 23 = .ok (.aload_n 0, 1) := by decide +kernel
theorem dX10_leak_24 : decode cX10_leak 24 = .ok (.getfield 83, 3) := by decide +kernel
theorem dX10_leak_27 : decode cX10_leak 27 = .ok (.iload_n 1, 1) := by decide +kernel
theorem dX10_leak_28 : decode cX10_leak 28 = .ok (.iload_n 2, 1) := by decide +kernel
theorem dX10_leak_29 : decode cX10_leak 29 = .ok (.iload_n 3, 1) := by decide +kernel
theorem dX10_leak_30 : decode cX10_leak 30 = .ok (.invokevirtual 251, 3) := by decide +kernel
theorem dX10_leak_33 : decode cX10_leak 33 = .ok (.ireturn, 1) := by decide +kernel
theorem dX10_seed_0 : decode cX10_seed 0 = .ok (.aload_n 0, 1) := by decide +kernel
theorem dX10_seed_1 : decode cX10_seed 1 = .ok (.getfield 255, 3) := by decide +kernel
theorem dX10_seed_4 : decode cX10_seed 4 = .ok (.lstore_n 3, 1) := by decide +kernel
theorem dX10_seed_5 : decode cX10_seed 5 = .ok (.aload_n 0, 1) := by decide +kernel
theorem dX10_seed_6 : decode cX10_seed 6 = .ok (.lload_n 1, 1) := by decide +kernel
theorem dX10_seed_7 : decode cX10_seed 7 = .ok (.putfield 255, 3) := by decide +kernel
theorem dX10_seed_10 : decode cX10_seed 10 = .ok (.lload_n 3, 1) := by decide +kernel
theorem dX10_seed_11 : decode cX10_seed 11 = .ok (.lreturn, 1) := by decide +kernel
theorem dX10_nights_0 : decode cX10_nights 0 = .ok (.iload_n 1, 1) := by decide +kernel
theorem dX10_nights_1 : decode cX10_nights 1 = .ok (.iconst 1, 1) := by decide +kernel
theorem dX10_nights_2 : decode cX10_nights 2 = .ok (.if_icmp .lt 9, 3) := by decide +kernel
theorem dX10_nights_5 : decode cX10_nights 5 = .ok (.iload_n 1, 1) := by decide +kernel
theorem dX10_nights_6 : decode cX10_nights 6 = .ok (.bipush 30, 2) := by decide +kernel
theorem dX10_nights_8 : decode cX10_nights 8 = .ok (.if_icmp .le 6, 3) := by decide +kernel
theorem dX10_nights_11 : decode cX10_nights 11 = .ok (.bipush (-2), 2) := by decide +kernel
theorem dX10_nights_13 : decode cX10_nights 13 = .ok (.ireturn, 1) := by decide +kernel
theorem dX10_nights_14 : decode cX10_nights 14 = .ok (.aload_n 0, 1) := by decide +kernel
theorem dX10_nights_15 : decode cX10_nights 15 = .ok (.getfield 45, 3) := by decide +kernel
theorem dX10_nights_18 : decode cX10_nights 18 = .ok (.aload_n 0, 1) := by decide +kernel
theorem dX10_nights_19 : decode cX10_nights 19 = .ok (.getfield 38, 3) := by decide +kernel
theorem dX10_nights_22 : decode cX10_nights 22 = .ok (.invokevirtual 164, 3) := by decide +kernel
theorem dX10_nights_25 : decode cX10_nights 25 = .ok (.iconst 0, 1) := by decide +kernel
theorem dX10_nights_26 : decode cX10_nights 26 = .ok (.istore_n 2, 1) := by decide +kernel
theorem dX10_nights_27 : decode cX10_nights 27 = .ok (.iconst 0, 1) := by decide +kernel
theorem dX10_nights_28 : decode cX10_nights 28 = .ok (.istore_n 3, 1) := by decide +kernel
theorem dX10_nights_29 : decode cX10_nights 29 = .ok (.iload_n 3, 1) := by decide +kernel
theorem dX10_nights_30 : decode cX10_nights 30 = .ok (.iload_n 1, 1) := by decide +kernel
theorem dX10_nights_31 : decode cX10_nights 31 = .ok (.if_icmp .ge 54, 3) := by decide +kernel
theorem dX10_nights_34 : decode cX10_nights 34 = .ok (.aload_n 0, 1) := by decide +kernel
theorem dX10_nights_35 : decode cX10_nights 35 = .ok (.aload_n 0, 1) := by decide +kernel
theorem dX10_nights_36 : decode cX10_nights 36 = .ok (.getfield 255, 3) := by decide +kernel
theorem dX10_nights_39 : decode cX10_nights 39 = .ok (.ldc2_w 259, 3) := by decide +kernel
theorem dX10_nights_42 : decode cX10_nights 42 = .ok (.lmul, 1) := by decide +kernel
theorem dX10_nights_43 : decode cX10_nights 43 = .ok (.ldc2_w 261, 3) := by decide +kernel
theorem dX10_nights_46 : decode cX10_nights 46 = .ok (.ladd, 1) := by decide +kernel
theorem dX10_nights_47 : decode cX10_nights 47 = .ok (.putfield 255, 3) := by decide +kernel
theorem dX10_nights_50 : decode cX10_nights 50 = .ok (.aload_n 0, 1) := by decide +kernel
theorem dX10_nights_51 : decode cX10_nights 51 = .ok (.getfield 45, 3) := by decide +kernel
theorem dX10_nights_54 : decode cX10_nights 54 = .ok (.aload_n 0, 1) := by decide +kernel
theorem dX10_nights_55 : decode cX10_nights 55 = .ok (.getfield 255, 3) := by decide +kernel
theorem dX10_nights_58 : decode cX10_nights 58 = .ok (.bipush 33, 2) := by decide +kernel
theorem dX10_nights_60 : decode cX10_nights 60 = .ok (.lushr, 1) := by decide +kernel
theorem dX10_nights_61 : decode cX10_nights 61 = .ok (.ldc2_w 263, 3) := by decide +kernel
theorem dX10_nights_64 : decode cX10_nights 64 = .ok (.lrem, 1) := by decide +kernel
theorem dX10_nights_65 : decode cX10_nights 65 = .ok (.l2i, 1) := by decide +kernel
theorem dX10_nights_66 : decode cX10_nights 66 = .ok (.invokevirtual 265, 3) := by decide +kernel
theorem dX10_nights_69 : decode cX10_nights 69 = .ok (.iload_n 2, 1) := by decide +kernel
theorem dX10_nights_70 : decode cX10_nights 70 = .ok (.aload_n 0, 1) := by decide +kernel
theorem dX10_nights_71 : decode cX10_nights 71 = .ok (.getfield 45, 3) := by decide +kernel
theorem dX10_nights_74 : decode cX10_nights 74 = .ok (.invokevirtual 196, 3) := by decide +kernel
theorem dX10_nights_77 : decode cX10_nights 77 = .ok (.iadd, 1) := by decide +kernel
theorem dX10_nights_78 : decode cX10_nights 78 = .ok (.istore_n 2, 1) := by decide +kernel
theorem dX10_nights_79 : decode cX10_nights 79 = .ok (.iinc 3 1, 3) := by decide +kernel
theorem dX10_nights_82 : decode cX10_nights 82 = .ok (.goto (-53), 3) := by decide +kernel
theorem dX10_nights_85 : decode cX10_nights 85 = .ok (.iload_n 2, 1) := by decide +kernel
theorem dX10_nights_86 : decode cX10_nights 86 = .ok (.ireturn, 1) := by decide +kernel
theorem dX10_keep_0 : decode cX10_keep 0 = .ok (.iload_n 1, 1) := by decide +kernel
theorem dX10_keep_1 : decode cX10_keep 1 = .ok (.ifCond .lt 8, 3) := by decide +kernel
theorem dX10_keep_4 : decode cX10_keep 4 = .ok (.iload_n 1, 1) := by decide +kernel
theorem dX10_keep_5 : decode cX10_keep 5 = .ok (.iconst 2, 1) := by decide +kernel
theorem dX10_keep_6 : decode cX10_keep 6 = .ok (.if_icmp .lt 5, 3) := by decide +kernel
theorem dX10_keep_9 : decode cX10_keep 9 = .ok (.iconst (-1), 1) := by decide +kernel
theorem dX10_keep_10 : decode cX10_keep 10 = .ok (.ireturn, 1) := by decide +kernel
theorem dX10_keep_11 : decode cX10_keep 11 = .ok (.aload_n 0, 1) := by decide +kernel
theorem dX10_keep_12 : decode cX10_keep 12 = .ok (.getfield 60, 3) := by decide +kernel
theorem dX10_keep_15 : decode cX10_keep 15 = .ok (.iload_n 1, 1) := by decide +kernel
theorem dX10_keep_16 : decode cX10_keep 16 = .ok (.aload_n 0, 1) := by decide +kernel
theorem dX10_keep_17 : decode cX10_keep 17 = .ok (.getfield 38, 3) := by decide +kernel
theorem dX10_keep_20 : decode cX10_keep 20 = .ok (.invokevirtual 268, 3) := by decide +kernel
theorem dX10_keep_23 : decode cX10_keep 23 = .ok (.aload_n 0, 1) := by decide +kernel
theorem dX10_keep_24 : decode cX10_keep 24 = .ok (.dup, 1) := by decide +kernel
theorem dX10_keep_25 : decode cX10_keep 25 = .ok (.getfield 117, 3) := by decide +kernel
theorem dX10_keep_28 : decode cX10_keep 28 = .ok (.iconst 1, 1) := by decide +kernel
theorem dX10_keep_29 : decode cX10_keep 29 = .ok (.iload_n 1, 1) := by decide +kernel
theorem dX10_keep_30 : decode cX10_keep 30 = .ok (.ishl, 1) := by decide +kernel
theorem dX10_keep_31 : decode cX10_keep 31 = .ok (.ior, 1) := by decide +kernel
theorem dX10_keep_32 : decode cX10_keep 32 = .ok (.putfield 117, 3) := by decide +kernel
theorem dX10_keep_35 : decode cX10_keep 35 = .ok (.aload_n 0, 1) := by decide +kernel
theorem dX10_keep_36 : decode cX10_keep 36 = .ok (.getfield 38, 3) := by decide +kernel
theorem dX10_keep_39 : decode cX10_keep 39 = .ok (.getfield 272, 3) := by decide +kernel
theorem dX10_keep_42 : decode cX10_keep 42 = .ok (.ireturn, 1) := by decide +kernel
theorem dX10_again_0 : decode cX10_again 0 = .ok (.iload_n 1, 1) := by decide +kernel
theorem dX10_again_1 : decode cX10_again 1 = .ok (.ifCond .lt 8, 3) := by decide +kernel
theorem dX10_again_4 : decode cX10_again 4 = .ok (.iload_n 1, 1) := by decide +kernel
theorem dX10_again_5 : decode cX10_again 5 = .ok (.iconst 2, 1) := by decide +kernel
theorem dX10_again_6 : decode cX10_again 6 = .ok (.if_icmp .lt 5, 3) := by decide +kernel
theorem dX10_again_9 : decode cX10_again 9 = .ok (.iconst (-1), 1) := by decide +kernel
theorem dX10_again_10 : decode cX10_again 10 = .ok (.ireturn, 1) := by decide +kernel
theorem dX10_again_11 : decode cX10_again 11 = .ok (.aload_n 0, 1) := by decide +kernel
theorem dX10_again_12 : decode cX10_again 12 = .ok (.getfield 117, 3) := by decide +kernel
theorem dX10_again_15 : decode cX10_again 15 = .ok (.iload_n 1, 1) := by decide +kernel
theorem dX10_again_16 : decode cX10_again 16 = .ok (.invokestatic 275, 3) := by decide +kernel
theorem dX10_again_19 : decode cX10_again 19 = .ok (.ifCond .ne 6, 3) := by decide +kernel
theorem dX10_again_22 : decode cX10_again 22 = .ok (.bipush (-3), 2) := by decide +kernel
theorem dX10_again_24 : decode cX10_again 24 = .ok (.ireturn, 1) := by decide +kernel
theorem dX10_again_25 : decode cX10_again 25 = .ok (.aload_n 0, 1) := by decide +kernel
theorem dX10_again_26 : decode cX10_again 26 = .ok (.getfield 60, 3) := by decide +kernel
theorem dX10_again_29 : decode cX10_again 29 = .ok (.iload_n 1, 1) := by decide +kernel
theorem dX10_again_30 : decode cX10_again 30 = .ok (.aload_n 0, 1) := by decide +kernel
theorem dX10_again_31 : decode cX10_again 31 = .ok (.getfield 38, 3) := by decide +kernel
theorem dX10_again_34 : decode cX10_again 34 = .ok (.invokevirtual 279, 3) := by decide +kernel
theorem dX10_again_37 : decode cX10_again 37 = .ok (.aload_n 0, 1) := by decide +kernel
theorem dX10_again_38 : decode cX10_again 38 = .ok (.getfield 51, 3) := by decide +kernel
theorem dX10_again_41 : decode cX10_again 41 = .ok (.invokevirtual 114, 3) := by decide +kernel
theorem dX10_again_44 : decode cX10_again 44 = .ok (.aload_n 0, 1) := by decide +kernel
theorem dX10_again_45 : decode cX10_again 45 = .ok (.getfield 38, 3) := by decide +kernel
theorem dX10_again_48 : decode cX10_again 48 = .ok (.getfield 272, 3) := by decide +kernel
theorem dX10_again_51 : decode cX10_again 51 = .ok (.ireturn, 1) := by decide +kernel
theorem dX10_count_0 : decode cX10_count 0 = .ok (.iload_n 1, 1) := by decide +kernel
theorem dX10_count_1 : decode cX10_count 1 = .ok (.tableswitch 111 0 7 #[47, 55, 63, 71, 79, 87, 95, 103], 47) := by decide +kernel
theorem dX10_count_48 : decode cX10_count 48 = .ok (.aload_n 0, 1) := by decide +kernel
theorem dX10_count_49 : decode cX10_count 49 = .ok (.getfield 12, 3) := by decide +kernel
theorem dX10_count_52 : decode cX10_count 52 = .ok (.getfield 100, 3) := by decide +kernel
theorem dX10_count_55 : decode cX10_count 55 = .ok (.ireturn, 1) := by decide +kernel
theorem dX10_count_56 : decode cX10_count 56 = .ok (.aload_n 0, 1) := by decide +kernel
theorem dX10_count_57 : decode cX10_count 57 = .ok (.getfield 30, 3) := by decide +kernel
theorem dX10_count_60 : decode cX10_count 60 = .ok (.getfield 120, 3) := by decide +kernel
theorem dX10_count_63 : decode cX10_count 63 = .ok (.ireturn, 1) := by decide +kernel
theorem dX10_count_64 : decode cX10_count 64 = .ok (.aload_n 0, 1) := by decide +kernel
theorem dX10_count_65 : decode cX10_count 65 = .ok (.getfield 30, 3) := by decide +kernel
theorem dX10_count_68 : decode cX10_count 68 = .ok (.getfield 123, 3) := by decide +kernel
theorem dX10_count_71 : decode cX10_count 71 = .ok (.ireturn, 1) := by decide +kernel
theorem dX10_count_72 : decode cX10_count 72 = .ok (.aload_n 0, 1) := by decide +kernel
theorem dX10_count_73 : decode cX10_count 73 = .ok (.getfield 38, 3) := by decide +kernel
theorem dX10_count_76 : decode cX10_count 76 = .ok (.invokevirtual 196, 3) := by decide +kernel
theorem dX10_count_79 : decode cX10_count 79 = .ok (.ireturn, 1) := by decide +kernel
theorem dX10_count_80 : decode cX10_count 80 = .ok (.aload_n 0, 1) := by decide +kernel
theorem dX10_count_81 : decode cX10_count 81 = .ok (.getfield 38, 3) := by decide +kernel
theorem dX10_count_84 : decode cX10_count 84 = .ok (.invokevirtual 199, 3) := by decide +kernel
theorem dX10_count_87 : decode cX10_count 87 = .ok (.ireturn, 1) := by decide +kernel
theorem dX10_count_88 : decode cX10_count 88 = .ok (.aload_n 0, 1) := by decide +kernel
theorem dX10_count_89 : decode cX10_count 89 = .ok (.getfield 38, 3) := by decide +kernel
theorem dX10_count_92 : decode cX10_count 92 = .ok (.getfield 272, 3) := by decide +kernel
theorem dX10_count_95 : decode cX10_count 95 = .ok (.ireturn, 1) := by decide +kernel
theorem dX10_count_96 : decode cX10_count 96 = .ok (.aload_n 0, 1) := by decide +kernel
theorem dX10_count_97 : decode cX10_count 97 = .ok (.getfield 51, 3) := by decide +kernel
theorem dX10_count_100 : decode cX10_count 100 = .ok (.getfield 187, 3) := by decide +kernel
theorem dX10_count_103 : decode cX10_count 103 = .ok (.ireturn, 1) := by decide +kernel
theorem dX10_count_104 : decode cX10_count 104 = .ok (.aload_n 0, 1) := by decide +kernel
theorem dX10_count_105 : decode cX10_count 105 = .ok (.getfield 67, 3) := by decide +kernel
theorem dX10_count_108 : decode cX10_count 108 = .ok (.getfield 235, 3) := by decide +kernel
theorem dX10_count_111 : decode cX10_count 111 = .ok (.ireturn, 1) := by decide +kernel
theorem dX10_count_112 : decode cX10_count 112 = .ok (.bipush (-2), 2) := by decide +kernel
theorem dX10_count_114 : decode cX10_count 114 = .ok (.ireturn, 1) := by decide +kernel
theorem dX10_hasBit_0 : decode cX10_hasBit 0 = .ok (.iload_n 0, 1) := by decide +kernel
theorem dX10_hasBit_1 : decode cX10_hasBit 1 = .ok (.iload_n 1, 1) := by decide +kernel
theorem dX10_hasBit_2 : decode cX10_hasBit 2 = .ok (.ishr, 1) := by decide +kernel
theorem dX10_hasBit_3 : decode cX10_hasBit 3 = .ok (.iconst 1, 1) := by decide +kernel
theorem dX10_hasBit_4 : decode cX10_hasBit 4 = .ok (.iand, 1) := by decide +kernel
theorem dX10_hasBit_5 : decode cX10_hasBit 5 = .ok (.ifCond .eq 7, 3) := by decide +kernel
theorem dX10_hasBit_8 : decode cX10_hasBit 8 = .ok (.iconst 1, 1) := by decide +kernel
theorem dX10_hasBit_9 : decode cX10_hasBit 9 = .ok (.goto 4, 3) := by decide +kernel
theorem dX10_hasBit_12 : decode cX10_hasBit 12 = .ok (.iconst 0, 1) := by decide +kernel
theorem dX10_hasBit_13 : decode cX10_hasBit 13 = .ok (.ireturn, 1) := by decide +kernel
theorem dX10_gulp_0 : decode cX10_gulp 0 = .ok (.iload_n 2, 1) := by decide +kernel
theorem dX10_gulp_1 : decode cX10_gulp 1 = .ok (.istore_n 3, 1) := by decide +kernel
theorem dX10_gulp_2 : decode cX10_gulp 2 = .ok (.iload_n 0, 1) := by decide +kernel
theorem dX10_gulp_3 : decode cX10_gulp 3 = .ok (.iconst 1, 1) := by decide +kernel
theorem dX10_gulp_4 : decode cX10_gulp 4 = .ok (.if_icmp .ne 18, 3) := by decide +kernel
theorem dX10_gulp_7 : decode cX10_gulp 7 = .ok (.iload_n 2, 1) := by decide +kernel
theorem dX10_gulp_8 : decode cX10_gulp 8 = .ok (.ifCond .le 9, 3) := by decide +kernel
theorem dX10_gulp_11 : decode cX10_gulp 11 = .ok (.iload_n 2, 1) := by decide +kernel
theorem dX10_gulp_12 : decode cX10_gulp 12 = .ok (.iconst 1, 1) := by decide +kernel
theorem dX10_gulp_13 : decode cX10_gulp 13 = .ok (.isub, 1) := by decide +kernel
theorem dX10_gulp_14 : decode cX10_gulp 14 = .ok (.goto 4, 3) := by decide +kernel
theorem dX10_gulp_17 : decode cX10_gulp 17 = .ok (.iconst 0, 1) := by decide +kernel
theorem dX10_gulp_18 : decode cX10_gulp 18 = .ok (.istore_n 3, 1) := by decide +kernel
theorem dX10_gulp_19 : decode cX10_gulp 19 = .ok (.goto 22, 3) := by decide +kernel
theorem dX10_gulp_22 : decode cX10_gulp 22 = .ok (.iload_n 0, 1) := by decide +kernel
theorem dX10_gulp_23 : decode cX10_gulp 23 = .ok (.iconst 2, 1) := by decide +kernel
theorem dX10_gulp_24 : decode cX10_gulp 24 = .ok (.if_icmp .ne 10, 3) := by decide +kernel
theorem dX10_gulp_27 : decode cX10_gulp 27 = .ok (.iload_n 2, 1) := by decide +kernel
theorem dX10_gulp_28 : decode cX10_gulp 28 = .ok (.iconst 2, 1) := by decide +kernel
theorem dX10_gulp_29 : decode cX10_gulp 29 = .ok (.idiv, 1) := by decide +kernel
theorem dX10_gulp_30 : decode cX10_gulp 30 = .ok (.istore_n 3, 1) := by decide +kernel
theorem dX10_gulp_31 : decode cX10_gulp 31 = .ok (.goto 10, 3) := by decide +kernel
theorem dX10_gulp_34 : decode cX10_gulp 34 = .ok (.iload_n 0, 1) := by decide +kernel
theorem dX10_gulp_35 : decode cX10_gulp 35 = .ok (.iconst 3, 1) := by decide +kernel
theorem dX10_gulp_36 : decode cX10_gulp 36 = .ok (.if_icmp .ne 5, 3) := by decide +kernel
theorem dX10_gulp_39 : decode cX10_gulp 39 = .ok (.iconst 0, 1) := by decide +kernel
theorem dX10_gulp_40 : decode cX10_gulp 40 = .ok (.istore_n 3, 1) := by decide +kernel
theorem dX10_gulp_41 : decode cX10_gulp 41 = .ok (.iload_n 1, 1) := by decide +kernel
theorem dX10_gulp_42 : decode cX10_gulp 42 = .ok (.iload_n 3, 1) := by decide +kernel
theorem dX10_gulp_43 : decode cX10_gulp 43 = .ok (.if_icmp .ge 7, 3) := by decide +kernel
theorem dX10_gulp_46 : decode cX10_gulp 46 = .ok (.iload_n 1, 1) := by decide +kernel
theorem dX10_gulp_47 : decode cX10_gulp 47 = .ok (.goto 4, 3) := by decide +kernel
theorem dX10_gulp_50 : decode cX10_gulp 50 = .ok (.iload_n 3, 1) := by decide +kernel
theorem dX10_gulp_51 : decode cX10_gulp 51 = .ok (.ireturn, 1) := by decide +kernel
theorem dX10_fractionSide_0 : decode cX10_fractionSide 0 = .ok (.iload_n 0, 1) := by decide +kernel
theorem dX10_fractionSide_1 : decode cX10_fractionSide 1 = .ok (.invokestatic 282, 3) := by decide +kernel
theorem dX10_fractionSide_4 : decode cX10_fractionSide 4 = .ok (.iload_n 1, 1) := by decide +kernel
theorem dX10_fractionSide_5 : decode cX10_fractionSide 5 = .ok (.invokestatic 285, 3) := by decide +kernel
theorem dX10_fractionSide_8 : decode cX10_fractionSide 8 = .ok (.istore_n 3, 1) := by decide +kernel
theorem dX10_fractionSide_9 : decode cX10_fractionSide 9 = .ok (.iload_n 2, 1) := by decide +kernel
theorem dX10_fractionSide_10 : decode cX10_fractionSide 10 = .ok (.ifCond .eq 7, 3) := by decide +kernel
theorem dX10_fractionSide_13 : decode cX10_fractionSide 13 = .ok (.iload_n 0, 1) := by decide +kernel
theorem dX10_fractionSide_14 : decode cX10_fractionSide 14 = .ok (.goto 4, 3) := by decide +kernel
theorem dX10_fractionSide_17 : decode cX10_fractionSide 17 = .ok (.iload_n 1, 1) := by decide +kernel
theorem dX10_fractionSide_18 : decode cX10_fractionSide 18 = .ok (.iload_n 3, 1) := by decide +kernel
theorem dX10_fractionSide_19 : decode cX10_fractionSide 19 = .ok (.idiv, 1) := by decide +kernel
theorem dX10_fractionSide_20 : decode cX10_fractionSide 20 = .ok (.ireturn, 1) := by decide +kernel
theorem dX10_commonDivisor_0 : decode cX10_commonDivisor 0 = .ok (.iload_n 0, 1) := by decide +kernel
theorem dX10_commonDivisor_1 : decode cX10_commonDivisor 1 = .ok (.istore_n 2, 1) := by decide +kernel
theorem dX10_commonDivisor_2 : decode cX10_commonDivisor 2 = .ok (.iload_n 1, 1) := by decide +kernel
theorem dX10_commonDivisor_3 : decode cX10_commonDivisor 3 = .ok (.istore_n 3, 1) := by decide +kernel
theorem dX10_commonDivisor_4 : decode cX10_commonDivisor 4 = .ok (.iconst 0, 1) := by decide +kernel
theorem dX10_commonDivisor_5 : decode cX10_commonDivisor 5 = .ok (.istore 4, 2) := by decide +kernel
theorem dX10_commonDivisor_7 : decode cX10_commonDivisor 7 = .ok (.iload 4, 2) := by decide +kernel
theorem dX10_commonDivisor_9 : decode cX10_commonDivisor 9 = .ok (.bipush 64, 2) := by decide +kernel
theorem dX10_commonDivisor_11 : decode cX10_commonDivisor 11 = .ok (.if_icmp .ge 23, 3) := by decide +kernel
theorem dX10_commonDivisor_14 : decode cX10_commonDivisor 14 = .ok (.iload_n 3, 1) := by decide +kernel
theorem dX10_commonDivisor_15 : decode cX10_commonDivisor 15 = .ok (.ifCond .eq 19, 3) := by decide +kernel
theorem dX10_commonDivisor_18 : decode cX10_commonDivisor 18 = .ok (.iload_n 2, 1) := by decide +kernel
theorem dX10_commonDivisor_19 : decode cX10_commonDivisor 19 = .ok (.iload_n 3, 1) := by decide +kernel
theorem dX10_commonDivisor_20 : decode cX10_commonDivisor 20 = .ok (.irem, 1) := by decide +kernel
theorem dX10_commonDivisor_21 : decode cX10_commonDivisor 21 = .ok (.istore 5, 2) := by decide +kernel
theorem dX10_commonDivisor_23 : decode cX10_commonDivisor 23 = .ok (.iload_n 3, 1) := by decide +kernel
theorem dX10_commonDivisor_24 : decode cX10_commonDivisor 24 = .ok (.istore_n 2, 1) := by decide +kernel
theorem dX10_commonDivisor_25 : decode cX10_commonDivisor 25 = .ok (.iload 5, 2) := by decide +kernel
theorem dX10_commonDivisor_27 : decode cX10_commonDivisor 27 = .ok (.istore_n 3, 1) := by decide +kernel
theorem dX10_commonDivisor_28 : decode cX10_commonDivisor 28 = .ok (.iinc 4 1, 3) := by decide +kernel
theorem dX10_commonDivisor_31 : decode cX10_commonDivisor 31 = .ok (.goto (-24), 3) := by decide +kernel
theorem dX10_commonDivisor_34 : decode cX10_commonDivisor 34 = .ok (.iconst 1, 1) := by decide +kernel
theorem dX10_commonDivisor_35 : decode cX10_commonDivisor 35 = .ok (.iload_n 2, 1) := by decide +kernel
theorem dX10_commonDivisor_36 : decode cX10_commonDivisor 36 = .ok (.invokestatic 288, 3) := by decide +kernel
theorem dX10_commonDivisor_39 : decode cX10_commonDivisor 39 = .ok (.ireturn, 1) := by decide +kernel
