theorem d_Modl_thrown_0 : decode b_Modl_thrown 0 = .ok (.aload_n 0, 1) := by decide +kernel
theorem d_Modl_thrown_1 : decode b_Modl_thrown 1 = .ok (.getfield 1, 3) := by decide +kernel
theorem d_Modl_thrown_4 : decode b_Modl_thrown 4 = .ok (.ireturn, 1) := by decide +kernel
theorem d_Modl_init_0 : decode b_Modl_init 0 = .ok (.aload_n 0, 1) := by decide +kernel
theorem d_Modl_init_1 : decode b_Modl_init 1 = .ok (.invokespecial 7, 3) := by decide +kernel
theorem d_Modl_init_4 : decode b_Modl_init 4 = .ok (.aload_n 0, 1) := by decide +kernel
theorem d_Modl_init_5 : decode b_Modl_init 5 = .ok (.bipush 100, 2) := by decide +kernel
theorem d_Modl_init_7 : decode b_Modl_init 7 = .ok (.newarray .int, 2) := by decide +kernel
theorem d_Modl_init_9 : decode b_Modl_init 9 = .ok (.putfield 13, 3) := by decide +kernel
theorem d_Modl_init_12 : decode b_Modl_init 12 = .ok (.aload_n 0, 1) := by decide +kernel
theorem d_Modl_init_13 : decode b_Modl_init 13 = .ok (.bipush 100, 2) := by decide +kernel
theorem d_Modl_init_15 : decode b_Modl_init 15 = .ok (.newarray .int, 2) := by decide +kernel
theorem d_Modl_init_17 : decode b_Modl_init 17 = .ok (.putfield 17, 3) := by decide +kernel
theorem d_Modl_init_20 : decode b_Modl_init 20 = .ok (.aload_n 0, 1) := by decide +kernel
theorem d_Modl_init_21 : decode b_Modl_init 21 = .ok (.iconst 4, 1) := by decide +kernel
theorem d_Modl_init_22 : decode b_Modl_init 22 = .ok (.newarray .int, 2) := by decide +kernel
theorem d_Modl_init_24 : decode b_Modl_init 24 = .ok (.putfield 20, 3) := by decide +kernel
theorem d_Modl_init_27 : decode b_Modl_init 27 = .ok (.aload_n 0, 1) := by decide +kernel
theorem d_Modl_init_28 : decode b_Modl_init 28 = .ok (.iconst 4, 1) := by decide +kernel
theorem d_Modl_init_29 : decode b_Modl_init 29 = .ok (.newarray .int, 2) := by decide +kernel
theorem d_Modl_init_31 : decode b_Modl_init 31 = .ok (.putfield 23, 3) := by decide +kernel
theorem d_Modl_init_34 : decode b_Modl_init 34 = .ok (.aload_n 0, 1) := by decide +kernel
theorem d_Modl_init_35 : decode b_Modl_init 35 = .ok (.bipush 36, 2) := by decide +kernel
theorem d_Modl_init_37 : decode b_Modl_init 37 = .ok (.newarray .long, 2) := by decide +kernel
theorem d_Modl_init_39 : decode b_Modl_init 39 = .ok (.putfield 26, 3) := by decide +kernel
theorem d_Modl_init_42 : decode b_Modl_init 42 = .ok (.aload_n 0, 1) := by decide +kernel
theorem d_Modl_init_43 : decode b_Modl_init 43 = .ok (.bipush 8, 2) := by decide +kernel
theorem d_Modl_init_45 : decode b_Modl_init 45 = .ok (.newarray .long, 2) := by decide +kernel
theorem d_Modl_init_47 : decode b_Modl_init 47 = .ok (.putfield 30, 3) := by decide +kernel
theorem d_Modl_init_50 : decode b_Modl_init 50 = .ok (.aload_n 0, 1) := by decide +kernel
theorem d_Modl_init_51 : decode b_Modl_init 51 = .ok (.iconst 4, 1) := by decide +kernel
theorem d_Modl_init_52 : decode b_Modl_init 52 = .ok (.newarray .int, 2) := by decide +kernel
theorem d_Modl_init_54 : decode b_Modl_init 54 = .ok (.putfield 33, 3) := by decide +kernel
theorem d_Modl_init_57 : decode b_Modl_init 57 = .ok (.aload_n 0, 1) := by decide +kernel
theorem d_Modl_init_58 : decode b_Modl_init 58 = .ok (.iconst 4, 1) := by decide +kernel
theorem d_Modl_init_59 : decode b_Modl_init 59 = .ok (.newarray .int, 2) := by decide +kernel
theorem d_Modl_init_61 : decode b_Modl_init 61 = .ok (.putfield 36, 3) := by decide +kernel
theorem d_Modl_init_64 : decode b_Modl_init 64 = .ok (.aload_n 0, 1) := by decide +kernel
theorem d_Modl_init_65 : decode b_Modl_init 65 = .ok (.iconst 4, 1) := by decide +kernel
theorem d_Modl_init_66 : decode b_Modl_init 66 = .ok (.newarray .int, 2) := by decide +kernel
theorem d_Modl_init_68 : decode b_Modl_init 68 = .ok (.putfield 39, 3) := by decide +kernel
theorem d_Modl_init_71 : decode b_Modl_init 71 = .ok (.aload_n 0, 1) := by decide +kernel
theorem d_Modl_init_72 : decode b_Modl_init 72 = .ok (.iconst 4, 1) := by decide +kernel
theorem d_Modl_init_73 : decode b_Modl_init 73 = .ok (.newarray .int, 2) := by decide +kernel
theorem d_Modl_init_75 : decode b_Modl_init 75 = .ok (.putfield 42, 3) := by decide +kernel
theorem d_Modl_init_78 : decode b_Modl_init 78 = .ok (.aload_n 0, 1) := by decide +kernel
theorem d_Modl_init_79 : decode b_Modl_init 79 = .ok (.iload_n 1, 1) := by decide +kernel
theorem d_Modl_init_80 : decode b_Modl_init 80 = .ok (.iconst 1, 1) := by decide +kernel
theorem d_Modl_init_81 : decode b_Modl_init 81 = .ok (.if_icmp .ge 7, 3) := by decide +kernel
theorem d_Modl_init_84 : decode b_Modl_init 84 = .ok (.iconst 1, 1) := by decide +kernel
theorem d_Modl_init_85 : decode b_Modl_init 85 = .ok (.goto 17, 3) := by decide +kernel
theorem d_Modl_init_88 : decode b_Modl_init 88 = .ok (.iload_n 1, 1) := by decide +kernel
theorem d_Modl_init_89 : decode b_Modl_init 89 = .ok (.sipush 5000, 3) := by decide +kernel
theorem d_Modl_init_92 : decode b_Modl_init 92 = .ok (.if_icmp .le 9, 3) := by decide +kernel
theorem d_Modl_init_95 : decode b_Modl_init 95 = .ok (.sipush 5000, 3) := by decide +kernel
theorem d_Modl_init_98 : decode b_Modl_init 98 = .ok (.goto 4, 3) := by decide +kernel
theorem d_Modl_init_101 : decode b_Modl_init 101 = .ok (.iload_n 1, 1) := by decide +kernel
theorem d_Modl_init_102 : decode b_Modl_init 102 = .ok (.putfield 45, 3) := by decide +kernel
theorem d_Modl_init_105 : decode b_Modl_init 105 = .ok (.return_, 1) := by decide +kernel
theorem d_Modl_fits_0 : decode b_Modl_fits 0 = .ok (.lload_n 0, 1) := by decide +kernel
theorem d_Modl_fits_1 : decode b_Modl_fits 1 = .ok (.ldc2_w 48, 3) := by decide +kernel
theorem d_Modl_fits_4 : decode b_Modl_fits 4 = .ok (.lcmp, 1) := by decide +kernel
theorem d_Modl_fits_5 : decode b_Modl_fits 5 = .ok (.ifCond .lt 15, 3) := by decide +kernel
theorem d_Modl_fits_8 : decode b_Modl_fits 8 = .ok (.lload_n 0, 1) := by decide +kernel
theorem d_Modl_fits_9 : decode b_Modl_fits 9 = .ok (.ldc2_w 50, 3) := by decide +kernel
theorem d_Modl_fits_12 : decode b_Modl_fits 12 = .ok (.lcmp, 1) := by decide +kernel
theorem d_Modl_fits_13 : decode b_Modl_fits 13 = .ok (.ifCond .gt 7, 3) := by decide +kernel
theorem d_Modl_fits_16 : decode b_Modl_fits 16 = .ok (.iconst 1, 1) := by decide +kernel
theorem d_Modl_fits_17 : decode b_Modl_fits 17 = .ok (.goto 4, 3) := by decide +kernel
theorem d_Modl_fits_20 : decode b_Modl_fits 20 = .ok (.iconst 0, 1) := by decide +kernel
theorem d_Modl_fits_21 : decode b_Modl_fits 21 = .ok (.ireturn, 1) := by decide +kernel
theorem d_Modl_isGood_0 : decode b_Modl_isGood 0 = .ok (.iload_n 0, 1) := by decide +kernel
theorem d_Modl_isGood_1 : decode b_Modl_isGood 1 = .ok (.ifCond .lt 9, 3) := by decide +kernel
theorem d_Modl_isGood_4 : decode b_Modl_isGood 4 = .ok (.iload_n 0, 1) := by decide +kernel
theorem d_Modl_isGood_5 : decode b_Modl_isGood 5 = .ok (.bipush 15, 2) := by decide +kernel
theorem d_Modl_isGood_7 : decode b_Modl_isGood 7 = .ok (.if_icmp .le 5, 3) := by decide +kernel
theorem d_Modl_isGood_10 : decode b_Modl_isGood 10 = .ok (.iconst 0, 1) := by decide +kernel
theorem d_Modl_isGood_11 : decode b_Modl_isGood 11 = .ok (.ireturn, 1) := by decide +kernel
theorem d_Modl_isGood_12 : decode b_Modl_isGood 12 = .ok (.iload_n 0, 1) := by decide +kernel
theorem d_Modl_isGood_13 : decode b_Modl_isGood 13 = .ok (.ifCond .ne 9, 3) := by decide +kernel
theorem d_Modl_isGood_16 : decode b_Modl_isGood 16 = .ok (.iload_n 1, 1) := by decide +kernel
theorem d_Modl_isGood_17 : decode b_Modl_isGood 17 = .ok (.i2l, 1) := by decide +kernel
theorem d_Modl_isGood_18 : decode b_Modl_isGood 18 = .ok (.invokestatic 52, 3) := by decide +kernel
theorem d_Modl_isGood_21 : decode b_Modl_isGood 21 = .ok (.ireturn, 1) := by decide +kernel
theorem d_Modl_isGood_22 : decode b_Modl_isGood 22 = .ok (.iload_n 0, 1) := by decide +kernel
theorem d_Modl_isGood_23 : decode b_Modl_isGood 23 = .ok (.iconst 1, 1) := by decide +kernel
theorem d_Modl_isGood_24 : decode b_Modl_isGood 24 = .ok (.if_icmp .eq 8, 3) := by decide +kernel
theorem d_Modl_isGood_27 : decode b_Modl_isGood 27 = .ok (.iload_n 0, 1) := by decide +kernel
theorem d_Modl_isGood_28 : decode b_Modl_isGood 28 = .ok (.iconst 2, 1) := by decide +kernel
theorem d_Modl_isGood_29 : decode b_Modl_isGood 29 = .ok (.if_icmp .ne 19, 3) := by decide +kernel
theorem d_Modl_isGood_32 : decode b_Modl_isGood 32 = .ok (.iload_n 1, 1) := by decide +kernel
theorem d_Modl_isGood_33 : decode b_Modl_isGood 33 = .ok (.ifCond .lt 13, 3) := by decide +kernel
theorem d_Modl_isGood_36 : decode b_Modl_isGood 36 = .ok (.iload_n 1, 1) := by decide +kernel
theorem d_Modl_isGood_37 : decode b_Modl_isGood 37 = .ok (.bipush 16, 2) := by decide +kernel
theorem d_Modl_isGood_39 : decode b_Modl_isGood 39 = .ok (.if_icmp .ge 7, 3) := by decide +kernel
theorem d_Modl_isGood_42 : decode b_Modl_isGood 42 = .ok (.iconst 1, 1) := by decide +kernel
theorem d_Modl_isGood_43 : decode b_Modl_isGood 43 = .ok (.goto 4, 3) := by decide +kernel
theorem d_Modl_isGood_46 : decode b_Modl_isGood 46 = .ok (.iconst 0, 1) := by decide +kernel
theorem d_Modl_isGood_47 : decode b_Modl_isGood 47 = .ok (.ireturn, 1) := by decide +kernel
theorem d_Modl_isGood_48 : decode b_Modl_isGood 48 = .ok (.iload_n 0, 1) := by decide +kernel
theorem d_Modl_isGood_49 : decode b_Modl_isGood 49 = .ok (.bipush 12, 2) := by decide +kernel
theorem d_Modl_isGood_51 : decode b_Modl_isGood 51 = .ok (.if_icmp .eq 9, 3) := by decide +kernel
theorem d_Modl_isGood_54 : decode b_Modl_isGood 54 = .ok (.iload_n 0, 1) := by decide +kernel
theorem d_Modl_isGood_55 : decode b_Modl_isGood 55 = .ok (.bipush 13, 2) := by decide +kernel
theorem d_Modl_isGood_57 : decode b_Modl_isGood 57 = .ok (.if_icmp .ne 18, 3) := by decide +kernel
theorem d_Modl_isGood_60 : decode b_Modl_isGood 60 = .ok (.iload_n 1, 1) := by decide +kernel
theorem d_Modl_isGood_61 : decode b_Modl_isGood 61 = .ok (.ifCond .lt 12, 3) := by decide +kernel
theorem d_Modl_isGood_64 : decode b_Modl_isGood 64 = .ok (.iload_n 1, 1) := by decide +kernel
theorem d_Modl_isGood_65 : decode b_Modl_isGood 65 = .ok (.iconst 4, 1) := by decide +kernel
theorem d_Modl_isGood_66 : decode b_Modl_isGood 66 = .ok (.if_icmp .ge 7, 3) := by decide +kernel
theorem d_Modl_isGood_69 : decode b_Modl_isGood 69 = .ok (.iconst 1, 1) := by decide +kernel
theorem d_Modl_isGood_70 : decode b_Modl_isGood 70 = .ok (.goto 4, 3) := by decide +kernel
theorem d_Modl_isGood_73 : decode b_Modl_isGood 73 = .ok (.iconst 0, 1) := by decide +kernel
theorem d_Modl_isGood_74 : decode b_Modl_isGood 74 = .ok (.ireturn, 1) := by decide +kernel
theorem d_Modl_isGood_75 : decode b_Modl_isGood 75 = .ok (.iload_n 0, 1) := by decide +kernel
theorem d_Modl_isGood_76 : decode b_Modl_isGood 76 = .ok (.bipush 10, 2) := by decide +kernel
theorem d_Modl_isGood_78 : decode b_Modl_isGood 78 = .ok (.if_icmp .eq 9, 3) := by decide +kernel
theorem d_Modl_isGood_81 : decode b_Modl_isGood 81 = .ok (.iload_n 0, 1) := by decide +kernel
theorem d_Modl_isGood_82 : decode b_Modl_isGood 82 = .ok (.bipush 11, 2) := by decide +kernel
theorem d_Modl_isGood_84 : decode b_Modl_isGood 84 = .ok (.if_icmp .ne 13, 3) := by decide +kernel
theorem d_Modl_isGood_87 : decode b_Modl_isGood 87 = .ok (.iload_n 1, 1) := by decide +kernel
theorem d_Modl_isGood_88 : decode b_Modl_isGood 88 = .ok (.ifCond .lt 13, 3) := by decide +kernel
theorem d_Modl_isGood_91 : decode b_Modl_isGood 91 = .ok (.iload_n 1, 1) := by decide +kernel
theorem d_Modl_isGood_92 : decode b_Modl_isGood 92 = .ok (.bipush 100, 2) := by decide +kernel
theorem d_Modl_isGood_94 : decode b_Modl_isGood 94 = .ok (.if_icmp .ge 7, 3) := by decide +kernel
theorem d_Modl_isGood_97 : decode b_Modl_isGood 97 = .ok (.iconst 1, 1) := by decide +kernel
theorem d_Modl_isGood_98 : decode b_Modl_isGood 98 = .ok (.goto 4, 3) := by decide +kernel
theorem d_Modl_isGood_101 : decode b_Modl_isGood 101 = .ok (.iconst 0, 1) := by decide +kernel
theorem d_Modl_isGood_102 : decode b_Modl_isGood 102 = .ok (.ireturn, 1) := by decide +kernel
theorem d_Modl_add_0 : decode b_Modl_add 0 = .ok (.aload_n 0, 1) := by decide +kernel
theorem d_Modl_add_1 : decode b_Modl_add 1 = .ok (.iload_n 1, 1) := by decide +kernel
theorem d_Modl_add_2 : decode b_Modl_add 2 = .ok (.iload_n 2, 1) := by decide +kernel
theorem d_Modl_add_3 : decode b_Modl_add 3 = .ok (.invokestatic 56, 3) := by decide +kernel
theorem d_Modl_add_6 : decode b_Modl_add 6 = .ok (.ifCond .ne 7, 3) := by decide +kernel
theorem d_Modl_add_9 : decode b_Modl_add 9 = .ok (.iconst 1, 1) := by decide +kernel
theorem d_Modl_add_10 : decode b_Modl_add 10 = .ok (.goto 24, 3) := by decide +kernel
theorem d_Modl_add_13 : decode b_Modl_add 13 = .ok (.aload_n 0, 1) := by decide +kernel
theorem d_Modl_add_14 : decode b_Modl_add 14 = .ok (.getfield 60, 3) := by decide +kernel
theorem d_Modl_add_17 : decode b_Modl_add 17 = .ok (.bipush 100, 2) := by decide +kernel
theorem d_Modl_add_19 : decode b_Modl_add 19 = .ok (.if_icmp .eq 10, 3) := by decide +kernel
theorem d_Modl_add_22 : decode b_Modl_add 22 = .ok (.aload_n 0, 1) := by decide +kernel
theorem d_Modl_add_23 : decode b_Modl_add 23 = .ok (.getfield 63, 3) := by decide +kernel
theorem d_Modl_add_26 : decode b_Modl_add 26 = .ok (.ifCond .eq 7, 3) := by decide +kernel
theorem d_Modl_add_29 : decode b_Modl_add 29 = .ok (.iconst 2, 1) := by decide +kernel
theorem d_Modl_add_30 : decode b_Modl_add 30 = .ok (.goto 4, 3) := by decide +kernel
theorem d_Modl_add_33 : decode b_Modl_add 33 = .ok (.iconst 0, 1) := by decide +kernel
theorem d_Modl_add_34 : decode b_Modl_add 34 = .ok (.putfield 1, 3) := by decide +kernel
theorem d_Modl_add_37 : decode b_Modl_add 37 = .ok (.aload_n 0, 1) := by decide +kernel
theorem d_Modl_add_38 : decode b_Modl_add 38 = .ok (.getfield 1, 3) := by decide +kernel
theorem d_Modl_add_41 : decode b_Modl_add 41 = .ok (.ifCond .le 5, 3) := by decide +kernel
theorem d_Modl_add_44 : decode b_Modl_add 44 = .ok (.iconst 0, 1) := by decide +kernel
theorem d_Modl_add_45 : decode b_Modl_add 45 = .ok (.ireturn, 1) := by decide +kernel
theorem d_Modl_add_46 : decode b_Modl_add 46 = .ok (.aload_n 0, 1) := by decide +kernel
theorem d_Modl_add_47 : decode b_Modl_add 47 = .ok (.getfield 13, 3) := by decide +kernel
theorem d_Modl_add_50 : decode b_Modl_add 50 = .ok (.aload_n 0, 1) := by decide +kernel
theorem d_Modl_add_51 : decode b_Modl_add 51 = .ok (.getfield 60, 3) := by decide +kernel
theorem d_Modl_add_54 : decode b_Modl_add 54 = .ok (.iload_n 1, 1) := by decide +kernel
theorem d_Modl_add_55 : decode b_Modl_add 55 = .ok (.iastore, 1) := by decide +kernel
theorem d_Modl_add_56 : decode b_Modl_add 56 = .ok (.aload_n 0, 1) := by decide +kernel
theorem d_Modl_add_57 : decode b_Modl_add 57 = .ok (.getfield 17, 3) := by decide +kernel
theorem d_Modl_add_60 : decode b_Modl_add 60 = .ok (.aload_n 0, 1) := by decide +kernel
theorem d_Modl_add_61 : decode b_Modl_add 61 = .ok (.getfield 60, 3) := by decide +kernel
theorem d_Modl_add_64 : decode b_Modl_add 64 = .ok (.iload_n 2, 1) := by decide +kernel
theorem d_Modl_add_65 : decode b_Modl_add 65 = .ok (.iastore, 1) := by decide +kernel
theorem d_Modl_add_66 : decode b_Modl_add 66 = .ok (.aload_n 0, 1) := by decide +kernel
theorem d_Modl_add_67 : decode b_Modl_add 67 = .ok (.dup, 1) := by decide +kernel
theorem d_Modl_add_68 : decode b_Modl_add 68 = .ok (.getfield 60, 3) := by decide +kernel
theorem d_Modl_add_71 : decode b_Modl_add 71 = .ok (.iconst 1, 1) := by decide +kernel
theorem d_Modl_add_72 : decode b_Modl_add 72 = .ok (.iadd, 1) := by decide +kernel
theorem d_Modl_add_73 : decode b_Modl_add 73 = .ok (.putfield 60, 3) := by decide +kernel
theorem d_Modl_add_76 : decode b_Modl_add 76 = .ok (.aload_n 0, 1) := by decide +kernel
theorem d_Modl_add_77 : decode b_Modl_add 77 = .ok (.getfield 60, 3) := by decide +kernel
theorem d_Modl_add_80 : decode b_Modl_add 80 = .ok (.ireturn, 1) := by decide +kernel
theorem d_Modl_give_0 : decode b_Modl_give 0 = .ok (.aload_n 0, 1) := by decide +kernel
theorem d_Modl_give_1 : decode b_Modl_give 1 = .ok (.iconst 0, 1) := by decide +kernel
theorem d_Modl_give_2 : decode b_Modl_give 2 = .ok (.putfield 1, 3) := by decide +kernel
theorem d_Modl_give_5 : decode b_Modl_give 5 = .ok (.iload_n 1, 1) := by decide +kernel
theorem d_Modl_give_6 : decode b_Modl_give 6 = .ok (.ifCond .lt 16, 3) := by decide +kernel
theorem d_Modl_give_9 : decode b_Modl_give 9 = .ok (.iload_n 1, 1) := by decide +kernel
theorem d_Modl_give_10 : decode b_Modl_give 10 = .ok (.iconst 4, 1) := by decide +kernel
theorem d_Modl_give_11 : decode b_Modl_give 11 = .ok (.if_icmp .ge 11, 3) := by decide +kernel
theorem d_Modl_give_14 : decode b_Modl_give 14 = .ok (.iload_n 2, 1) := by decide +kernel
theorem d_Modl_give_15 : decode b_Modl_give 15 = .ok (.i2l, 1) := by decide +kernel
theorem d_Modl_give_16 : decode b_Modl_give 16 = .ok (.invokestatic 52, 3) := by decide +kernel
theorem d_Modl_give_19 : decode b_Modl_give 19 = .ok (.ifCond .ne 5, 3) := by decide +kernel
theorem d_Modl_give_22 : decode b_Modl_give 22 = .ok (.iconst 0, 1) := by decide +kernel
theorem d_Modl_give_23 : decode b_Modl_give 23 = .ok (.ireturn, 1) := by decide +kernel
theorem d_Modl_give_24 : decode b_Modl_give 24 = .ok (.aload_n 0, 1) := by decide +kernel
theorem d_Modl_give_25 : decode b_Modl_give 25 = .ok (.getfield 20, 3) := by decide +kernel
theorem d_Modl_give_28 : decode b_Modl_give 28 = .ok (.iload_n 1, 1) := by decide +kernel
theorem d_Modl_give_29 : decode b_Modl_give 29 = .ok (.iload_n 2, 1) := by decide +kernel
theorem d_Modl_give_30 : decode b_Modl_give 30 = .ok (.iastore, 1) := by decide +kernel
theorem d_Modl_give_31 : decode b_Modl_give 31 = .ok (.iconst 1, 1) := by decide +kernel
theorem d_Modl_give_32 : decode b_Modl_give 32 = .ok (.ireturn, 1) := by decide +kernel
theorem d_Modl_flipAll_0 : decode b_Modl_flipAll 0 = .ok (.iconst 0, 1) := by decide +kernel
theorem d_Modl_flipAll_1 : decode b_Modl_flipAll 1 = .ok (.istore_n 2, 1) := by decide +kernel
theorem d_Modl_flipAll_2 : decode b_Modl_flipAll 2 = .ok (.iload_n 2, 1) := by decide +kernel
theorem d_Modl_flipAll_3 : decode b_Modl_flipAll 3 = .ok (.aload_n 0, 1) := by decide +kernel
theorem d_Modl_flipAll_4 : decode b_Modl_flipAll 4 = .ok (.getfield 67, 3) := by decide +kernel
theorem d_Modl_flipAll_7 : decode b_Modl_flipAll 7 = .ok (.if_icmp .ge 64, 3) := by decide +kernel
theorem d_Modl_flipAll_10 : decode b_Modl_flipAll 10 = .ok (.aload_n 0, 1) := by decide +kernel
theorem d_Modl_flipAll_11 : decode b_Modl_flipAll 11 = .ok (.getfield 42, 3) := by decide +kernel
theorem d_Modl_flipAll_14 : decode b_Modl_flipAll 14 = .ok (.iload_n 2, 1) := by decide +kernel
theorem d_Modl_flipAll_15 : decode b_Modl_flipAll 15 = .ok (.iaload, 1) := by decide +kernel
theorem d_Modl_flipAll_16 : decode b_Modl_flipAll 16 = .ok (.iload_n 1, 1) := by decide +kernel
theorem d_Modl_flipAll_17 : decode b_Modl_flipAll 17 = .ok (.if_icmp .eq 6, 3) := by decide +kernel
theorem d_Modl_flipAll_20 : decode b_Modl_flipAll 20 = .ok (.goto 45, 3) := by decide +kernel
theorem d_Modl_flipAll_23 : decode b_Modl_flipAll 23 = .ok (.aload_n 0, 1) := by decide +kernel
theorem d_Modl_flipAll_24 : decode b_Modl_flipAll 24 = .ok (.getfield 26, 3) := by decide +kernel
theorem d_Modl_flipAll_27 : decode b_Modl_flipAll 27 = .ok (.bipush 18, 2) := by decide +kernel
theorem d_Modl_flipAll_29 : decode b_Modl_flipAll 29 = .ok (.aload_n 0, 1) := by decide +kernel
theorem d_Modl_flipAll_30 : decode b_Modl_flipAll 30 = .ok (.getfield 33, 3) := by decide +kernel
theorem d_Modl_flipAll_33 : decode b_Modl_flipAll 33 = .ok (.iload_n 2, 1) := by decide +kernel
theorem d_Modl_flipAll_34 : decode b_Modl_flipAll 34 = .ok (.iaload, 1) := by decide +kernel
theorem d_Modl_flipAll_35 : decode b_Modl_flipAll 35 = .ok (.imul, 1) := by decide +kernel
theorem d_Modl_flipAll_36 : decode b_Modl_flipAll 36 = .ok (.aload_n 0, 1) := by decide +kernel
theorem d_Modl_flipAll_37 : decode b_Modl_flipAll 37 = .ok (.getfield 36, 3) := by decide +kernel
theorem d_Modl_flipAll_40 : decode b_Modl_flipAll 40 = .ok (.iload_n 2, 1) := by decide +kernel
theorem d_Modl_flipAll_41 : decode b_Modl_flipAll 41 = .ok (.iaload, 1) := by decide +kernel
theorem d_Modl_flipAll_42 : decode b_Modl_flipAll 42 = .ok (.iadd, 1) := by decide +kernel
theorem d_Modl_flipAll_43 : decode b_Modl_flipAll 43 = .ok (.dup2, 1) := by decide +kernel
theorem d_Modl_flipAll_44 : decode b_Modl_flipAll 44 = .ok (.laload, 1) := by decide +kernel
theorem d_Modl_flipAll_45 : decode b_Modl_flipAll 45 = .ok (.lconst 1, 1) := by decide +kernel
theorem d_Modl_flipAll_46 : decode b_Modl_flipAll 46 = .ok (.aload_n 0, 1) := by decide +kernel
theorem d_Modl_flipAll_47 : decode b_Modl_flipAll 47 = .ok (.getfield 39, 3) := by decide +kernel
theorem d_Modl_flipAll_50 : decode b_Modl_flipAll 50 = .ok (.iload_n 2, 1) := by decide +kernel
theorem d_Modl_flipAll_51 : decode b_Modl_flipAll 51 = .ok (.iaload, 1) := by decide +kernel
theorem d_Modl_flipAll_52 : decode b_Modl_flipAll 52 = .ok (.lshl, 1) := by decide +kernel
theorem d_Modl_flipAll_53 : decode b_Modl_flipAll 53 = .ok (.lxor, 1) := by decide +kernel
theorem d_Modl_flipAll_54 : decode b_Modl_flipAll 54 = .ok (.lastore, 1) := by decide +kernel
theorem d_Modl_flipAll_55 : decode b_Modl_flipAll 55 = .ok (.aload_n 0, 1) := by decide +kernel
theorem d_Modl_flipAll_56 : decode b_Modl_flipAll 56 = .ok (.dup, 1) := by decide +kernel
theorem d_Modl_flipAll_57 : decode b_Modl_flipAll 57 = .ok (.getfield 70, 3) := by decide +kernel
theorem d_Modl_flipAll_60 : decode b_Modl_flipAll 60 = .ok (.iconst 1, 1) := by decide +kernel
theorem d_Modl_flipAll_61 : decode b_Modl_flipAll 61 = .ok (.iadd, 1) := by decide +kernel
theorem d_Modl_flipAll_62 : decode b_Modl_flipAll 62 = .ok (.putfield 70, 3) := by decide +kernel
theorem d_Modl_flipAll_65 : decode b_Modl_flipAll 65 = .ok (.iinc 2 1, 3) := by decide +kernel
theorem d_Modl_flipAll_68 : decode b_Modl_flipAll 68 = .ok (.goto (-66), 3) := by decide +kernel
theorem d_Modl_flipAll_71 : decode b_Modl_flipAll 71 = .ok (.return_, 1) := by decide +kernel
theorem d_Modl_times_0 : decode b_Modl_times 0 = .ok (.iload_n 1, 1) := by decide +kernel
theorem d_Modl_times_1 : decode b_Modl_times 1 = .ok (.ifCond .ne 7, 3) := by decide +kernel
theorem d_Modl_times_4 : decode b_Modl_times 4 = .ok (.lconst 1, 1) := by decide +kernel
theorem d_Modl_times_5 : decode b_Modl_times 5 = .ok (.goto 6, 3) := by decide +kernel
theorem d_Modl_times_8 : decode b_Modl_times 8 = .ok (.ldc2_w 73, 3) := by decide +kernel
theorem d_Modl_times_11 : decode b_Modl_times 11 = .ok (.lreturn, 1) := by decide +kernel
theorem d_Modl_may_0 : decode b_Modl_may 0 = .ok (.lload_n 2, 1) := by decide +kernel
theorem d_Modl_may_1 : decode b_Modl_may 1 = .ok (.ldc2_w 48, 3) := by decide +kernel
theorem d_Modl_may_4 : decode b_Modl_may 4 = .ok (.aload_n 0, 1) := by decide +kernel
theorem d_Modl_may_5 : decode b_Modl_may 5 = .ok (.iload_n 1, 1) := by decide +kernel
theorem d_Modl_may_6 : decode b_Modl_may 6 = .ok (.invokevirtual 75, 3) := by decide +kernel
theorem d_Modl_may_9 : decode b_Modl_may 9 = .ok (.lmul, 1) := by decide +kernel
theorem d_Modl_may_10 : decode b_Modl_may 10 = .ok (.lcmp, 1) := by decide +kernel
theorem d_Modl_may_11 : decode b_Modl_may 11 = .ok (.ifCond .lt 21, 3) := by decide +kernel
theorem d_Modl_may_14 : decode b_Modl_may 14 = .ok (.lload_n 2, 1) := by decide +kernel
theorem d_Modl_may_15 : decode b_Modl_may 15 = .ok (.ldc2_w 50, 3) := by decide +kernel
theorem d_Modl_may_18 : decode b_Modl_may 18 = .ok (.aload_n 0, 1) := by decide +kernel
theorem d_Modl_may_19 : decode b_Modl_may 19 = .ok (.iload_n 1, 1) := by decide +kernel
theorem d_Modl_may_20 : decode b_Modl_may 20 = .ok (.invokevirtual 75, 3) := by decide +kernel
theorem d_Modl_may_23 : decode b_Modl_may 23 = .ok (.lmul, 1) := by decide +kernel
theorem d_Modl_may_24 : decode b_Modl_may 24 = .ok (.lcmp, 1) := by decide +kernel
theorem d_Modl_may_25 : decode b_Modl_may 25 = .ok (.ifCond .gt 7, 3) := by decide +kernel
theorem d_Modl_may_28 : decode b_Modl_may 28 = .ok (.iconst 1, 1) := by decide +kernel
theorem d_Modl_may_29 : decode b_Modl_may 29 = .ok (.goto 4, 3) := by decide +kernel
theorem d_Modl_may_32 : decode b_Modl_may 32 = .ok (.iconst 0, 1) := by decide +kernel
theorem d_Modl_may_33 : decode b_Modl_may 33 = .ok (.ireturn, 1) := by decide +kernel
theorem d_Modl_copy_0 : decode b_Modl_copy 0 = .ok (.aload_n 0, 1) := by decide +kernel
theorem d_Modl_copy_1 : decode b_Modl_copy 1 = .ok (.getfield 26, 3) := by decide +kernel
theorem d_Modl_copy_4 : decode b_Modl_copy 4 = .ok (.bipush 18, 2) := by decide +kernel
theorem d_Modl_copy_6 : decode b_Modl_copy 6 = .ok (.iload_n 1, 1) := by decide +kernel
theorem d_Modl_copy_7 : decode b_Modl_copy 7 = .ok (.imul, 1) := by decide +kernel
theorem d_Modl_copy_8 : decode b_Modl_copy 8 = .ok (.bipush 16, 2) := by decide +kernel
theorem d_Modl_copy_10 : decode b_Modl_copy 10 = .ok (.iadd, 1) := by decide +kernel
theorem d_Modl_copy_11 : decode b_Modl_copy 11 = .ok (.lconst 0, 1) := by decide +kernel
theorem d_Modl_copy_12 : decode b_Modl_copy 12 = .ok (.lastore, 1) := by decide +kernel
theorem d_Modl_copy_13 : decode b_Modl_copy 13 = .ok (.aload_n 0, 1) := by decide +kernel
theorem d_Modl_copy_14 : decode b_Modl_copy 14 = .ok (.getfield 26, 3) := by decide +kernel
theorem d_Modl_copy_17 : decode b_Modl_copy 17 = .ok (.bipush 18, 2) := by decide +kernel
theorem d_Modl_copy_19 : decode b_Modl_copy 19 = .ok (.iload_n 1, 1) := by decide +kernel
theorem d_Modl_copy_20 : decode b_Modl_copy 20 = .ok (.imul, 1) := by decide +kernel
theorem d_Modl_copy_21 : decode b_Modl_copy 21 = .ok (.bipush 17, 2) := by decide +kernel
theorem d_Modl_copy_23 : decode b_Modl_copy 23 = .ok (.iadd, 1) := by decide +kernel
theorem d_Modl_copy_24 : decode b_Modl_copy 24 = .ok (.lconst 0, 1) := by decide +kernel
theorem d_Modl_copy_25 : decode b_Modl_copy 25 = .ok (.lastore, 1) := by decide +kernel
theorem d_Modl_copy_26 : decode b_Modl_copy 26 = .ok (.aload_n 0, 1) := by decide +kernel
theorem d_Modl_copy_27 : decode b_Modl_copy 27 = .ok (.iconst 0, 1) := by decide +kernel
theorem d_Modl_copy_28 : decode b_Modl_copy 28 = .ok (.putfield 83, 3) := by decide +kernel
theorem d_Modl_copy_31 : decode b_Modl_copy 31 = .ok (.aload_n 0, 1) := by decide +kernel
theorem d_Modl_copy_32 : decode b_Modl_copy 32 = .ok (.iconst 0, 1) := by decide +kernel
theorem d_Modl_copy_33 : decode b_Modl_copy 33 = .ok (.putfield 86, 3) := by decide +kernel
theorem d_Modl_copy_36 : decode b_Modl_copy 36 = .ok (.iconst 1, 1) := by decide +kernel
theorem d_Modl_copy_37 : decode b_Modl_copy 37 = .ok (.istore_n 2, 1) := by decide +kernel
theorem d_Modl_copy_38 : decode b_Modl_copy 38 = .ok (.iload_n 2, 1) := by decide +kernel
theorem d_Modl_copy_39 : decode b_Modl_copy 39 = .ok (.aload_n 0, 1) := by decide +kernel
theorem d_Modl_copy_40 : decode b_Modl_copy 40 = .ok (.getfield 45, 3) := by decide +kernel
theorem d_Modl_copy_43 : decode b_Modl_copy 43 = .ok (.if_icmp .gt 81, 3) := by decide +kernel
theorem d_Modl_copy_46 : decode b_Modl_copy 46 = .ok (.aload_n 0, 1) := by decide +kernel
theorem d_Modl_copy_47 : decode b_Modl_copy 47 = .ok (.aload_n 0, 1) := by decide +kernel
theorem d_Modl_copy_48 : decode b_Modl_copy 48 = .ok (.getfield 95, 3) := by decide +kernel
theorem d_Modl_copy_51 : decode b_Modl_copy 51 = .ok (.invokevirtual 98, 3) := by decide +kernel
theorem d_Modl_copy_54 : decode b_Modl_copy 54 = .ok (.aload_n 0, 1) := by decide +kernel
theorem d_Modl_copy_55 : decode b_Modl_copy 55 = .ok (.dup, 1) := by decide +kernel
theorem d_Modl_copy_56 : decode b_Modl_copy 56 = .ok (.getfield 95, 3) := by decide +kernel
theorem d_Modl_copy_59 : decode b_Modl_copy 59 = .ok (.iconst 1, 1) := by decide +kernel
theorem d_Modl_copy_60 : decode b_Modl_copy 60 = .ok (.iadd, 1) := by decide +kernel
theorem d_Modl_copy_61 : decode b_Modl_copy 61 = .ok (.putfield 95, 3) := by decide +kernel
theorem d_Modl_copy_64 : decode b_Modl_copy 64 = .ok (.aload_n 0, 1) := by decide +kernel
theorem d_Modl_copy_65 : decode b_Modl_copy 65 = .ok (.getfield 83, 3) := by decide +kernel
theorem d_Modl_copy_68 : decode b_Modl_copy 68 = .ok (.istore_n 3, 1) := by decide +kernel
theorem d_Modl_copy_69 : decode b_Modl_copy 69 = .ok (.aload_n 0, 1) := by decide +kernel
theorem d_Modl_copy_70 : decode b_Modl_copy 70 = .ok (.dup, 1) := by decide +kernel
theorem d_Modl_copy_71 : decode b_Modl_copy 71 = .ok (.getfield 83, 3) := by decide +kernel
theorem d_Modl_copy_74 : decode b_Modl_copy 74 = .ok (.iconst 1, 1) := by decide +kernel
theorem d_Modl_copy_75 : decode b_Modl_copy 75 = .ok (.iadd, 1) := by decide +kernel
theorem d_Modl_copy_76 : decode b_Modl_copy 76 = .ok (.putfield 83, 3) := by decide +kernel
theorem d_Modl_copy_79 : decode b_Modl_copy 79 = .ok (.iload_n 3, 1) := by decide +kernel
theorem d_Modl_copy_80 : decode b_Modl_copy 80 = .ok (.aload_n 0, 1) := by decide +kernel
theorem d_Modl_copy_81 : decode b_Modl_copy 81 = .ok (.getfield 60, 3) := by decide +kernel
theorem d_Modl_copy_84 : decode b_Modl_copy 84 = .ok (.if_icmp .ge 23, 3) := by decide +kernel
theorem d_Modl_copy_87 : decode b_Modl_copy 87 = .ok (.aload_n 0, 1) := by decide +kernel
theorem d_Modl_copy_88 : decode b_Modl_copy 88 = .ok (.iload_n 1, 1) := by decide +kernel
theorem d_Modl_copy_89 : decode b_Modl_copy 89 = .ok (.aload_n 0, 1) := by decide +kernel
theorem d_Modl_copy_90 : decode b_Modl_copy 90 = .ok (.getfield 13, 3) := by decide +kernel
theorem d_Modl_copy_93 : decode b_Modl_copy 93 = .ok (.iload_n 3, 1) := by decide +kernel
theorem d_Modl_copy_94 : decode b_Modl_copy 94 = .ok (.iaload, 1) := by decide +kernel
theorem d_Modl_copy_95 : decode b_Modl_copy 95 = .ok (.aload_n 0, 1) := by decide +kernel
theorem d_Modl_copy_96 : decode b_Modl_copy 96 = .ok (.getfield 17, 3) := by decide +kernel
theorem d_Modl_copy_99 : decode b_Modl_copy 99 = .ok (.iload_n 3, 1) := by decide +kernel
theorem d_Modl_copy_100 : decode b_Modl_copy 100 = .ok (.iaload, 1) := by decide +kernel
theorem d_Modl_copy_101 : decode b_Modl_copy 101 = .ok (.invokevirtual 102, 3) := by decide +kernel
theorem d_Modl_copy_104 : decode b_Modl_copy 104 = .ok (.ifCond .ne 5, 3) := by decide +kernel
theorem d_Modl_copy_107 : decode b_Modl_copy 107 = .ok (.iconst 1, 1) := by decide +kernel
theorem d_Modl_copy_108 : decode b_Modl_copy 108 = .ok (.ireturn, 1) := by decide +kernel
theorem d_Modl_copy_109 : decode b_Modl_copy 109 = .ok (.aload_n 0, 1) := by decide +kernel
theorem d_Modl_copy_110 : decode b_Modl_copy 110 = .ok (.getfield 86, 3) := by decide +kernel
theorem d_Modl_copy_113 : decode b_Modl_copy 113 = .ok (.ifCond .eq 5, 3) := by decide +kernel
theorem d_Modl_copy_116 : decode b_Modl_copy 116 = .ok (.iconst 0, 1) := by decide +kernel
theorem d_Modl_copy_117 : decode b_Modl_copy 117 = .ok (.ireturn, 1) := by decide +kernel
theorem d_Modl_copy_118 : decode b_Modl_copy 118 = .ok (.iinc 2 1, 3) := by decide +kernel
theorem d_Modl_copy_121 : decode b_Modl_copy 121 = .ok (.goto (-83), 3) := by decide +kernel
theorem d_Modl_copy_124 : decode b_Modl_copy 124 = .ok (.iconst 2, 1) := by decide +kernel
theorem d_Modl_copy_125 : decode b_Modl_copy 125 = .ok (.ireturn, 1) := by decide +kernel
theorem d_Modl_agree_0 : decode b_Modl_agree 0 = .ok (.iconst 0, 1) := by decide +kernel
theorem d_Modl_agree_1 : decode b_Modl_agree 1 = .ok (.istore_n 1, 1) := by decide +kernel
theorem d_Modl_agree_2 : decode b_Modl_agree 2 = .ok (.iload_n 1, 1) := by decide +kernel
theorem d_Modl_agree_3 : decode b_Modl_agree 3 = .ok (.iconst 4, 1) := by decide +kernel
theorem d_Modl_agree_4 : decode b_Modl_agree 4 = .ok (.if_icmp .ge 51, 3) := by decide +kernel
theorem d_Modl_agree_7 : decode b_Modl_agree 7 = .ok (.aload_n 0, 1) := by decide +kernel
theorem d_Modl_agree_8 : decode b_Modl_agree 8 = .ok (.getfield 30, 3) := by decide +kernel
theorem d_Modl_agree_11 : decode b_Modl_agree 11 = .ok (.iconst 4, 1) := by decide +kernel
theorem d_Modl_agree_12 : decode b_Modl_agree 12 = .ok (.iload_n 1, 1) := by decide +kernel
theorem d_Modl_agree_13 : decode b_Modl_agree 13 = .ok (.iadd, 1) := by decide +kernel
theorem d_Modl_agree_14 : decode b_Modl_agree 14 = .ok (.laload, 1) := by decide +kernel
theorem d_Modl_agree_15 : decode b_Modl_agree 15 = .ok (.ldc2_w 73, 3) := by decide +kernel
theorem d_Modl_agree_18 : decode b_Modl_agree 18 = .ok (.aload_n 0, 1) := by decide +kernel
theorem d_Modl_agree_19 : decode b_Modl_agree 19 = .ok (.getfield 30, 3) := by decide +kernel
theorem d_Modl_agree_22 : decode b_Modl_agree 22 = .ok (.iload_n 1, 1) := by decide +kernel
theorem d_Modl_agree_23 : decode b_Modl_agree 23 = .ok (.laload, 1) := by decide +kernel
theorem d_Modl_agree_24 : decode b_Modl_agree 24 = .ok (.lmul, 1) := by decide +kernel
theorem d_Modl_agree_25 : decode b_Modl_agree 25 = .ok (.lcmp, 1) := by decide +kernel
theorem d_Modl_agree_26 : decode b_Modl_agree 26 = .ok (.ifCond .ne 21, 3) := by decide +kernel
theorem d_Modl_agree_29 : decode b_Modl_agree 29 = .ok (.aload_n 0, 1) := by decide +kernel
theorem d_Modl_agree_30 : decode b_Modl_agree 30 = .ok (.getfield 30, 3) := by decide +kernel
theorem d_Modl_agree_33 : decode b_Modl_agree 33 = .ok (.iload_n 1, 1) := by decide +kernel
theorem d_Modl_agree_34 : decode b_Modl_agree 34 = .ok (.laload, 1) := by decide +kernel
theorem d_Modl_agree_35 : decode b_Modl_agree 35 = .ok (.aload_n 0, 1) := by decide +kernel
theorem d_Modl_agree_36 : decode b_Modl_agree 36 = .ok (.getfield 30, 3) := by decide +kernel
theorem d_Modl_agree_39 : decode b_Modl_agree 39 = .ok (.iload_n 1, 1) := by decide +kernel
theorem d_Modl_agree_40 : decode b_Modl_agree 40 = .ok (.laload, 1) := by decide +kernel
theorem d_Modl_agree_41 : decode b_Modl_agree 41 = .ok (.l2i, 1) := by decide +kernel
theorem d_Modl_agree_42 : decode b_Modl_agree 42 = .ok (.i2l, 1) := by decide +kernel
theorem d_Modl_agree_43 : decode b_Modl_agree 43 = .ok (.lcmp, 1) := by decide +kernel
theorem d_Modl_agree_44 : decode b_Modl_agree 44 = .ok (.ifCond .eq 5, 3) := by decide +kernel
theorem d_Modl_agree_47 : decode b_Modl_agree 47 = .ok (.iconst 0, 1) := by decide +kernel
theorem d_Modl_agree_48 : decode b_Modl_agree 48 = .ok (.ireturn, 1) := by decide +kernel
theorem d_Modl_agree_49 : decode b_Modl_agree 49 = .ok (.iinc 1 1, 3) := by decide +kernel
theorem d_Modl_agree_52 : decode b_Modl_agree 52 = .ok (.goto (-50), 3) := by decide +kernel
theorem d_Modl_agree_55 : decode b_Modl_agree 55 = .ok (.iconst 1, 1) := by decide +kernel
theorem d_Modl_agree_56 : decode b_Modl_agree 56 = .ok (.ireturn, 1) := by decide +kernel
theorem d_Modl_cycle_0 : decode b_Modl_cycle 0 = .ok (.aload_n 0, 1) := by decide +kernel
theorem d_Modl_cycle_1 : decode b_Modl_cycle 1 = .ok (.iconst 0, 1) := by decide +kernel
theorem d_Modl_cycle_2 : decode b_Modl_cycle 2 = .ok (.putfield 1, 3) := by decide +kernel
theorem d_Modl_cycle_5 : decode b_Modl_cycle 5 = .ok (.aload_n 0, 1) := by decide +kernel
theorem d_Modl_cycle_6 : decode b_Modl_cycle 6 = .ok (.getfield 106, 3) := by decide +kernel
theorem d_Modl_cycle_9 : decode b_Modl_cycle 9 = .ok (.ifCond .le 5, 3) := by decide +kernel
theorem d_Modl_cycle_12 : decode b_Modl_cycle 12 = .ok (.iconst 0, 1) := by decide +kernel
theorem d_Modl_cycle_13 : decode b_Modl_cycle 13 = .ok (.ireturn, 1) := by decide +kernel
theorem d_Modl_cycle_14 : decode b_Modl_cycle 14 = .ok (.aload_n 0, 1) := by decide +kernel
theorem d_Modl_cycle_15 : decode b_Modl_cycle 15 = .ok (.iconst 1, 1) := by decide +kernel
theorem d_Modl_cycle_16 : decode b_Modl_cycle 16 = .ok (.putfield 63, 3) := by decide +kernel
theorem d_Modl_cycle_19 : decode b_Modl_cycle 19 = .ok (.aload_n 0, 1) := by decide +kernel
theorem d_Modl_cycle_20 : decode b_Modl_cycle 20 = .ok (.iconst 0, 1) := by decide +kernel
theorem d_Modl_cycle_21 : decode b_Modl_cycle 21 = .ok (.putfield 95, 3) := by decide +kernel
theorem d_Modl_cycle_24 : decode b_Modl_cycle 24 = .ok (.iconst 0, 1) := by decide +kernel
theorem d_Modl_cycle_25 : decode b_Modl_cycle 25 = .ok (.istore_n 1, 1) := by decide +kernel
theorem d_Modl_cycle_26 : decode b_Modl_cycle 26 = .ok (.iload_n 1, 1) := by decide +kernel
theorem d_Modl_cycle_27 : decode b_Modl_cycle 27 = .ok (.bipush 8, 2) := by decide +kernel
theorem d_Modl_cycle_29 : decode b_Modl_cycle 29 = .ok (.if_icmp .ge 16, 3) := by decide +kernel
theorem d_Modl_cycle_32 : decode b_Modl_cycle 32 = .ok (.aload_n 0, 1) := by decide +kernel
theorem d_Modl_cycle_33 : decode b_Modl_cycle 33 = .ok (.getfield 30, 3) := by decide +kernel
theorem d_Modl_cycle_36 : decode b_Modl_cycle 36 = .ok (.iload_n 1, 1) := by decide +kernel
theorem d_Modl_cycle_37 : decode b_Modl_cycle 37 = .ok (.lconst 0, 1) := by decide +kernel
theorem d_Modl_cycle_38 : decode b_Modl_cycle 38 = .ok (.lastore, 1) := by decide +kernel
theorem d_Modl_cycle_39 : decode b_Modl_cycle 39 = .ok (.iinc 1 1, 3) := by decide +kernel
theorem d_Modl_cycle_42 : decode b_Modl_cycle 42 = .ok (.goto (-16), 3) := by decide +kernel
theorem d_Modl_cycle_45 : decode b_Modl_cycle 45 = .ok (.aload_n 0, 1) := by decide +kernel
theorem d_Modl_cycle_46 : decode b_Modl_cycle 46 = .ok (.aload_n 0, 1) := by decide +kernel
theorem d_Modl_cycle_47 : decode b_Modl_cycle 47 = .ok (.iconst 0, 1) := by decide +kernel
theorem d_Modl_cycle_48 : decode b_Modl_cycle 48 = .ok (.invokevirtual 109, 3) := by decide +kernel
theorem d_Modl_cycle_51 : decode b_Modl_cycle 51 = .ok (.putfield 106, 3) := by decide +kernel
theorem d_Modl_cycle_54 : decode b_Modl_cycle 54 = .ok (.aload_n 0, 1) := by decide +kernel
theorem d_Modl_cycle_55 : decode b_Modl_cycle 55 = .ok (.getfield 106, 3) := by decide +kernel
theorem d_Modl_cycle_58 : decode b_Modl_cycle 58 = .ok (.ifCond .ne 12, 3) := by decide +kernel
theorem d_Modl_cycle_61 : decode b_Modl_cycle 61 = .ok (.aload_n 0, 1) := by decide +kernel
theorem d_Modl_cycle_62 : decode b_Modl_cycle 62 = .ok (.aload_n 0, 1) := by decide +kernel
theorem d_Modl_cycle_63 : decode b_Modl_cycle 63 = .ok (.iconst 1, 1) := by decide +kernel
theorem d_Modl_cycle_64 : decode b_Modl_cycle 64 = .ok (.invokevirtual 109, 3) := by decide +kernel
theorem d_Modl_cycle_67 : decode b_Modl_cycle 67 = .ok (.putfield 106, 3) := by decide +kernel
theorem d_Modl_cycle_70 : decode b_Modl_cycle 70 = .ok (.aload_n 0, 1) := by decide +kernel
theorem d_Modl_cycle_71 : decode b_Modl_cycle 71 = .ok (.getfield 106, 3) := by decide +kernel
theorem d_Modl_cycle_74 : decode b_Modl_cycle 74 = .ok (.ifCond .ne 15, 3) := by decide +kernel
theorem d_Modl_cycle_77 : decode b_Modl_cycle 77 = .ok (.aload_n 0, 1) := by decide +kernel
theorem d_Modl_cycle_78 : decode b_Modl_cycle 78 = .ok (.invokevirtual 113, 3) := by decide +kernel
theorem d_Modl_cycle_81 : decode b_Modl_cycle 81 = .ok (.ifCond .ne 8, 3) := by decide +kernel
theorem d_Modl_cycle_84 : decode b_Modl_cycle 84 = .ok (.aload_n 0, 1) := by decide +kernel
theorem d_Modl_cycle_85 : decode b_Modl_cycle 85 = .ok (.iconst 3, 1) := by decide +kernel
theorem d_Modl_cycle_86 : decode b_Modl_cycle 86 = .ok (.putfield 106, 3) := by decide +kernel
theorem d_Modl_cycle_89 : decode b_Modl_cycle 89 = .ok (.aload_n 0, 1) := by decide +kernel
theorem d_Modl_cycle_90 : decode b_Modl_cycle 90 = .ok (.iconst 0, 1) := by decide +kernel
theorem d_Modl_cycle_91 : decode b_Modl_cycle 91 = .ok (.putfield 67, 3) := by decide +kernel
theorem d_Modl_cycle_94 : decode b_Modl_cycle 94 = .ok (.iconst 0, 1) := by decide +kernel
theorem d_Modl_cycle_95 : decode b_Modl_cycle 95 = .ok (.istore_n 1, 1) := by decide +kernel
theorem d_Modl_cycle_96 : decode b_Modl_cycle 96 = .ok (.iload_n 1, 1) := by decide +kernel
theorem d_Modl_cycle_97 : decode b_Modl_cycle 97 = .ok (.iconst 4, 1) := by decide +kernel
theorem d_Modl_cycle_98 : decode b_Modl_cycle 98 = .ok (.if_icmp .ge 33, 3) := by decide +kernel
theorem d_Modl_cycle_101 : decode b_Modl_cycle 101 = .ok (.aload_n 0, 1) := by decide +kernel
theorem d_Modl_cycle_102 : decode b_Modl_cycle 102 = .ok (.getfield 23, 3) := by decide +kernel
theorem d_Modl_cycle_105 : decode b_Modl_cycle 105 = .ok (.iload_n 1, 1) := by decide +kernel
theorem d_Modl_cycle_106 : decode b_Modl_cycle 106 = .ok (.aload_n 0, 1) := by decide +kernel
theorem d_Modl_cycle_107 : decode b_Modl_cycle 107 = .ok (.getfield 106, 3) := by decide +kernel
theorem d_Modl_cycle_110 : decode b_Modl_cycle 110 = .ok (.ifCond .le 7, 3) := by decide +kernel
theorem d_Modl_cycle_113 : decode b_Modl_cycle 113 = .ok (.iconst 0, 1) := by decide +kernel
theorem d_Modl_cycle_114 : decode b_Modl_cycle 114 = .ok (.goto 10, 3) := by decide +kernel
theorem d_Modl_cycle_117 : decode b_Modl_cycle 117 = .ok (.aload_n 0, 1) := by decide +kernel
theorem d_Modl_cycle_118 : decode b_Modl_cycle 118 = .ok (.getfield 30, 3) := by decide +kernel
theorem d_Modl_cycle_121 : decode b_Modl_cycle 121 = .ok (.iload_n 1, 1) := by decide +kernel
theorem d_Modl_cycle_122 : decode b_Modl_cycle 122 = .ok (.laload, 1) := by decide +kernel
theorem d_Modl_cycle_123 : decode b_Modl_cycle 123 = .ok (.l2i, 1) := by decide +kernel
theorem d_Modl_cycle_124 : decode b_Modl_cycle 124 = .ok (.iastore, 1) := by decide +kernel
theorem d_Modl_cycle_125 : decode b_Modl_cycle 125 = .ok (.iinc 1 1, 3) := by decide +kernel
theorem d_Modl_cycle_128 : decode b_Modl_cycle 128 = .ok (.goto (-32), 3) := by decide +kernel
theorem d_Modl_cycle_131 : decode b_Modl_cycle 131 = .ok (.aload_n 0, 1) := by decide +kernel
theorem d_Modl_cycle_132 : decode b_Modl_cycle 132 = .ok (.getfield 106, 3) := by decide +kernel
theorem d_Modl_cycle_135 : decode b_Modl_cycle 135 = .ok (.ifCond .le 5, 3) := by decide +kernel
theorem d_Modl_cycle_138 : decode b_Modl_cycle 138 = .ok (.iconst 0, 1) := by decide +kernel
theorem d_Modl_cycle_139 : decode b_Modl_cycle 139 = .ok (.ireturn, 1) := by decide +kernel
theorem d_Modl_cycle_140 : decode b_Modl_cycle 140 = .ok (.aload_n 0, 1) := by decide +kernel
theorem d_Modl_cycle_141 : decode b_Modl_cycle 141 = .ok (.dup, 1) := by decide +kernel
theorem d_Modl_cycle_142 : decode b_Modl_cycle 142 = .ok (.getfield 117, 3) := by decide +kernel
theorem d_Modl_cycle_145 : decode b_Modl_cycle 145 = .ok (.iconst 1, 1) := by decide +kernel
theorem d_Modl_cycle_146 : decode b_Modl_cycle 146 = .ok (.iadd, 1) := by decide +kernel
theorem d_Modl_cycle_147 : decode b_Modl_cycle 147 = .ok (.putfield 117, 3) := by decide +kernel
theorem d_Modl_cycle_150 : decode b_Modl_cycle 150 = .ok (.iconst 1, 1) := by decide +kernel
theorem d_Modl_cycle_151 : decode b_Modl_cycle 151 = .ok (.ireturn, 1) := by decide +kernel
theorem d_Modl_flip_0 : decode b_Modl_flip 0 = .ok (.aload_n 0, 1) := by decide +kernel
theorem d_Modl_flip_1 : decode b_Modl_flip 1 = .ok (.iconst 0, 1) := by decide +kernel
theorem d_Modl_flip_2 : decode b_Modl_flip 2 = .ok (.putfield 1, 3) := by decide +kernel
theorem d_Modl_flip_5 : decode b_Modl_flip 5 = .ok (.iload_n 1, 1) := by decide +kernel
theorem d_Modl_flip_6 : decode b_Modl_flip 6 = .ok (.ifCond .lt 48, 3) := by decide +kernel
theorem d_Modl_flip_9 : decode b_Modl_flip 9 = .ok (.iload_n 1, 1) := by decide +kernel
theorem d_Modl_flip_10 : decode b_Modl_flip 10 = .ok (.iconst 1, 1) := by decide +kernel
theorem d_Modl_flip_11 : decode b_Modl_flip 11 = .ok (.if_icmp .gt 43, 3) := by decide +kernel
theorem d_Modl_flip_14 : decode b_Modl_flip 14 = .ok (.iload_n 2, 1) := by decide +kernel
theorem d_Modl_flip_15 : decode b_Modl_flip 15 = .ok (.ifCond .lt 39, 3) := by decide +kernel
theorem d_Modl_flip_18 : decode b_Modl_flip 18 = .ok (.iload_n 2, 1) := by decide +kernel
theorem d_Modl_flip_19 : decode b_Modl_flip 19 = .ok (.bipush 17, 2) := by decide +kernel
theorem d_Modl_flip_21 : decode b_Modl_flip 21 = .ok (.if_icmp .gt 33, 3) := by decide +kernel
theorem d_Modl_flip_24 : decode b_Modl_flip 24 = .ok (.iload_n 3, 1) := by decide +kernel
theorem d_Modl_flip_25 : decode b_Modl_flip 25 = .ok (.ifCond .lt 29, 3) := by decide +kernel
theorem d_Modl_flip_28 : decode b_Modl_flip 28 = .ok (.iload_n 3, 1) := by decide +kernel
theorem d_Modl_flip_29 : decode b_Modl_flip 29 = .ok (.bipush 63, 2) := by decide +kernel
theorem d_Modl_flip_31 : decode b_Modl_flip 31 = .ok (.if_icmp .gt 23, 3) := by decide +kernel
theorem d_Modl_flip_34 : decode b_Modl_flip 34 = .ok (.iload 4, 2) := by decide +kernel
theorem d_Modl_flip_36 : decode b_Modl_flip 36 = .ok (.ifCond .lt 18, 3) := by decide +kernel
theorem d_Modl_flip_39 : decode b_Modl_flip 39 = .ok (.aload_n 0, 1) := by decide +kernel
theorem d_Modl_flip_40 : decode b_Modl_flip 40 = .ok (.getfield 106, 3) := by decide +kernel
theorem d_Modl_flip_43 : decode b_Modl_flip 43 = .ok (.ifCond .gt 11, 3) := by decide +kernel
theorem d_Modl_flip_46 : decode b_Modl_flip 46 = .ok (.aload_n 0, 1) := by decide +kernel
theorem d_Modl_flip_47 : decode b_Modl_flip 47 = .ok (.getfield 67, 3) := by decide +kernel
theorem d_Modl_flip_50 : decode b_Modl_flip 50 = .ok (.iconst 4, 1) := by decide +kernel
theorem d_Modl_flip_51 : decode b_Modl_flip 51 = .ok (.if_icmp .ne 5, 3) := by decide +kernel
theorem d_Modl_flip_54 : decode b_Modl_flip 54 = .ok (.iconst 0, 1) := by decide +kernel
theorem d_Modl_flip_55 : decode b_Modl_flip 55 = .ok (.ireturn, 1) := by decide +kernel
theorem d_Modl_flip_56 : decode b_Modl_flip 56 = .ok (.aload_n 0, 1) := by decide +kernel
theorem d_Modl_flip_57 : decode b_Modl_flip 57 = .ok (.getfield 33, 3) := by decide +kernel
theorem d_Modl_flip_60 : decode b_Modl_flip 60 = .ok (.aload_n 0, 1) := by decide +kernel
theorem d_Modl_flip_61 : decode b_Modl_flip 61 = .ok (.getfield 67, 3) := by decide +kernel
theorem d_Modl_flip_64 : decode b_Modl_flip 64 = .ok (.iload_n 1, 1) := by decide +kernel
theorem d_Modl_flip_65 : decode b_Modl_flip 65 = .ok (.iastore, 1) := by decide +kernel
theorem d_Modl_flip_66 : decode b_Modl_flip 66 = .ok (.aload_n 0, 1) := by decide +kernel
theorem d_Modl_flip_67 : decode b_Modl_flip 67 = .ok (.getfield 36, 3) := by decide +kernel
theorem d_Modl_flip_70 : decode b_Modl_flip 70 = .ok (.aload_n 0, 1) := by decide +kernel
theorem d_Modl_flip_71 : decode b_Modl_flip 71 = .ok (.getfield 67, 3) := by decide +kernel
theorem d_Modl_flip_74 : decode b_Modl_flip 74 = .ok (.iload_n 2, 1) := by decide +kernel
theorem d_Modl_flip_75 : decode b_Modl_flip 75 = .ok (.iastore, 1) := by decide +kernel
theorem d_Modl_flip_76 : decode b_Modl_flip 76 = .ok (.aload_n 0, 1) := by decide +kernel
theorem d_Modl_flip_77 : decode b_Modl_flip 77 = .ok (.getfield 39, 3) := by decide +kernel
theorem d_Modl_flip_80 : decode b_Modl_flip 80 = .ok (.aload_n 0, 1) := by decide +kernel
theorem d_Modl_flip_81 : decode b_Modl_flip 81 = .ok (.getfield 67, 3) := by decide +kernel
theorem d_Modl_flip_84 : decode b_Modl_flip 84 = .ok (.iload_n 3, 1) := by decide +kernel
theorem d_Modl_flip_85 : decode b_Modl_flip 85 = .ok (.iastore, 1) := by decide +kernel
theorem d_Modl_flip_86 : decode b_Modl_flip 86 = .ok (.aload_n 0, 1) := by decide +kernel
theorem d_Modl_flip_87 : decode b_Modl_flip 87 = .ok (.getfield 42, 3) := by decide +kernel
theorem d_Modl_flip_90 : decode b_Modl_flip 90 = .ok (.aload_n 0, 1) := by decide +kernel
theorem d_Modl_flip_91 : decode b_Modl_flip 91 = .ok (.getfield 67, 3) := by decide +kernel
theorem d_Modl_flip_94 : decode b_Modl_flip 94 = .ok (.iload 4, 2) := by decide +kernel
theorem d_Modl_flip_96 : decode b_Modl_flip 96 = .ok (.iastore, 1) := by decide +kernel
theorem d_Modl_flip_97 : decode b_Modl_flip 97 = .ok (.aload_n 0, 1) := by decide +kernel
theorem d_Modl_flip_98 : decode b_Modl_flip 98 = .ok (.dup, 1) := by decide +kernel
theorem d_Modl_flip_99 : decode b_Modl_flip 99 = .ok (.getfield 67, 3) := by decide +kernel
theorem d_Modl_flip_102 : decode b_Modl_flip 102 = .ok (.iconst 1, 1) := by decide +kernel
theorem d_Modl_flip_103 : decode b_Modl_flip 103 = .ok (.iadd, 1) := by decide +kernel
theorem d_Modl_flip_104 : decode b_Modl_flip 104 = .ok (.putfield 67, 3) := by decide +kernel
theorem d_Modl_flip_107 : decode b_Modl_flip 107 = .ok (.iconst 1, 1) := by decide +kernel
theorem d_Modl_flip_108 : decode b_Modl_flip 108 = .ok (.ireturn, 1) := by decide +kernel
theorem d_Modl_output_0 : decode b_Modl_output 0 = .ok (.aload_n 0, 1) := by decide +kernel
theorem d_Modl_output_1 : decode b_Modl_output 1 = .ok (.iconst 0, 1) := by decide +kernel
theorem d_Modl_output_2 : decode b_Modl_output 2 = .ok (.putfield 1, 3) := by decide +kernel
theorem d_Modl_output_5 : decode b_Modl_output 5 = .ok (.iload_n 1, 1) := by decide +kernel
theorem d_Modl_output_6 : decode b_Modl_output 6 = .ok (.ifCond .lt 8, 3) := by decide +kernel
theorem d_Modl_output_9 : decode b_Modl_output 9 = .ok (.iload_n 1, 1) := by decide +kernel
theorem d_Modl_output_10 : decode b_Modl_output 10 = .ok (.iconst 4, 1) := by decide +kernel
theorem d_Modl_output_11 : decode b_Modl_output 11 = .ok (.if_icmp .lt 7, 3) := by decide +kernel
theorem d_Modl_output_14 : decode b_Modl_output 14 = .ok (.iconst (-1), 1) := by decide +kernel
theorem d_Modl_output_15 : decode b_Modl_output 15 = .ok (.goto 9, 3) := by decide +kernel
theorem d_Modl_output_18 : decode b_Modl_output 18 = .ok (.aload_n 0, 1) := by decide +kernel
theorem d_Modl_output_19 : decode b_Modl_output 19 = .ok (.getfield 23, 3) := by decide +kernel
theorem d_Modl_output_22 : decode b_Modl_output 22 = .ok (.iload_n 1, 1) := by decide +kernel
theorem d_Modl_output_23 : decode b_Modl_output 23 = .ok (.iaload, 1) := by decide +kernel
theorem d_Modl_output_24 : decode b_Modl_output 24 = .ok (.ireturn, 1) := by decide +kernel
theorem d_Modl_cell_0 : decode b_Modl_cell 0 = .ok (.aload_n 0, 1) := by decide +kernel
theorem d_Modl_cell_1 : decode b_Modl_cell 1 = .ok (.iload_n 1, 1) := by decide +kernel
theorem d_Modl_cell_2 : decode b_Modl_cell 2 = .ok (.ifCond .lt 18, 3) := by decide +kernel
theorem d_Modl_cell_5 : decode b_Modl_cell 5 = .ok (.iload_n 1, 1) := by decide +kernel
theorem d_Modl_cell_6 : decode b_Modl_cell 6 = .ok (.iconst 1, 1) := by decide +kernel
theorem d_Modl_cell_7 : decode b_Modl_cell 7 = .ok (.if_icmp .gt 13, 3) := by decide +kernel
theorem d_Modl_cell_10 : decode b_Modl_cell 10 = .ok (.iload_n 2, 1) := by decide +kernel
theorem d_Modl_cell_11 : decode b_Modl_cell 11 = .ok (.ifCond .lt 9, 3) := by decide +kernel
theorem d_Modl_cell_14 : decode b_Modl_cell 14 = .ok (.iload_n 2, 1) := by decide +kernel
theorem d_Modl_cell_15 : decode b_Modl_cell 15 = .ok (.bipush 17, 2) := by decide +kernel
theorem d_Modl_cell_17 : decode b_Modl_cell 17 = .ok (.if_icmp .le 7, 3) := by decide +kernel
theorem d_Modl_cell_20 : decode b_Modl_cell 20 = .ok (.iconst 1, 1) := by decide +kernel
theorem d_Modl_cell_21 : decode b_Modl_cell 21 = .ok (.goto 4, 3) := by decide +kernel
theorem d_Modl_cell_24 : decode b_Modl_cell 24 = .ok (.iconst 0, 1) := by decide +kernel
theorem d_Modl_cell_25 : decode b_Modl_cell 25 = .ok (.putfield 1, 3) := by decide +kernel
theorem d_Modl_cell_28 : decode b_Modl_cell 28 = .ok (.aload_n 0, 1) := by decide +kernel
theorem d_Modl_cell_29 : decode b_Modl_cell 29 = .ok (.getfield 1, 3) := by decide +kernel
theorem d_Modl_cell_32 : decode b_Modl_cell 32 = .ok (.ifCond .le 7, 3) := by decide +kernel
theorem d_Modl_cell_35 : decode b_Modl_cell 35 = .ok (.lconst 0, 1) := by decide +kernel
theorem d_Modl_cell_36 : decode b_Modl_cell 36 = .ok (.goto 14, 3) := by decide +kernel
theorem d_Modl_cell_39 : decode b_Modl_cell 39 = .ok (.aload_n 0, 1) := by decide +kernel
theorem d_Modl_cell_40 : decode b_Modl_cell 40 = .ok (.getfield 26, 3) := by decide +kernel
theorem d_Modl_cell_43 : decode b_Modl_cell 43 = .ok (.bipush 18, 2) := by decide +kernel
theorem d_Modl_cell_45 : decode b_Modl_cell 45 = .ok (.iload_n 1, 1) := by decide +kernel
theorem d_Modl_cell_46 : decode b_Modl_cell 46 = .ok (.imul, 1) := by decide +kernel
theorem d_Modl_cell_47 : decode b_Modl_cell 47 = .ok (.iload_n 2, 1) := by decide +kernel
theorem d_Modl_cell_48 : decode b_Modl_cell 48 = .ok (.iadd, 1) := by decide +kernel
theorem d_Modl_cell_49 : decode b_Modl_cell 49 = .ok (.laload, 1) := by decide +kernel
theorem d_Modl_cell_50 : decode b_Modl_cell 50 = .ok (.lreturn, 1) := by decide +kernel
theorem d_Modl_count_0 : decode b_Modl_count 0 = .ok (.aload_n 0, 1) := by decide +kernel
theorem d_Modl_count_1 : decode b_Modl_count 1 = .ok (.iconst 0, 1) := by decide +kernel
theorem d_Modl_count_2 : decode b_Modl_count 2 = .ok (.putfield 1, 3) := by decide +kernel
theorem d_Modl_count_5 : decode b_Modl_count 5 = .ok (.iload_n 1, 1) := by decide +kernel
theorem d_Modl_count_6 : decode b_Modl_count 6 = .ok (.tableswitch 77 0 6 #[42, 47, 52, 57, 62, 67, 72], 42) := by decide +kernel
theorem d_Modl_count_48 : decode b_Modl_count 48 = .ok (.aload_n 0, 1) := by decide +kernel
theorem d_Modl_count_49 : decode b_Modl_count 49 = .ok (.getfield 60, 3) := by decide +kernel
theorem d_Modl_count_52 : decode b_Modl_count 52 = .ok (.ireturn, 1) := by decide +kernel
theorem d_Modl_count_53 : decode b_Modl_count 53 = .ok (.aload_n 0, 1) := by decide +kernel
theorem d_Modl_count_54 : decode b_Modl_count 54 = .ok (.getfield 117, 3) := by decide +kernel
theorem d_Modl_count_57 : decode b_Modl_count 57 = .ok (.ireturn, 1) := by decide +kernel
theorem d_Modl_count_58 : decode b_Modl_count 58 = .ok (.aload_n 0, 1) := by decide +kernel
theorem d_Modl_count_59 : decode b_Modl_count 59 = .ok (.getfield 106, 3) := by decide +kernel
theorem d_Modl_count_62 : decode b_Modl_count 62 = .ok (.ireturn, 1) := by decide +kernel
theorem d_Modl_count_63 : decode b_Modl_count 63 = .ok (.aload_n 0, 1) := by decide +kernel
theorem d_Modl_count_64 : decode b_Modl_count 64 = .ok (.getfield 95, 3) := by decide +kernel
theorem d_Modl_count_67 : decode b_Modl_count 67 = .ok (.ireturn, 1) := by decide +kernel
theorem d_Modl_count_68 : decode b_Modl_count 68 = .ok (.aload_n 0, 1) := by decide +kernel
theorem d_Modl_count_69 : decode b_Modl_count 69 = .ok (.getfield 67, 3) := by decide +kernel
theorem d_Modl_count_72 : decode b_Modl_count 72 = .ok (.ireturn, 1) := by decide +kernel
theorem d_Modl_count_73 : decode b_Modl_count 73 = .ok (.aload_n 0, 1) := by decide +kernel
theorem d_Modl_count_74 : decode b_Modl_count 74 = .ok (.getfield 70, 3) := by decide +kernel
theorem d_Modl_count_77 : decode b_Modl_count 77 = .ok (.ireturn, 1) := by decide +kernel
theorem d_Modl_count_78 : decode b_Modl_count 78 = .ok (.aload_n 0, 1) := by decide +kernel
theorem d_Modl_count_79 : decode b_Modl_count 79 = .ok (.getfield 45, 3) := by decide +kernel
theorem d_Modl_count_82 : decode b_Modl_count 82 = .ok (.ireturn, 1) := by decide +kernel
theorem d_Modl_count_83 : decode b_Modl_count 83 = .ok (.iconst (-1), 1) := by decide +kernel
theorem d_Modl_count_84 : decode b_Modl_count 84 = .ok (.ireturn, 1) := by decide +kernel
