theorem d_Gate_init_0 : decode b_Gate_init 0 = .ok (.aload_n 0, 1) := by decide +kernel
theorem d_Gate_init_1 : decode b_Gate_init 1 = .ok (.invokespecial 1, 3) := by decide +kernel
theorem d_Gate_init_4 : decode b_Gate_init 4 = .ok (.aload_n 0, 1) := by decide +kernel
theorem d_Gate_init_5 : decode b_Gate_init 5 = .ok (.new 7, 3) := by decide +kernel
theorem d_Gate_init_8 : decode b_Gate_init 8 = .ok (.dup, 1) := by decide +kernel
theorem d_Gate_init_9 : decode b_Gate_init 9 = .ok (.invokespecial 9, 3) := by decide +kernel
theorem d_Gate_init_12 : decode b_Gate_init 12 = .ok (.putfield 10, 3) := by decide +kernel
theorem d_Gate_init_15 : decode b_Gate_init 15 = .ok (.aload_n 0, 1) := by decide +kernel
theorem d_Gate_init_16 : decode b_Gate_init 16 = .ok (.new 16, 3) := by decide +kernel
theorem d_Gate_init_19 : decode b_Gate_init 19 = .ok (.dup, 1) := by decide +kernel
theorem d_Gate_init_20 : decode b_Gate_init 20 = .ok (.lconst 1, 1) := by decide +kernel
theorem d_Gate_init_21 : decode b_Gate_init 21 = .ok (.invokespecial 18, 3) := by decide +kernel
theorem d_Gate_init_24 : decode b_Gate_init 24 = .ok (.putfield 21, 3) := by decide +kernel
theorem d_Gate_init_27 : decode b_Gate_init 27 = .ok (.aload_n 0, 1) := by decide +kernel
theorem d_Gate_init_28 : decode b_Gate_init 28 = .ok (.new 16, 3) := by decide +kernel
theorem d_Gate_init_31 : decode b_Gate_init 31 = .ok (.dup, 1) := by decide +kernel
theorem d_Gate_init_32 : decode b_Gate_init 32 = .ok (.ldc2_w 25, 3) := by decide +kernel
theorem d_Gate_init_35 : decode b_Gate_init 35 = .ok (.invokespecial 18, 3) := by decide +kernel
theorem d_Gate_init_38 : decode b_Gate_init 38 = .ok (.putfield 27, 3) := by decide +kernel
theorem d_Gate_init_41 : decode b_Gate_init 41 = .ok (.aload_n 0, 1) := by decide +kernel
theorem d_Gate_init_42 : decode b_Gate_init 42 = .ok (.new 30, 3) := by decide +kernel
theorem d_Gate_init_45 : decode b_Gate_init 45 = .ok (.dup, 1) := by decide +kernel
theorem d_Gate_init_46 : decode b_Gate_init 46 = .ok (.invokespecial 32, 3) := by decide +kernel
theorem d_Gate_init_49 : decode b_Gate_init 49 = .ok (.putfield 33, 3) := by decide +kernel
theorem d_Gate_init_52 : decode b_Gate_init 52 = .ok (.aload_n 0, 1) := by decide +kernel
theorem d_Gate_init_53 : decode b_Gate_init 53 = .ok (.iconst 4, 1) := by decide +kernel
theorem d_Gate_init_54 : decode b_Gate_init 54 = .ok (.newarray .int, 2) := by decide +kernel
theorem d_Gate_init_56 : decode b_Gate_init 56 = .ok (.putfield 37, 3) := by decide +kernel
theorem d_Gate_init_59 : decode b_Gate_init 59 = .ok (.aload_n 0, 1) := by decide +kernel
theorem d_Gate_init_60 : decode b_Gate_init 60 = .ok (.iconst 4, 1) := by decide +kernel
theorem d_Gate_init_61 : decode b_Gate_init 61 = .ok (.newarray .int, 2) := by decide +kernel
theorem d_Gate_init_63 : decode b_Gate_init 63 = .ok (.putfield 41, 3) := by decide +kernel
theorem d_Gate_init_66 : decode b_Gate_init 66 = .ok (.aload_n 0, 1) := by decide +kernel
theorem d_Gate_init_67 : decode b_Gate_init 67 = .ok (.iconst 0, 1) := by decide +kernel
theorem d_Gate_init_68 : decode b_Gate_init 68 = .ok (.putfield 44, 3) := by decide +kernel
theorem d_Gate_init_71 : decode b_Gate_init 71 = .ok (.aload_n 0, 1) := by decide +kernel
theorem d_Gate_init_72 : decode b_Gate_init 72 = .ok (.iconst 0, 1) := by decide +kernel
theorem d_Gate_init_73 : decode b_Gate_init 73 = .ok (.putfield 48, 3) := by decide +kernel
theorem d_Gate_init_76 : decode b_Gate_init 76 = .ok (.aload_n 0, 1) := by decide +kernel
theorem d_Gate_init_77 : decode b_Gate_init 77 = .ok (.iconst 0, 1) := by decide +kernel
theorem d_Gate_init_78 : decode b_Gate_init 78 = .ok (.putfield 52, 3) := by decide +kernel
theorem d_Gate_init_81 : decode b_Gate_init 81 = .ok (.aload_n 0, 1) := by decide +kernel
theorem d_Gate_init_82 : decode b_Gate_init 82 = .ok (.iconst 0, 1) := by decide +kernel
theorem d_Gate_init_83 : decode b_Gate_init 83 = .ok (.putfield 55, 3) := by decide +kernel
theorem d_Gate_init_86 : decode b_Gate_init 86 = .ok (.aload_n 0, 1) := by decide +kernel
theorem d_Gate_init_87 : decode b_Gate_init 87 = .ok (.iconst 0, 1) := by decide +kernel
theorem d_Gate_init_88 : decode b_Gate_init 88 = .ok (.putfield 58, 3) := by decide +kernel
theorem d_Gate_init_91 : decode b_Gate_init 91 = .ok (.aload_n 0, 1) := by decide +kernel
theorem d_Gate_init_92 : decode b_Gate_init 92 = .ok (.iconst 1, 1) := by decide +kernel
theorem d_Gate_init_93 : decode b_Gate_init 93 = .ok (.sipush 5000, 3) := by decide +kernel
theorem d_Gate_init_96 : decode b_Gate_init 96 = .ok (.iload_n 1, 1) := by decide +kernel
theorem d_Gate_init_97 : decode b_Gate_init 97 = .ok (.invokestatic 61, 3) := by decide +kernel
theorem d_Gate_init_100 : decode b_Gate_init 100 = .ok (.invokestatic 67, 3) := by decide +kernel
theorem d_Gate_init_103 : decode b_Gate_init 103 = .ok (.putfield 70, 3) := by decide +kernel
theorem d_Gate_init_106 : decode b_Gate_init 106 = .ok (.return_, 1) := by decide +kernel
theorem d_Gate_add_0 : decode b_Gate_add 0 = .ok (.iload_n 1, 1) := by decide +kernel
theorem d_Gate_add_1 : decode b_Gate_add 1 = .ok (.iload_n 2, 1) := by decide +kernel
theorem d_Gate_add_2 : decode b_Gate_add 2 = .ok (.invokestatic 73, 3) := by decide +kernel
theorem d_Gate_add_5 : decode b_Gate_add 5 = .ok (.ifCond .ne 13, 3) := by decide +kernel
theorem d_Gate_add_8 : decode b_Gate_add 8 = .ok (.new 77, 3) := by decide +kernel
theorem d_Gate_add_11 : decode b_Gate_add 11 = .ok (.dup, 1) := by decide +kernel
theorem d_Gate_add_12 : decode b_Gate_add 12 = .ok (.ldc 79, 2) := by decide +kernel
theorem d_Gate_add_14 : decode b_Gate_add 14 = .ok (.invokespecial 81, 3) := by decide +kernel
theorem d_Gate_add_17 : decode b_Gate_add 17 = .ok (.athrow, 1) := by decide +kernel
theorem d_Gate_add_18 : decode b_Gate_add 18 = .ok (.aload_n 0, 1) := by decide +kernel
theorem d_Gate_add_19 : decode b_Gate_add 19 = .ok (.getfield 44, 3) := by decide +kernel
theorem d_Gate_add_22 : decode b_Gate_add 22 = .ok (.ifCond .ne 13, 3) := by decide +kernel
theorem d_Gate_add_25 : decode b_Gate_add 25 = .ok (.aload_n 0, 1) := by decide +kernel
theorem d_Gate_add_26 : decode b_Gate_add 26 = .ok (.getfield 10, 3) := by decide +kernel
theorem d_Gate_add_29 : decode b_Gate_add 29 = .ok (.invokevirtual 84, 3) := by decide +kernel
theorem d_Gate_add_32 : decode b_Gate_add 32 = .ok (.ifCond .eq 13, 3) := by decide +kernel
theorem d_Gate_add_35 : decode b_Gate_add 35 = .ok (.new 88, 3) := by decide +kernel
theorem d_Gate_add_38 : decode b_Gate_add 38 = .ok (.dup, 1) := by decide +kernel
theorem d_Gate_add_39 : decode b_Gate_add 39 = .ok (.ldc 90, 2) := by decide +kernel
theorem d_Gate_add_41 : decode b_Gate_add 41 = .ok (.invokespecial 92, 3) := by decide +kernel
theorem d_Gate_add_44 : decode b_Gate_add 44 = .ok (.athrow, 1) := by decide +kernel
theorem d_Gate_add_45 : decode b_Gate_add 45 = .ok (.aload_n 0, 1) := by decide +kernel
theorem d_Gate_add_46 : decode b_Gate_add 46 = .ok (.getfield 10, 3) := by decide +kernel
theorem d_Gate_add_49 : decode b_Gate_add 49 = .ok (.iload_n 1, 1) := by decide +kernel
theorem d_Gate_add_50 : decode b_Gate_add 50 = .ok (.iload_n 2, 1) := by decide +kernel
theorem d_Gate_add_51 : decode b_Gate_add 51 = .ok (.invokevirtual 93, 3) := by decide +kernel
theorem d_Gate_add_54 : decode b_Gate_add 54 = .ok (.aload_n 0, 1) := by decide +kernel
theorem d_Gate_add_55 : decode b_Gate_add 55 = .ok (.getfield 10, 3) := by decide +kernel
theorem d_Gate_add_58 : decode b_Gate_add 58 = .ok (.getfield 97, 3) := by decide +kernel
theorem d_Gate_add_61 : decode b_Gate_add 61 = .ok (.ireturn, 1) := by decide +kernel
theorem d_Gate_give_0 : decode b_Gate_give 0 = .ok (.iload_n 1, 1) := by decide +kernel
theorem d_Gate_give_1 : decode b_Gate_give 1 = .ok (.invokestatic 100, 3) := by decide +kernel
theorem d_Gate_give_4 : decode b_Gate_give 4 = .ok (.ifCond .eq 10, 3) := by decide +kernel
theorem d_Gate_give_7 : decode b_Gate_give 7 = .ok (.iload_n 2, 1) := by decide +kernel
theorem d_Gate_give_8 : decode b_Gate_give 8 = .ok (.invokestatic 104, 3) := by decide +kernel
theorem d_Gate_give_11 : decode b_Gate_give 11 = .ok (.ifCond .ne 5, 3) := by decide +kernel
theorem d_Gate_give_14 : decode b_Gate_give 14 = .ok (.iconst 0, 1) := by decide +kernel
theorem d_Gate_give_15 : decode b_Gate_give 15 = .ok (.ireturn, 1) := by decide +kernel
theorem d_Gate_give_16 : decode b_Gate_give 16 = .ok (.aload_n 0, 1) := by decide +kernel
theorem d_Gate_give_17 : decode b_Gate_give 17 = .ok (.getfield 37, 3) := by decide +kernel
theorem d_Gate_give_20 : decode b_Gate_give 20 = .ok (.iload_n 1, 1) := by decide +kernel
theorem d_Gate_give_21 : decode b_Gate_give 21 = .ok (.iload_n 2, 1) := by decide +kernel
theorem d_Gate_give_22 : decode b_Gate_give 22 = .ok (.iastore, 1) := by decide +kernel
theorem d_Gate_give_23 : decode b_Gate_give 23 = .ok (.iconst 1, 1) := by decide +kernel
theorem d_Gate_give_24 : decode b_Gate_give 24 = .ok (.ireturn, 1) := by decide +kernel
theorem d_Gate_cycle_0 : decode b_Gate_cycle 0 = .ok (.aload_n 0, 1) := by decide +kernel
theorem d_Gate_cycle_1 : decode b_Gate_cycle 1 = .ok (.getfield 48, 3) := by decide +kernel
theorem d_Gate_cycle_4 : decode b_Gate_cycle 4 = .ok (.ifCond .eq 5, 3) := by decide +kernel
theorem d_Gate_cycle_7 : decode b_Gate_cycle 7 = .ok (.iconst 0, 1) := by decide +kernel
theorem d_Gate_cycle_8 : decode b_Gate_cycle 8 = .ok (.ireturn, 1) := by decide +kernel
theorem d_Gate_cycle_9 : decode b_Gate_cycle 9 = .ok (.aload_n 0, 1) := by decide +kernel
theorem d_Gate_cycle_10 : decode b_Gate_cycle 10 = .ok (.iconst 1, 1) := by decide +kernel
theorem d_Gate_cycle_11 : decode b_Gate_cycle 11 = .ok (.putfield 44, 3) := by decide +kernel
theorem d_Gate_cycle_14 : decode b_Gate_cycle 14 = .ok (.aload_n 0, 1) := by decide +kernel
theorem d_Gate_cycle_15 : decode b_Gate_cycle 15 = .ok (.iconst 0, 1) := by decide +kernel
theorem d_Gate_cycle_16 : decode b_Gate_cycle 16 = .ok (.putfield 55, 3) := by decide +kernel
theorem d_Gate_cycle_19 : decode b_Gate_cycle 19 = .ok (.aload_n 0, 1) := by decide +kernel
theorem d_Gate_cycle_20 : decode b_Gate_cycle 20 = .ok (.aload_n 0, 1) := by decide +kernel
theorem d_Gate_cycle_21 : decode b_Gate_cycle 21 = .ok (.invokevirtual 107, 3) := by decide +kernel
theorem d_Gate_cycle_24 : decode b_Gate_cycle 24 = .ok (.putfield 48, 3) := by decide +kernel
theorem d_Gate_cycle_27 : decode b_Gate_cycle 27 = .ok (.aload_n 0, 1) := by decide +kernel
theorem d_Gate_cycle_28 : decode b_Gate_cycle 28 = .ok (.getfield 33, 3) := by decide +kernel
theorem d_Gate_cycle_31 : decode b_Gate_cycle 31 = .ok (.invokevirtual 111, 3) := by decide +kernel
theorem d_Gate_cycle_34 : decode b_Gate_cycle 34 = .ok (.aload_n 0, 1) := by decide +kernel
theorem d_Gate_cycle_35 : decode b_Gate_cycle 35 = .ok (.getfield 48, 3) := by decide +kernel
theorem d_Gate_cycle_38 : decode b_Gate_cycle 38 = .ok (.ifCond .eq 13, 3) := by decide +kernel
theorem d_Gate_cycle_41 : decode b_Gate_cycle 41 = .ok (.aload_n 0, 1) := by decide +kernel
theorem d_Gate_cycle_42 : decode b_Gate_cycle 42 = .ok (.getfield 41, 3) := by decide +kernel
theorem d_Gate_cycle_45 : decode b_Gate_cycle 45 = .ok (.iconst 0, 1) := by decide +kernel
theorem d_Gate_cycle_46 : decode b_Gate_cycle 46 = .ok (.invokestatic 114, 3) := by decide +kernel
theorem d_Gate_cycle_49 : decode b_Gate_cycle 49 = .ok (.iconst 0, 1) := by decide +kernel
theorem d_Gate_cycle_50 : decode b_Gate_cycle 50 = .ok (.ireturn, 1) := by decide +kernel
theorem d_Gate_cycle_51 : decode b_Gate_cycle 51 = .ok (.aload_n 0, 1) := by decide +kernel
theorem d_Gate_cycle_52 : decode b_Gate_cycle 52 = .ok (.invokevirtual 120, 3) := by decide +kernel
theorem d_Gate_cycle_55 : decode b_Gate_cycle 55 = .ok (.iconst 1, 1) := by decide +kernel
theorem d_Gate_cycle_56 : decode b_Gate_cycle 56 = .ok (.ireturn, 1) := by decide +kernel
theorem d_Gate_flip_0 : decode b_Gate_flip 0 = .ok (.iload_n 1, 1) := by decide +kernel
theorem d_Gate_flip_1 : decode b_Gate_flip 1 = .ok (.invokestatic 123, 3) := by decide +kernel
theorem d_Gate_flip_4 : decode b_Gate_flip 4 = .ok (.ifCond .eq 24, 3) := by decide +kernel
theorem d_Gate_flip_7 : decode b_Gate_flip 7 = .ok (.iload_n 2, 1) := by decide +kernel
theorem d_Gate_flip_8 : decode b_Gate_flip 8 = .ok (.invokestatic 126, 3) := by decide +kernel
theorem d_Gate_flip_11 : decode b_Gate_flip 11 = .ok (.ifCond .eq 17, 3) := by decide +kernel
theorem d_Gate_flip_14 : decode b_Gate_flip 14 = .ok (.iload_n 3, 1) := by decide +kernel
theorem d_Gate_flip_15 : decode b_Gate_flip 15 = .ok (.bipush 64, 2) := by decide +kernel
theorem d_Gate_flip_17 : decode b_Gate_flip 17 = .ok (.invokestatic 129, 3) := by decide +kernel
theorem d_Gate_flip_20 : decode b_Gate_flip 20 = .ok (.ifCond .eq 8, 3) := by decide +kernel
theorem d_Gate_flip_23 : decode b_Gate_flip 23 = .ok (.iload 4, 2) := by decide +kernel
theorem d_Gate_flip_25 : decode b_Gate_flip 25 = .ok (.ifCond .ge 5, 3) := by decide +kernel
theorem d_Gate_flip_28 : decode b_Gate_flip 28 = .ok (.iconst 0, 1) := by decide +kernel
theorem d_Gate_flip_29 : decode b_Gate_flip 29 = .ok (.ireturn, 1) := by decide +kernel
theorem d_Gate_flip_30 : decode b_Gate_flip 30 = .ok (.aload_n 0, 1) := by decide +kernel
theorem d_Gate_flip_31 : decode b_Gate_flip 31 = .ok (.getfield 48, 3) := by decide +kernel
theorem d_Gate_flip_34 : decode b_Gate_flip 34 = .ok (.ifCond .ne 13, 3) := by decide +kernel
theorem d_Gate_flip_37 : decode b_Gate_flip 37 = .ok (.aload_n 0, 1) := by decide +kernel
theorem d_Gate_flip_38 : decode b_Gate_flip 38 = .ok (.getfield 33, 3) := by decide +kernel
theorem d_Gate_flip_41 : decode b_Gate_flip 41 = .ok (.invokevirtual 132, 3) := by decide +kernel
theorem d_Gate_flip_44 : decode b_Gate_flip 44 = .ok (.ifCond .eq 5, 3) := by decide +kernel
theorem d_Gate_flip_47 : decode b_Gate_flip 47 = .ok (.iconst 0, 1) := by decide +kernel
theorem d_Gate_flip_48 : decode b_Gate_flip 48 = .ok (.ireturn, 1) := by decide +kernel
theorem d_Gate_flip_49 : decode b_Gate_flip 49 = .ok (.aload_n 0, 1) := by decide +kernel
theorem d_Gate_flip_50 : decode b_Gate_flip 50 = .ok (.getfield 33, 3) := by decide +kernel
theorem d_Gate_flip_53 : decode b_Gate_flip 53 = .ok (.iload_n 1, 1) := by decide +kernel
theorem d_Gate_flip_54 : decode b_Gate_flip 54 = .ok (.iload_n 2, 1) := by decide +kernel
theorem d_Gate_flip_55 : decode b_Gate_flip 55 = .ok (.iload_n 3, 1) := by decide +kernel
theorem d_Gate_flip_56 : decode b_Gate_flip 56 = .ok (.iload 4, 2) := by decide +kernel
theorem d_Gate_flip_58 : decode b_Gate_flip 58 = .ok (.invokevirtual 133, 3) := by decide +kernel
theorem d_Gate_flip_61 : decode b_Gate_flip 61 = .ok (.iconst 1, 1) := by decide +kernel
theorem d_Gate_flip_62 : decode b_Gate_flip 62 = .ok (.ireturn, 1) := by decide +kernel
theorem d_Gate_output_0 : decode b_Gate_output 0 = .ok (.iload_n 1, 1) := by decide +kernel
theorem d_Gate_output_1 : decode b_Gate_output 1 = .ok (.invokestatic 100, 3) := by decide +kernel
theorem d_Gate_output_4 : decode b_Gate_output 4 = .ok (.ifCond .eq 12, 3) := by decide +kernel
theorem d_Gate_output_7 : decode b_Gate_output 7 = .ok (.aload_n 0, 1) := by decide +kernel
theorem d_Gate_output_8 : decode b_Gate_output 8 = .ok (.getfield 41, 3) := by decide +kernel
theorem d_Gate_output_11 : decode b_Gate_output 11 = .ok (.iload_n 1, 1) := by decide +kernel
theorem d_Gate_output_12 : decode b_Gate_output 12 = .ok (.iaload, 1) := by decide +kernel
theorem d_Gate_output_13 : decode b_Gate_output 13 = .ok (.goto 4, 3) := by decide +kernel
theorem d_Gate_output_16 : decode b_Gate_output 16 = .ok (.iconst (-1), 1) := by decide +kernel
theorem d_Gate_output_17 : decode b_Gate_output 17 = .ok (.ireturn, 1) := by decide +kernel
theorem d_Gate_cell_0 : decode b_Gate_cell 0 = .ok (.iload_n 1, 1) := by decide +kernel
theorem d_Gate_cell_1 : decode b_Gate_cell 1 = .ok (.invokestatic 123, 3) := by decide +kernel
theorem d_Gate_cell_4 : decode b_Gate_cell 4 = .ok (.ifCond .eq 10, 3) := by decide +kernel
theorem d_Gate_cell_7 : decode b_Gate_cell 7 = .ok (.iload_n 2, 1) := by decide +kernel
theorem d_Gate_cell_8 : decode b_Gate_cell 8 = .ok (.invokestatic 126, 3) := by decide +kernel
theorem d_Gate_cell_11 : decode b_Gate_cell 11 = .ok (.ifCond .ne 13, 3) := by decide +kernel
theorem d_Gate_cell_14 : decode b_Gate_cell 14 = .ok (.new 136, 3) := by decide +kernel
theorem d_Gate_cell_17 : decode b_Gate_cell 17 = .ok (.dup, 1) := by decide +kernel
theorem d_Gate_cell_18 : decode b_Gate_cell 18 = .ok (.ldc 138, 2) := by decide +kernel
theorem d_Gate_cell_20 : decode b_Gate_cell 20 = .ok (.invokespecial 140, 3) := by decide +kernel
theorem d_Gate_cell_23 : decode b_Gate_cell 23 = .ok (.athrow, 1) := by decide +kernel
theorem d_Gate_cell_24 : decode b_Gate_cell 24 = .ok (.aload_n 0, 1) := by decide +kernel
theorem d_Gate_cell_25 : decode b_Gate_cell 25 = .ok (.iload_n 1, 1) := by decide +kernel
theorem d_Gate_cell_26 : decode b_Gate_cell 26 = .ok (.invokevirtual 141, 3) := by decide +kernel
theorem d_Gate_cell_29 : decode b_Gate_cell 29 = .ok (.getfield 145, 3) := by decide +kernel
theorem d_Gate_cell_32 : decode b_Gate_cell 32 = .ok (.iload_n 2, 1) := by decide +kernel
theorem d_Gate_cell_33 : decode b_Gate_cell 33 = .ok (.laload, 1) := by decide +kernel
theorem d_Gate_cell_34 : decode b_Gate_cell 34 = .ok (.lreturn, 1) := by decide +kernel
theorem d_Gate_count_0 : decode b_Gate_count 0 = .ok (.iload_n 1, 1) := by decide +kernel
theorem d_Gate_count_1 : decode b_Gate_count 1 = .ok (.tableswitch 84 0 6 #[43, 51, 56, 61, 66, 74, 79], 43) := by decide +kernel
theorem d_Gate_count_44 : decode b_Gate_count 44 = .ok (.aload_n 0, 1) := by decide +kernel
theorem d_Gate_count_45 : decode b_Gate_count 45 = .ok (.getfield 10, 3) := by decide +kernel
theorem d_Gate_count_48 : decode b_Gate_count 48 = .ok (.getfield 97, 3) := by decide +kernel
theorem d_Gate_count_51 : decode b_Gate_count 51 = .ok (.ireturn, 1) := by decide +kernel
theorem d_Gate_count_52 : decode b_Gate_count 52 = .ok (.aload_n 0, 1) := by decide +kernel
theorem d_Gate_count_53 : decode b_Gate_count 53 = .ok (.getfield 52, 3) := by decide +kernel
theorem d_Gate_count_56 : decode b_Gate_count 56 = .ok (.ireturn, 1) := by decide +kernel
theorem d_Gate_count_57 : decode b_Gate_count 57 = .ok (.aload_n 0, 1) := by decide +kernel
theorem d_Gate_count_58 : decode b_Gate_count 58 = .ok (.getfield 48, 3) := by decide +kernel
theorem d_Gate_count_61 : decode b_Gate_count 61 = .ok (.ireturn, 1) := by decide +kernel
theorem d_Gate_count_62 : decode b_Gate_count 62 = .ok (.aload_n 0, 1) := by decide +kernel
theorem d_Gate_count_63 : decode b_Gate_count 63 = .ok (.getfield 55, 3) := by decide +kernel
theorem d_Gate_count_66 : decode b_Gate_count 66 = .ok (.ireturn, 1) := by decide +kernel
theorem d_Gate_count_67 : decode b_Gate_count 67 = .ok (.aload_n 0, 1) := by decide +kernel
theorem d_Gate_count_68 : decode b_Gate_count 68 = .ok (.getfield 33, 3) := by decide +kernel
theorem d_Gate_count_71 : decode b_Gate_count 71 = .ok (.getfield 149, 3) := by decide +kernel
theorem d_Gate_count_74 : decode b_Gate_count 74 = .ok (.ireturn, 1) := by decide +kernel
theorem d_Gate_count_75 : decode b_Gate_count 75 = .ok (.aload_n 0, 1) := by decide +kernel
theorem d_Gate_count_76 : decode b_Gate_count 76 = .ok (.getfield 58, 3) := by decide +kernel
theorem d_Gate_count_79 : decode b_Gate_count 79 = .ok (.ireturn, 1) := by decide +kernel
theorem d_Gate_count_80 : decode b_Gate_count 80 = .ok (.aload_n 0, 1) := by decide +kernel
theorem d_Gate_count_81 : decode b_Gate_count 81 = .ok (.getfield 70, 3) := by decide +kernel
theorem d_Gate_count_84 : decode b_Gate_count 84 = .ok (.ireturn, 1) := by decide +kernel
theorem d_Gate_count_85 : decode b_Gate_count 85 = .ok (.iconst (-1), 1) := by decide +kernel
theorem d_Gate_count_86 : decode b_Gate_count 86 = .ok (.ireturn, 1) := by decide +kernel
theorem d_Gate_isBelow_0 : decode b_Gate_isBelow 0 = .ok (.iload_n 0, 1) := by decide +kernel
theorem d_Gate_isBelow_1 : decode b_Gate_isBelow 1 = .ok (.ifCond .lt 12, 3) := by decide +kernel
theorem d_Gate_isBelow_4 : decode b_Gate_isBelow 4 = .ok (.iload_n 0, 1) := by decide +kernel
theorem d_Gate_isBelow_5 : decode b_Gate_isBelow 5 = .ok (.iload_n 1, 1) := by decide +kernel
theorem d_Gate_isBelow_6 : decode b_Gate_isBelow 6 = .ok (.if_icmp .ge 7, 3) := by decide +kernel
theorem d_Gate_isBelow_9 : decode b_Gate_isBelow 9 = .ok (.iconst 1, 1) := by decide +kernel
theorem d_Gate_isBelow_10 : decode b_Gate_isBelow 10 = .ok (.goto 4, 3) := by decide +kernel
theorem d_Gate_isBelow_13 : decode b_Gate_isBelow 13 = .ok (.iconst 0, 1) := by decide +kernel
theorem d_Gate_isBelow_14 : decode b_Gate_isBelow 14 = .ok (.ireturn, 1) := by decide +kernel
theorem d_Gate_isPort_0 : decode b_Gate_isPort 0 = .ok (.iload_n 0, 1) := by decide +kernel
theorem d_Gate_isPort_1 : decode b_Gate_isPort 1 = .ok (.iconst 4, 1) := by decide +kernel
theorem d_Gate_isPort_2 : decode b_Gate_isPort 2 = .ok (.invokestatic 129, 3) := by decide +kernel
theorem d_Gate_isPort_5 : decode b_Gate_isPort 5 = .ok (.ireturn, 1) := by decide +kernel
theorem d_Gate_isCopy_0 : decode b_Gate_isCopy 0 = .ok (.iload_n 0, 1) := by decide +kernel
theorem d_Gate_isCopy_1 : decode b_Gate_isCopy 1 = .ok (.iconst 2, 1) := by decide +kernel
theorem d_Gate_isCopy_2 : decode b_Gate_isCopy 2 = .ok (.invokestatic 129, 3) := by decide +kernel
theorem d_Gate_isCopy_5 : decode b_Gate_isCopy 5 = .ok (.ireturn, 1) := by decide +kernel
theorem d_Gate_isInRow_0 : decode b_Gate_isInRow 0 = .ok (.iload_n 0, 1) := by decide +kernel
theorem d_Gate_isInRow_1 : decode b_Gate_isInRow 1 = .ok (.bipush 18, 2) := by decide +kernel
theorem d_Gate_isInRow_3 : decode b_Gate_isInRow 3 = .ok (.invokestatic 129, 3) := by decide +kernel
theorem d_Gate_isInRow_6 : decode b_Gate_isInRow 6 = .ok (.ireturn, 1) := by decide +kernel
theorem d_Gate_isWithinBound_0 : decode b_Gate_isWithinBound 0 = .ok (.iload_n 0, 1) := by decide +kernel
theorem d_Gate_isWithinBound_1 : decode b_Gate_isWithinBound 1 = .ok (.ldc 150, 2) := by decide +kernel
theorem d_Gate_isWithinBound_3 : decode b_Gate_isWithinBound 3 = .ok (.if_icmp .lt 13, 3) := by decide +kernel
theorem d_Gate_isWithinBound_6 : decode b_Gate_isWithinBound 6 = .ok (.iload_n 0, 1) := by decide +kernel
theorem d_Gate_isWithinBound_7 : decode b_Gate_isWithinBound 7 = .ok (.ldc 151, 2) := by decide +kernel
theorem d_Gate_isWithinBound_9 : decode b_Gate_isWithinBound 9 = .ok (.if_icmp .gt 7, 3) := by decide +kernel
theorem d_Gate_isWithinBound_12 : decode b_Gate_isWithinBound 12 = .ok (.iconst 1, 1) := by decide +kernel
theorem d_Gate_isWithinBound_13 : decode b_Gate_isWithinBound 13 = .ok (.goto 4, 3) := by decide +kernel
theorem d_Gate_isWithinBound_16 : decode b_Gate_isWithinBound 16 = .ok (.iconst 0, 1) := by decide +kernel
theorem d_Gate_isWithinBound_17 : decode b_Gate_isWithinBound 17 = .ok (.ireturn, 1) := by decide +kernel
theorem d_Gate_isInstruction_0 : decode b_Gate_isInstruction 0 = .ok (.iload_n 0, 1) := by decide +kernel
theorem d_Gate_isInstruction_1 : decode b_Gate_isInstruction 1 = .ok (.tableswitch 105 0 15 #[79, 84, 84, 103, 103, 103, 103, 103, 103, 103, 91, 91, 98, 98, 103, 103], 79) := by decide +kernel
theorem d_Gate_isInstruction_80 : decode b_Gate_isInstruction 80 = .ok (.iload_n 1, 1) := by decide +kernel
theorem d_Gate_isInstruction_81 : decode b_Gate_isInstruction 81 = .ok (.invokestatic 104, 3) := by decide +kernel
theorem d_Gate_isInstruction_84 : decode b_Gate_isInstruction 84 = .ok (.ireturn, 1) := by decide +kernel
theorem d_Gate_isInstruction_85 : decode b_Gate_isInstruction 85 = .ok (.iload_n 1, 1) := by decide +kernel
theorem d_Gate_isInstruction_86 : decode b_Gate_isInstruction 86 = .ok (.bipush 16, 2) := by decide +kernel
theorem d_Gate_isInstruction_88 : decode b_Gate_isInstruction 88 = .ok (.invokestatic 129, 3) := by decide +kernel
theorem d_Gate_isInstruction_91 : decode b_Gate_isInstruction 91 = .ok (.ireturn, 1) := by decide +kernel
theorem d_Gate_isInstruction_92 : decode b_Gate_isInstruction 92 = .ok (.iload_n 1, 1) := by decide +kernel
theorem d_Gate_isInstruction_93 : decode b_Gate_isInstruction 93 = .ok (.bipush 100, 2) := by decide +kernel
theorem d_Gate_isInstruction_95 : decode b_Gate_isInstruction 95 = .ok (.invokestatic 129, 3) := by decide +kernel
theorem d_Gate_isInstruction_98 : decode b_Gate_isInstruction 98 = .ok (.ireturn, 1) := by decide +kernel
theorem d_Gate_isInstruction_99 : decode b_Gate_isInstruction 99 = .ok (.iload_n 1, 1) := by decide +kernel
theorem d_Gate_isInstruction_100 : decode b_Gate_isInstruction 100 = .ok (.invokestatic 100, 3) := by decide +kernel
theorem d_Gate_isInstruction_103 : decode b_Gate_isInstruction 103 = .ok (.ireturn, 1) := by decide +kernel
theorem d_Gate_isInstruction_104 : decode b_Gate_isInstruction 104 = .ok (.iconst 1, 1) := by decide +kernel
theorem d_Gate_isInstruction_105 : decode b_Gate_isInstruction 105 = .ok (.ireturn, 1) := by decide +kernel
theorem d_Gate_isInstruction_106 : decode b_Gate_isInstruction 106 = .ok (.iconst 0, 1) := by decide +kernel
theorem d_Gate_isInstruction_107 : decode b_Gate_isInstruction 107 = .ok (.ireturn, 1) := by decide +kernel
theorem d_Gate_copyOf_0 : decode b_Gate_copyOf 0 = .ok (.iload_n 1, 1) := by decide +kernel
theorem d_Gate_copyOf_1 : decode b_Gate_copyOf 1 = .ok (.ifCond .ne 10, 3) := by decide +kernel
theorem d_Gate_copyOf_4 : decode b_Gate_copyOf 4 = .ok (.aload_n 0, 1) := by decide +kernel
theorem d_Gate_copyOf_5 : decode b_Gate_copyOf 5 = .ok (.getfield 21, 3) := by decide +kernel
theorem d_Gate_copyOf_8 : decode b_Gate_copyOf 8 = .ok (.goto 7, 3) := by decide +kernel
theorem d_Gate_copyOf_11 : decode b_Gate_copyOf 11 = .ok (.aload_n 0, 1) := by decide +kernel
theorem d_Gate_copyOf_12 : decode b_Gate_copyOf 12 = .ok (.getfield 27, 3) := by decide +kernel
theorem d_Gate_copyOf_15 : decode b_Gate_copyOf 15 = .ok (.areturn, 1) := by decide +kernel
theorem d_Gate_runBothCopies_0 : decode b_Gate_runBothCopies 0 = .ok (.aload_n 0, 1) := by decide +kernel
theorem d_Gate_runBothCopies_1 : decode b_Gate_runBothCopies 1 = .ok (.aload_n 0, 1) := by decide +kernel
theorem d_Gate_runBothCopies_2 : decode b_Gate_runBothCopies 2 = .ok (.getfield 21, 3) := by decide +kernel
theorem d_Gate_runBothCopies_5 : decode b_Gate_runBothCopies 5 = .ok (.invokevirtual 152, 3) := by decide +kernel
theorem d_Gate_runBothCopies_8 : decode b_Gate_runBothCopies 8 = .ok (.istore_n 1, 1) := by decide +kernel
theorem d_Gate_runBothCopies_9 : decode b_Gate_runBothCopies 9 = .ok (.iload_n 1, 1) := by decide +kernel
theorem d_Gate_runBothCopies_10 : decode b_Gate_runBothCopies 10 = .ok (.ifCond .ne 12, 3) := by decide +kernel
theorem d_Gate_runBothCopies_13 : decode b_Gate_runBothCopies 13 = .ok (.aload_n 0, 1) := by decide +kernel
theorem d_Gate_runBothCopies_14 : decode b_Gate_runBothCopies 14 = .ok (.aload_n 0, 1) := by decide +kernel
theorem d_Gate_runBothCopies_15 : decode b_Gate_runBothCopies 15 = .ok (.getfield 27, 3) := by decide +kernel
theorem d_Gate_runBothCopies_18 : decode b_Gate_runBothCopies 18 = .ok (.invokevirtual 152, 3) := by decide +kernel
theorem d_Gate_runBothCopies_21 : decode b_Gate_runBothCopies 21 = .ok (.istore_n 1, 1) := by decide +kernel
theorem d_Gate_runBothCopies_22 : decode b_Gate_runBothCopies 22 = .ok (.iload_n 1, 1) := by decide +kernel
theorem d_Gate_runBothCopies_23 : decode b_Gate_runBothCopies 23 = .ok (.ifCond .ne 12, 3) := by decide +kernel
theorem d_Gate_runBothCopies_26 : decode b_Gate_runBothCopies 26 = .ok (.aload_n 0, 1) := by decide +kernel
theorem d_Gate_runBothCopies_27 : decode b_Gate_runBothCopies 27 = .ok (.invokevirtual 156, 3) := by decide +kernel
theorem d_Gate_runBothCopies_30 : decode b_Gate_runBothCopies 30 = .ok (.ifCond .ne 5, 3) := by decide +kernel
theorem d_Gate_runBothCopies_33 : decode b_Gate_runBothCopies 33 = .ok (.iconst 3, 1) := by decide +kernel
theorem d_Gate_runBothCopies_34 : decode b_Gate_runBothCopies 34 = .ok (.istore_n 1, 1) := by decide +kernel
theorem d_Gate_runBothCopies_35 : decode b_Gate_runBothCopies 35 = .ok (.iload_n 1, 1) := by decide +kernel
theorem d_Gate_runBothCopies_36 : decode b_Gate_runBothCopies 36 = .ok (.ireturn, 1) := by decide +kernel
theorem d_Gate_runToItsEnd_0 : decode b_Gate_runToItsEnd 0 = .ok (.aload_n 1, 1) := by decide +kernel
theorem d_Gate_runToItsEnd_1 : decode b_Gate_runToItsEnd 1 = .ok (.invokevirtual 159, 3) := by decide +kernel
theorem d_Gate_runToItsEnd_4 : decode b_Gate_runToItsEnd 4 = .ok (.iconst 0, 1) := by decide +kernel
theorem d_Gate_runToItsEnd_5 : decode b_Gate_runToItsEnd 5 = .ok (.istore_n 2, 1) := by decide +kernel
theorem d_Gate_runToItsEnd_6 : decode b_Gate_runToItsEnd 6 = .ok (.iload_n 2, 1) := by decide +kernel
theorem d_Gate_runToItsEnd_7 : decode b_Gate_runToItsEnd 7 = .ok (.aload_n 0, 1) := by decide +kernel
theorem d_Gate_runToItsEnd_8 : decode b_Gate_runToItsEnd 8 = .ok (.getfield 70, 3) := by decide +kernel
theorem d_Gate_runToItsEnd_11 : decode b_Gate_runToItsEnd 11 = .ok (.if_icmp .ge 50, 3) := by decide +kernel
theorem d_Gate_runToItsEnd_14 : decode b_Gate_runToItsEnd 14 = .ok (.aload_n 0, 1) := by decide +kernel
theorem d_Gate_runToItsEnd_15 : decode b_Gate_runToItsEnd 15 = .ok (.invokevirtual 162, 3) := by decide +kernel
theorem d_Gate_runToItsEnd_18 : decode b_Gate_runToItsEnd 18 = .ok (.aload_n 0, 1) := by decide +kernel
theorem d_Gate_runToItsEnd_19 : decode b_Gate_runToItsEnd 19 = .ok (.dup, 1) := by decide +kernel
theorem d_Gate_runToItsEnd_20 : decode b_Gate_runToItsEnd 20 = .ok (.getfield 55, 3) := by decide +kernel
theorem d_Gate_runToItsEnd_23 : decode b_Gate_runToItsEnd 23 = .ok (.iconst 1, 1) := by decide +kernel
theorem d_Gate_runToItsEnd_24 : decode b_Gate_runToItsEnd 24 = .ok (.iadd, 1) := by decide +kernel
theorem d_Gate_runToItsEnd_25 : decode b_Gate_runToItsEnd 25 = .ok (.putfield 55, 3) := by decide +kernel
theorem d_Gate_runToItsEnd_28 : decode b_Gate_runToItsEnd 28 = .ok (.aload_n 1, 1) := by decide +kernel
theorem d_Gate_runToItsEnd_29 : decode b_Gate_runToItsEnd 29 = .ok (.aload_n 0, 1) := by decide +kernel
theorem d_Gate_runToItsEnd_30 : decode b_Gate_runToItsEnd 30 = .ok (.getfield 10, 3) := by decide +kernel
theorem d_Gate_runToItsEnd_33 : decode b_Gate_runToItsEnd 33 = .ok (.aload_n 0, 1) := by decide +kernel
theorem d_Gate_runToItsEnd_34 : decode b_Gate_runToItsEnd 34 = .ok (.getfield 37, 3) := by decide +kernel
theorem d_Gate_runToItsEnd_37 : decode b_Gate_runToItsEnd 37 = .ok (.invokevirtual 165, 3) := by decide +kernel
theorem d_Gate_runToItsEnd_40 : decode b_Gate_runToItsEnd 40 = .ok (.istore_n 3, 1) := by decide +kernel
theorem d_Gate_runToItsEnd_41 : decode b_Gate_runToItsEnd 41 = .ok (.iload_n 3, 1) := by decide +kernel
theorem d_Gate_runToItsEnd_42 : decode b_Gate_runToItsEnd 42 = .ok (.iconst 1, 1) := by decide +kernel
theorem d_Gate_runToItsEnd_43 : decode b_Gate_runToItsEnd 43 = .ok (.if_icmp .ne 5, 3) := by decide +kernel
theorem d_Gate_runToItsEnd_46 : decode b_Gate_runToItsEnd 46 = .ok (.iconst 0, 1) := by decide +kernel
theorem d_Gate_runToItsEnd_47 : decode b_Gate_runToItsEnd 47 = .ok (.ireturn, 1) := by decide +kernel
theorem d_Gate_runToItsEnd_48 : decode b_Gate_runToItsEnd 48 = .ok (.iload_n 3, 1) := by decide +kernel
theorem d_Gate_runToItsEnd_49 : decode b_Gate_runToItsEnd 49 = .ok (.iconst 2, 1) := by decide +kernel
theorem d_Gate_runToItsEnd_50 : decode b_Gate_runToItsEnd 50 = .ok (.if_icmp .ne 5, 3) := by decide +kernel
theorem d_Gate_runToItsEnd_53 : decode b_Gate_runToItsEnd 53 = .ok (.iconst 1, 1) := by decide +kernel
theorem d_Gate_runToItsEnd_54 : decode b_Gate_runToItsEnd 54 = .ok (.ireturn, 1) := by decide +kernel
theorem d_Gate_runToItsEnd_55 : decode b_Gate_runToItsEnd 55 = .ok (.iinc 2 1, 3) := by decide +kernel
theorem d_Gate_runToItsEnd_58 : decode b_Gate_runToItsEnd 58 = .ok (.goto (-52), 3) := by decide +kernel
theorem d_Gate_runToItsEnd_61 : decode b_Gate_runToItsEnd 61 = .ok (.iconst 2, 1) := by decide +kernel
theorem d_Gate_runToItsEnd_62 : decode b_Gate_runToItsEnd 62 = .ok (.ireturn, 1) := by decide +kernel
theorem d_Gate_doFlipsAhead_0 : decode b_Gate_doFlipsAhead 0 = .ok (.iconst 0, 1) := by decide +kernel
theorem d_Gate_doFlipsAhead_1 : decode b_Gate_doFlipsAhead 1 = .ok (.istore_n 1, 1) := by decide +kernel
theorem d_Gate_doFlipsAhead_2 : decode b_Gate_doFlipsAhead 2 = .ok (.iload_n 1, 1) := by decide +kernel
theorem d_Gate_doFlipsAhead_3 : decode b_Gate_doFlipsAhead 3 = .ok (.aload_n 0, 1) := by decide +kernel
theorem d_Gate_doFlipsAhead_4 : decode b_Gate_doFlipsAhead 4 = .ok (.getfield 33, 3) := by decide +kernel
theorem d_Gate_doFlipsAhead_7 : decode b_Gate_doFlipsAhead 7 = .ok (.getfield 149, 3) := by decide +kernel
theorem d_Gate_doFlipsAhead_10 : decode b_Gate_doFlipsAhead 10 = .ok (.if_icmp .ge 75, 3) := by decide +kernel
theorem d_Gate_doFlipsAhead_13 : decode b_Gate_doFlipsAhead 13 = .ok (.aload_n 0, 1) := by decide +kernel
theorem d_Gate_doFlipsAhead_14 : decode b_Gate_doFlipsAhead 14 = .ok (.getfield 33, 3) := by decide +kernel
theorem d_Gate_doFlipsAhead_17 : decode b_Gate_doFlipsAhead 17 = .ok (.getfield 169, 3) := by decide +kernel
theorem d_Gate_doFlipsAhead_20 : decode b_Gate_doFlipsAhead 20 = .ok (.iload_n 1, 1) := by decide +kernel
theorem d_Gate_doFlipsAhead_21 : decode b_Gate_doFlipsAhead 21 = .ok (.iaload, 1) := by decide +kernel
theorem d_Gate_doFlipsAhead_22 : decode b_Gate_doFlipsAhead 22 = .ok (.aload_n 0, 1) := by decide +kernel
theorem d_Gate_doFlipsAhead_23 : decode b_Gate_doFlipsAhead 23 = .ok (.getfield 55, 3) := by decide +kernel
theorem d_Gate_doFlipsAhead_26 : decode b_Gate_doFlipsAhead 26 = .ok (.if_icmp .ne 53, 3) := by decide +kernel
theorem d_Gate_doFlipsAhead_29 : decode b_Gate_doFlipsAhead 29 = .ok (.aload_n 0, 1) := by decide +kernel
theorem d_Gate_doFlipsAhead_30 : decode b_Gate_doFlipsAhead 30 = .ok (.aload_n 0, 1) := by decide +kernel
theorem d_Gate_doFlipsAhead_31 : decode b_Gate_doFlipsAhead 31 = .ok (.getfield 33, 3) := by decide +kernel
theorem d_Gate_doFlipsAhead_34 : decode b_Gate_doFlipsAhead 34 = .ok (.getfield 171, 3) := by decide +kernel
theorem d_Gate_doFlipsAhead_37 : decode b_Gate_doFlipsAhead 37 = .ok (.iload_n 1, 1) := by decide +kernel
theorem d_Gate_doFlipsAhead_38 : decode b_Gate_doFlipsAhead 38 = .ok (.iaload, 1) := by decide +kernel
theorem d_Gate_doFlipsAhead_39 : decode b_Gate_doFlipsAhead 39 = .ok (.invokevirtual 141, 3) := by decide +kernel
theorem d_Gate_doFlipsAhead_42 : decode b_Gate_doFlipsAhead 42 = .ok (.getfield 145, 3) := by decide +kernel
theorem d_Gate_doFlipsAhead_45 : decode b_Gate_doFlipsAhead 45 = .ok (.aload_n 0, 1) := by decide +kernel
theorem d_Gate_doFlipsAhead_46 : decode b_Gate_doFlipsAhead 46 = .ok (.getfield 33, 3) := by decide +kernel
theorem d_Gate_doFlipsAhead_49 : decode b_Gate_doFlipsAhead 49 = .ok (.getfield 174, 3) := by decide +kernel
theorem d_Gate_doFlipsAhead_52 : decode b_Gate_doFlipsAhead 52 = .ok (.iload_n 1, 1) := by decide +kernel
theorem d_Gate_doFlipsAhead_53 : decode b_Gate_doFlipsAhead 53 = .ok (.iaload, 1) := by decide +kernel
theorem d_Gate_doFlipsAhead_54 : decode b_Gate_doFlipsAhead 54 = .ok (.dup2, 1) := by decide +kernel
theorem d_Gate_doFlipsAhead_55 : decode b_Gate_doFlipsAhead 55 = .ok (.laload, 1) := by decide +kernel
theorem d_Gate_doFlipsAhead_56 : decode b_Gate_doFlipsAhead 56 = .ok (.lconst 1, 1) := by decide +kernel
theorem d_Gate_doFlipsAhead_57 : decode b_Gate_doFlipsAhead 57 = .ok (.aload_n 0, 1) := by decide +kernel
theorem d_Gate_doFlipsAhead_58 : decode b_Gate_doFlipsAhead 58 = .ok (.getfield 33, 3) := by decide +kernel
theorem d_Gate_doFlipsAhead_61 : decode b_Gate_doFlipsAhead 61 = .ok (.getfield 177, 3) := by decide +kernel
theorem d_Gate_doFlipsAhead_64 : decode b_Gate_doFlipsAhead 64 = .ok (.iload_n 1, 1) := by decide +kernel
theorem d_Gate_doFlipsAhead_65 : decode b_Gate_doFlipsAhead 65 = .ok (.iaload, 1) := by decide +kernel
theorem d_Gate_doFlipsAhead_66 : decode b_Gate_doFlipsAhead 66 = .ok (.lshl, 1) := by decide +kernel
theorem d_Gate_doFlipsAhead_67 : decode b_Gate_doFlipsAhead 67 = .ok (.lxor, 1) := by decide +kernel
theorem d_Gate_doFlipsAhead_68 : decode b_Gate_doFlipsAhead 68 = .ok (.lastore, 1) := by decide +kernel
theorem d_Gate_doFlipsAhead_69 : decode b_Gate_doFlipsAhead 69 = .ok (.aload_n 0, 1) := by decide +kernel
theorem d_Gate_doFlipsAhead_70 : decode b_Gate_doFlipsAhead 70 = .ok (.dup, 1) := by decide +kernel
theorem d_Gate_doFlipsAhead_71 : decode b_Gate_doFlipsAhead 71 = .ok (.getfield 58, 3) := by decide +kernel
theorem d_Gate_doFlipsAhead_74 : decode b_Gate_doFlipsAhead 74 = .ok (.iconst 1, 1) := by decide +kernel
theorem d_Gate_doFlipsAhead_75 : decode b_Gate_doFlipsAhead 75 = .ok (.iadd, 1) := by decide +kernel
theorem d_Gate_doFlipsAhead_76 : decode b_Gate_doFlipsAhead 76 = .ok (.putfield 58, 3) := by decide +kernel
theorem d_Gate_doFlipsAhead_79 : decode b_Gate_doFlipsAhead 79 = .ok (.iinc 1 1, 3) := by decide +kernel
theorem d_Gate_doFlipsAhead_82 : decode b_Gate_doFlipsAhead 82 = .ok (.goto (-80), 3) := by decide +kernel
theorem d_Gate_doFlipsAhead_85 : decode b_Gate_doFlipsAhead 85 = .ok (.return_, 1) := by decide +kernel
theorem d_Gate_copiesAgree_0 : decode b_Gate_copiesAgree 0 = .ok (.iconst 0, 1) := by decide +kernel
theorem d_Gate_copiesAgree_1 : decode b_Gate_copiesAgree 1 = .ok (.istore_n 1, 1) := by decide +kernel
theorem d_Gate_copiesAgree_2 : decode b_Gate_copiesAgree 2 = .ok (.iload_n 1, 1) := by decide +kernel
theorem d_Gate_copiesAgree_3 : decode b_Gate_copiesAgree 3 = .ok (.iconst 4, 1) := by decide +kernel
theorem d_Gate_copiesAgree_4 : decode b_Gate_copiesAgree 4 = .ok (.if_icmp .ge 47, 3) := by decide +kernel
theorem d_Gate_copiesAgree_7 : decode b_Gate_copiesAgree 7 = .ok (.aload_n 0, 1) := by decide +kernel
theorem d_Gate_copiesAgree_8 : decode b_Gate_copiesAgree 8 = .ok (.getfield 21, 3) := by decide +kernel
theorem d_Gate_copiesAgree_11 : decode b_Gate_copiesAgree 11 = .ok (.getfield 180, 3) := by decide +kernel
theorem d_Gate_copiesAgree_14 : decode b_Gate_copiesAgree 14 = .ok (.iload_n 1, 1) := by decide +kernel
theorem d_Gate_copiesAgree_15 : decode b_Gate_copiesAgree 15 = .ok (.laload, 1) := by decide +kernel
theorem d_Gate_copiesAgree_16 : decode b_Gate_copiesAgree 16 = .ok (.lstore_n 2, 1) := by decide +kernel
theorem d_Gate_copiesAgree_17 : decode b_Gate_copiesAgree 17 = .ok (.lload_n 2, 1) := by decide +kernel
theorem d_Gate_copiesAgree_18 : decode b_Gate_copiesAgree 18 = .ok (.lload_n 2, 1) := by decide +kernel
theorem d_Gate_copiesAgree_19 : decode b_Gate_copiesAgree 19 = .ok (.l2i, 1) := by decide +kernel
theorem d_Gate_copiesAgree_20 : decode b_Gate_copiesAgree 20 = .ok (.i2l, 1) := by decide +kernel
theorem d_Gate_copiesAgree_21 : decode b_Gate_copiesAgree 21 = .ok (.lcmp, 1) := by decide +kernel
theorem d_Gate_copiesAgree_22 : decode b_Gate_copiesAgree 22 = .ok (.ifCond .ne 21, 3) := by decide +kernel
theorem d_Gate_copiesAgree_25 : decode b_Gate_copiesAgree 25 = .ok (.lload_n 2, 1) := by decide +kernel
theorem d_Gate_copiesAgree_26 : decode b_Gate_copiesAgree 26 = .ok (.ldc2_w 25, 3) := by decide +kernel
theorem d_Gate_copiesAgree_29 : decode b_Gate_copiesAgree 29 = .ok (.lmul, 1) := by decide +kernel
theorem d_Gate_copiesAgree_30 : decode b_Gate_copiesAgree 30 = .ok (.aload_n 0, 1) := by decide +kernel
theorem d_Gate_copiesAgree_31 : decode b_Gate_copiesAgree 31 = .ok (.getfield 27, 3) := by decide +kernel
theorem d_Gate_copiesAgree_34 : decode b_Gate_copiesAgree 34 = .ok (.getfield 180, 3) := by decide +kernel
theorem d_Gate_copiesAgree_37 : decode b_Gate_copiesAgree 37 = .ok (.iload_n 1, 1) := by decide +kernel
theorem d_Gate_copiesAgree_38 : decode b_Gate_copiesAgree 38 = .ok (.laload, 1) := by decide +kernel
theorem d_Gate_copiesAgree_39 : decode b_Gate_copiesAgree 39 = .ok (.lcmp, 1) := by decide +kernel
theorem d_Gate_copiesAgree_40 : decode b_Gate_copiesAgree 40 = .ok (.ifCond .eq 5, 3) := by decide +kernel
theorem d_Gate_copiesAgree_43 : decode b_Gate_copiesAgree 43 = .ok (.iconst 0, 1) := by decide +kernel
theorem d_Gate_copiesAgree_44 : decode b_Gate_copiesAgree 44 = .ok (.ireturn, 1) := by decide +kernel
theorem d_Gate_copiesAgree_45 : decode b_Gate_copiesAgree 45 = .ok (.iinc 1 1, 3) := by decide +kernel
theorem d_Gate_copiesAgree_48 : decode b_Gate_copiesAgree 48 = .ok (.goto (-46), 3) := by decide +kernel
theorem d_Gate_copiesAgree_51 : decode b_Gate_copiesAgree 51 = .ok (.iconst 1, 1) := by decide +kernel
theorem d_Gate_copiesAgree_52 : decode b_Gate_copiesAgree 52 = .ok (.ireturn, 1) := by decide +kernel
theorem d_Gate_emit_0 : decode b_Gate_emit 0 = .ok (.iconst 0, 1) := by decide +kernel
theorem d_Gate_emit_1 : decode b_Gate_emit 1 = .ok (.istore_n 1, 1) := by decide +kernel
theorem d_Gate_emit_2 : decode b_Gate_emit 2 = .ok (.iload_n 1, 1) := by decide +kernel
theorem d_Gate_emit_3 : decode b_Gate_emit 3 = .ok (.iconst 4, 1) := by decide +kernel
theorem d_Gate_emit_4 : decode b_Gate_emit 4 = .ok (.if_icmp .ge 25, 3) := by decide +kernel
theorem d_Gate_emit_7 : decode b_Gate_emit 7 = .ok (.aload_n 0, 1) := by decide +kernel
theorem d_Gate_emit_8 : decode b_Gate_emit 8 = .ok (.getfield 41, 3) := by decide +kernel
theorem d_Gate_emit_11 : decode b_Gate_emit 11 = .ok (.iload_n 1, 1) := by decide +kernel
theorem d_Gate_emit_12 : decode b_Gate_emit 12 = .ok (.aload_n 0, 1) := by decide +kernel
theorem d_Gate_emit_13 : decode b_Gate_emit 13 = .ok (.getfield 21, 3) := by decide +kernel
theorem d_Gate_emit_16 : decode b_Gate_emit 16 = .ok (.getfield 180, 3) := by decide +kernel
theorem d_Gate_emit_19 : decode b_Gate_emit 19 = .ok (.iload_n 1, 1) := by decide +kernel
theorem d_Gate_emit_20 : decode b_Gate_emit 20 = .ok (.laload, 1) := by decide +kernel
theorem d_Gate_emit_21 : decode b_Gate_emit 21 = .ok (.l2i, 1) := by decide +kernel
theorem d_Gate_emit_22 : decode b_Gate_emit 22 = .ok (.iastore, 1) := by decide +kernel
theorem d_Gate_emit_23 : decode b_Gate_emit 23 = .ok (.iinc 1 1, 3) := by decide +kernel
theorem d_Gate_emit_26 : decode b_Gate_emit 26 = .ok (.goto (-24), 3) := by decide +kernel
theorem d_Gate_emit_29 : decode b_Gate_emit 29 = .ok (.aload_n 0, 1) := by decide +kernel
theorem d_Gate_emit_30 : decode b_Gate_emit 30 = .ok (.dup, 1) := by decide +kernel
theorem d_Gate_emit_31 : decode b_Gate_emit 31 = .ok (.getfield 52, 3) := by decide +kernel
theorem d_Gate_emit_34 : decode b_Gate_emit 34 = .ok (.iconst 1, 1) := by decide +kernel
theorem d_Gate_emit_35 : decode b_Gate_emit 35 = .ok (.iadd, 1) := by decide +kernel
theorem d_Gate_emit_36 : decode b_Gate_emit 36 = .ok (.putfield 52, 3) := by decide +kernel
theorem d_Gate_emit_39 : decode b_Gate_emit 39 = .ok (.return_, 1) := by decide +kernel
theorem d_Arrs_fill_i_0 : decode b_Arrs_fill_i 0 = .ok (.iconst 0, 1) := by decide +kernel
theorem d_Arrs_fill_i_1 : decode b_Arrs_fill_i 1 = .ok (.istore_n 2, 1) := by decide +kernel
theorem d_Arrs_fill_i_2 : decode b_Arrs_fill_i 2 = .ok (.aload_n 0, 1) := by decide +kernel
theorem d_Arrs_fill_i_3 : decode b_Arrs_fill_i 3 = .ok (.arraylength, 1) := by decide +kernel
theorem d_Arrs_fill_i_4 : decode b_Arrs_fill_i 4 = .ok (.istore_n 3, 1) := by decide +kernel
theorem d_Arrs_fill_i_5 : decode b_Arrs_fill_i 5 = .ok (.iload_n 2, 1) := by decide +kernel
theorem d_Arrs_fill_i_6 : decode b_Arrs_fill_i 6 = .ok (.iload_n 3, 1) := by decide +kernel
theorem d_Arrs_fill_i_7 : decode b_Arrs_fill_i 7 = .ok (.if_icmp .ge 13, 3) := by decide +kernel
theorem d_Arrs_fill_i_10 : decode b_Arrs_fill_i 10 = .ok (.aload_n 0, 1) := by decide +kernel
theorem d_Arrs_fill_i_11 : decode b_Arrs_fill_i 11 = .ok (.iload_n 2, 1) := by decide +kernel
theorem d_Arrs_fill_i_12 : decode b_Arrs_fill_i 12 = .ok (.iload_n 1, 1) := by decide +kernel
theorem d_Arrs_fill_i_13 : decode b_Arrs_fill_i 13 = .ok (.iastore, 1) := by decide +kernel
theorem d_Arrs_fill_i_14 : decode b_Arrs_fill_i 14 = .ok (.iinc 2 1, 3) := by decide +kernel
theorem d_Arrs_fill_i_17 : decode b_Arrs_fill_i 17 = .ok (.goto (-12), 3) := by decide +kernel
theorem d_Arrs_fill_i_20 : decode b_Arrs_fill_i 20 = .ok (.return_, 1) := by decide +kernel
theorem d_Arrs_fill_l_0 : decode b_Arrs_fill_l 0 = .ok (.iconst 0, 1) := by decide +kernel
theorem d_Arrs_fill_l_1 : decode b_Arrs_fill_l 1 = .ok (.istore_n 3, 1) := by decide +kernel
theorem d_Arrs_fill_l_2 : decode b_Arrs_fill_l 2 = .ok (.aload_n 0, 1) := by decide +kernel
theorem d_Arrs_fill_l_3 : decode b_Arrs_fill_l 3 = .ok (.arraylength, 1) := by decide +kernel
theorem d_Arrs_fill_l_4 : decode b_Arrs_fill_l 4 = .ok (.istore 4, 2) := by decide +kernel
theorem d_Arrs_fill_l_6 : decode b_Arrs_fill_l 6 = .ok (.iload_n 3, 1) := by decide +kernel
theorem d_Arrs_fill_l_7 : decode b_Arrs_fill_l 7 = .ok (.iload 4, 2) := by decide +kernel
theorem d_Arrs_fill_l_9 : decode b_Arrs_fill_l 9 = .ok (.if_icmp .ge 13, 3) := by decide +kernel
theorem d_Arrs_fill_l_12 : decode b_Arrs_fill_l 12 = .ok (.aload_n 0, 1) := by decide +kernel
theorem d_Arrs_fill_l_13 : decode b_Arrs_fill_l 13 = .ok (.iload_n 3, 1) := by decide +kernel
theorem d_Arrs_fill_l_14 : decode b_Arrs_fill_l 14 = .ok (.lload_n 1, 1) := by decide +kernel
theorem d_Arrs_fill_l_15 : decode b_Arrs_fill_l 15 = .ok (.lastore, 1) := by decide +kernel
theorem d_Arrs_fill_l_16 : decode b_Arrs_fill_l 16 = .ok (.iinc 3 1, 3) := by decide +kernel
theorem d_Arrs_fill_l_19 : decode b_Arrs_fill_l 19 = .ok (.goto (-13), 3) := by decide +kernel
theorem d_Arrs_fill_l_22 : decode b_Arrs_fill_l 22 = .ok (.return_, 1) := by decide +kernel
