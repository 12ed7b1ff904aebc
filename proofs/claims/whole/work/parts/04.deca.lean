theorem d_Copy_init_0 : decode b_Copy_init 0 = .ok (.aload_n 0, 1) := by decide +kernel
theorem d_Copy_init_1 : decode b_Copy_init 1 = .ok (.invokespecial 3, 3) := by decide +kernel
theorem d_Copy_init_4 : decode b_Copy_init 4 = .ok (.aload_n 0, 1) := by decide +kernel
theorem d_Copy_init_5 : decode b_Copy_init 5 = .ok (.bipush 18, 2) := by decide +kernel
theorem d_Copy_init_7 : decode b_Copy_init 7 = .ok (.newarray .long, 2) := by decide +kernel
theorem d_Copy_init_9 : decode b_Copy_init 9 = .ok (.putfield 9, 3) := by decide +kernel
theorem d_Copy_init_12 : decode b_Copy_init 12 = .ok (.aload_n 0, 1) := by decide +kernel
theorem d_Copy_init_13 : decode b_Copy_init 13 = .ok (.iconst 4, 1) := by decide +kernel
theorem d_Copy_init_14 : decode b_Copy_init 14 = .ok (.newarray .long, 2) := by decide +kernel
theorem d_Copy_init_16 : decode b_Copy_init 16 = .ok (.putfield 15, 3) := by decide +kernel
theorem d_Copy_init_19 : decode b_Copy_init 19 = .ok (.aload_n 0, 1) := by decide +kernel
theorem d_Copy_init_20 : decode b_Copy_init 20 = .ok (.iconst 0, 1) := by decide +kernel
theorem d_Copy_init_21 : decode b_Copy_init 21 = .ok (.putfield 18, 3) := by decide +kernel
theorem d_Copy_init_24 : decode b_Copy_init 24 = .ok (.aload_n 0, 1) := by decide +kernel
theorem d_Copy_init_25 : decode b_Copy_init 25 = .ok (.lload_n 1, 1) := by decide +kernel
theorem d_Copy_init_26 : decode b_Copy_init 26 = .ok (.putfield 22, 3) := by decide +kernel
theorem d_Copy_init_29 : decode b_Copy_init 29 = .ok (.return_, 1) := by decide +kernel
theorem d_Copy_begin_0 : decode b_Copy_begin 0 = .ok (.aload_n 0, 1) := by decide +kernel
theorem d_Copy_begin_1 : decode b_Copy_begin 1 = .ok (.iconst 0, 1) := by decide +kernel
theorem d_Copy_begin_2 : decode b_Copy_begin 2 = .ok (.putfield 18, 3) := by decide +kernel
theorem d_Copy_begin_5 : decode b_Copy_begin 5 = .ok (.aload_n 0, 1) := by decide +kernel
theorem d_Copy_begin_6 : decode b_Copy_begin 6 = .ok (.getfield 9, 3) := by decide +kernel
theorem d_Copy_begin_9 : decode b_Copy_begin 9 = .ok (.bipush 16, 2) := by decide +kernel
theorem d_Copy_begin_11 : decode b_Copy_begin 11 = .ok (.lconst 0, 1) := by decide +kernel
theorem d_Copy_begin_12 : decode b_Copy_begin 12 = .ok (.lastore, 1) := by decide +kernel
theorem d_Copy_begin_13 : decode b_Copy_begin 13 = .ok (.aload_n 0, 1) := by decide +kernel
theorem d_Copy_begin_14 : decode b_Copy_begin 14 = .ok (.getfield 9, 3) := by decide +kernel
theorem d_Copy_begin_17 : decode b_Copy_begin 17 = .ok (.bipush 17, 2) := by decide +kernel
theorem d_Copy_begin_19 : decode b_Copy_begin 19 = .ok (.lconst 0, 1) := by decide +kernel
theorem d_Copy_begin_20 : decode b_Copy_begin 20 = .ok (.lastore, 1) := by decide +kernel
theorem d_Copy_begin_21 : decode b_Copy_begin 21 = .ok (.aload_n 0, 1) := by decide +kernel
theorem d_Copy_begin_22 : decode b_Copy_begin 22 = .ok (.getfield 15, 3) := by decide +kernel
theorem d_Copy_begin_25 : decode b_Copy_begin 25 = .ok (.lconst 0, 1) := by decide +kernel
theorem d_Copy_begin_26 : decode b_Copy_begin 26 = .ok (.invokestatic 26, 3) := by decide +kernel
theorem d_Copy_begin_29 : decode b_Copy_begin 29 = .ok (.return_, 1) := by decide +kernel
theorem d_Copy_multiply_0 : decode b_Copy_multiply 0 = .ok (.aload_n 0, 1) := by decide +kernel
theorem d_Copy_multiply_1 : decode b_Copy_multiply 1 = .ok (.getfield 9, 3) := by decide +kernel
theorem d_Copy_multiply_4 : decode b_Copy_multiply 4 = .ok (.bipush 16, 2) := by decide +kernel
theorem d_Copy_multiply_6 : decode b_Copy_multiply 6 = .ok (.laload, 1) := by decide +kernel
theorem d_Copy_multiply_7 : decode b_Copy_multiply 7 = .ok (.aload_n 0, 1) := by decide +kernel
theorem d_Copy_multiply_8 : decode b_Copy_multiply 8 = .ok (.getfield 9, 3) := by decide +kernel
theorem d_Copy_multiply_11 : decode b_Copy_multiply 11 = .ok (.bipush 17, 2) := by decide +kernel
theorem d_Copy_multiply_13 : decode b_Copy_multiply 13 = .ok (.laload, 1) := by decide +kernel
theorem d_Copy_multiply_14 : decode b_Copy_multiply 14 = .ok (.lmul, 1) := by decide +kernel
theorem d_Copy_multiply_15 : decode b_Copy_multiply 15 = .ok (.lstore_n 1, 1) := by decide +kernel
theorem d_Copy_multiply_16 : decode b_Copy_multiply 16 = .ok (.aload_n 0, 1) := by decide +kernel
theorem d_Copy_multiply_17 : decode b_Copy_multiply 17 = .ok (.getfield 9, 3) := by decide +kernel
theorem d_Copy_multiply_20 : decode b_Copy_multiply 20 = .ok (.bipush 16, 2) := by decide +kernel
theorem d_Copy_multiply_22 : decode b_Copy_multiply 22 = .ok (.laload, 1) := by decide +kernel
theorem d_Copy_multiply_23 : decode b_Copy_multiply 23 = .ok (.aload_n 0, 1) := by decide +kernel
theorem d_Copy_multiply_24 : decode b_Copy_multiply 24 = .ok (.getfield 9, 3) := by decide +kernel
theorem d_Copy_multiply_27 : decode b_Copy_multiply 27 = .ok (.bipush 17, 2) := by decide +kernel
theorem d_Copy_multiply_29 : decode b_Copy_multiply 29 = .ok (.laload, 1) := by decide +kernel
theorem d_Copy_multiply_30 : decode b_Copy_multiply 30 = .ok (.invokestatic 62, 3) := by decide +kernel
theorem d_Copy_multiply_33 : decode b_Copy_multiply 33 = .ok (.ifCond .ne 11, 3) := by decide +kernel
theorem d_Copy_multiply_36 : decode b_Copy_multiply 36 = .ok (.aload_n 0, 1) := by decide +kernel
theorem d_Copy_multiply_37 : decode b_Copy_multiply 37 = .ok (.lload_n 1, 1) := by decide +kernel
theorem d_Copy_multiply_38 : decode b_Copy_multiply 38 = .ok (.invokevirtual 66, 3) := by decide +kernel
theorem d_Copy_multiply_41 : decode b_Copy_multiply 41 = .ok (.ifCond .ne 5, 3) := by decide +kernel
theorem d_Copy_multiply_44 : decode b_Copy_multiply 44 = .ok (.iconst 2, 1) := by decide +kernel
theorem d_Copy_multiply_45 : decode b_Copy_multiply 45 = .ok (.ireturn, 1) := by decide +kernel
theorem d_Copy_multiply_46 : decode b_Copy_multiply 46 = .ok (.aload_n 0, 1) := by decide +kernel
theorem d_Copy_multiply_47 : decode b_Copy_multiply 47 = .ok (.getfield 9, 3) := by decide +kernel
theorem d_Copy_multiply_50 : decode b_Copy_multiply 50 = .ok (.bipush 16, 2) := by decide +kernel
theorem d_Copy_multiply_52 : decode b_Copy_multiply 52 = .ok (.aload_n 0, 1) := by decide +kernel
theorem d_Copy_multiply_53 : decode b_Copy_multiply 53 = .ok (.lload_n 1, 1) := by decide +kernel
theorem d_Copy_multiply_54 : decode b_Copy_multiply 54 = .ok (.invokevirtual 70, 3) := by decide +kernel
theorem d_Copy_multiply_57 : decode b_Copy_multiply 57 = .ok (.lastore, 1) := by decide +kernel
theorem d_Copy_multiply_58 : decode b_Copy_multiply 58 = .ok (.aload_n 0, 1) := by decide +kernel
theorem d_Copy_multiply_59 : decode b_Copy_multiply 59 = .ok (.invokevirtual 48, 3) := by decide +kernel
theorem d_Copy_multiply_62 : decode b_Copy_multiply 62 = .ok (.ireturn, 1) := by decide +kernel
theorem d_Copy_lookUp_0 : decode b_Copy_lookUp 0 = .ok (.aload_n 0, 1) := by decide +kernel
theorem d_Copy_lookUp_1 : decode b_Copy_lookUp 1 = .ok (.aload_n 0, 1) := by decide +kernel
theorem d_Copy_lookUp_2 : decode b_Copy_lookUp 2 = .ok (.getfield 9, 3) := by decide +kernel
theorem d_Copy_lookUp_5 : decode b_Copy_lookUp 5 = .ok (.bipush 16, 2) := by decide +kernel
theorem d_Copy_lookUp_7 : decode b_Copy_lookUp 7 = .ok (.laload, 1) := by decide +kernel
theorem d_Copy_lookUp_8 : decode b_Copy_lookUp 8 = .ok (.invokevirtual 66, 3) := by decide +kernel
theorem d_Copy_lookUp_11 : decode b_Copy_lookUp 11 = .ok (.ifCond .ne 5, 3) := by decide +kernel
theorem d_Copy_lookUp_14 : decode b_Copy_lookUp 14 = .ok (.iconst 2, 1) := by decide +kernel
theorem d_Copy_lookUp_15 : decode b_Copy_lookUp 15 = .ok (.ireturn, 1) := by decide +kernel
theorem d_Copy_lookUp_16 : decode b_Copy_lookUp 16 = .ok (.aload_n 0, 1) := by decide +kernel
theorem d_Copy_lookUp_17 : decode b_Copy_lookUp 17 = .ok (.aload_n 0, 1) := by decide +kernel
theorem d_Copy_lookUp_18 : decode b_Copy_lookUp 18 = .ok (.getfield 9, 3) := by decide +kernel
theorem d_Copy_lookUp_21 : decode b_Copy_lookUp 21 = .ok (.bipush 16, 2) := by decide +kernel
theorem d_Copy_lookUp_23 : decode b_Copy_lookUp 23 = .ok (.laload, 1) := by decide +kernel
theorem d_Copy_lookUp_24 : decode b_Copy_lookUp 24 = .ok (.invokevirtual 70, 3) := by decide +kernel
theorem d_Copy_lookUp_27 : decode b_Copy_lookUp 27 = .ok (.lstore_n 1, 1) := by decide +kernel
theorem d_Copy_lookUp_28 : decode b_Copy_lookUp 28 = .ok (.lload_n 1, 1) := by decide +kernel
theorem d_Copy_lookUp_29 : decode b_Copy_lookUp 29 = .ok (.lconst 0, 1) := by decide +kernel
theorem d_Copy_lookUp_30 : decode b_Copy_lookUp 30 = .ok (.lcmp, 1) := by decide +kernel
theorem d_Copy_lookUp_31 : decode b_Copy_lookUp 31 = .ok (.ifCond .lt 11, 3) := by decide +kernel
theorem d_Copy_lookUp_34 : decode b_Copy_lookUp 34 = .ok (.lload_n 1, 1) := by decide +kernel
theorem d_Copy_lookUp_35 : decode b_Copy_lookUp 35 = .ok (.ldc2_w 74, 3) := by decide +kernel
theorem d_Copy_lookUp_38 : decode b_Copy_lookUp 38 = .ok (.lcmp, 1) := by decide +kernel
theorem d_Copy_lookUp_39 : decode b_Copy_lookUp 39 = .ok (.ifCond .lt 5, 3) := by decide +kernel
theorem d_Copy_lookUp_42 : decode b_Copy_lookUp 42 = .ok (.iconst 2, 1) := by decide +kernel
theorem d_Copy_lookUp_43 : decode b_Copy_lookUp 43 = .ok (.ireturn, 1) := by decide +kernel
theorem d_Copy_lookUp_44 : decode b_Copy_lookUp 44 = .ok (.aload_n 0, 1) := by decide +kernel
theorem d_Copy_lookUp_45 : decode b_Copy_lookUp 45 = .ok (.getfield 9, 3) := by decide +kernel
theorem d_Copy_lookUp_48 : decode b_Copy_lookUp 48 = .ok (.bipush 16, 2) := by decide +kernel
theorem d_Copy_lookUp_50 : decode b_Copy_lookUp 50 = .ok (.aload_n 0, 1) := by decide +kernel
theorem d_Copy_lookUp_51 : decode b_Copy_lookUp 51 = .ok (.getfield 9, 3) := by decide +kernel
theorem d_Copy_lookUp_54 : decode b_Copy_lookUp 54 = .ok (.lload_n 1, 1) := by decide +kernel
theorem d_Copy_lookUp_55 : decode b_Copy_lookUp 55 = .ok (.l2i, 1) := by decide +kernel
theorem d_Copy_lookUp_56 : decode b_Copy_lookUp 56 = .ok (.laload, 1) := by decide +kernel
theorem d_Copy_lookUp_57 : decode b_Copy_lookUp 57 = .ok (.lastore, 1) := by decide +kernel
theorem d_Copy_lookUp_58 : decode b_Copy_lookUp 58 = .ok (.iconst 0, 1) := by decide +kernel
theorem d_Copy_lookUp_59 : decode b_Copy_lookUp 59 = .ok (.ireturn, 1) := by decide +kernel
theorem d_Copy_trapBeyondBound_0 : decode b_Copy_trapBeyondBound 0 = .ok (.ldc2_w 76, 3) := by decide +kernel
theorem d_Copy_trapBeyondBound_3 : decode b_Copy_trapBeyondBound 3 = .ok (.aload_n 0, 1) := by decide +kernel
theorem d_Copy_trapBeyondBound_4 : decode b_Copy_trapBeyondBound 4 = .ok (.getfield 22, 3) := by decide +kernel
theorem d_Copy_trapBeyondBound_7 : decode b_Copy_trapBeyondBound 7 = .ok (.lmul, 1) := by decide +kernel
theorem d_Copy_trapBeyondBound_8 : decode b_Copy_trapBeyondBound 8 = .ok (.lstore_n 1, 1) := by decide +kernel
theorem d_Copy_trapBeyondBound_9 : decode b_Copy_trapBeyondBound 9 = .ok (.aload_n 0, 1) := by decide +kernel
theorem d_Copy_trapBeyondBound_10 : decode b_Copy_trapBeyondBound 10 = .ok (.getfield 9, 3) := by decide +kernel
theorem d_Copy_trapBeyondBound_13 : decode b_Copy_trapBeyondBound 13 = .ok (.bipush 16, 2) := by decide +kernel
theorem d_Copy_trapBeyondBound_15 : decode b_Copy_trapBeyondBound 15 = .ok (.laload, 1) := by decide +kernel
theorem d_Copy_trapBeyondBound_16 : decode b_Copy_trapBeyondBound 16 = .ok (.lload_n 1, 1) := by decide +kernel
theorem d_Copy_trapBeyondBound_17 : decode b_Copy_trapBeyondBound 17 = .ok (.lcmp, 1) := by decide +kernel
theorem d_Copy_trapBeyondBound_18 : decode b_Copy_trapBeyondBound 18 = .ok (.ifCond .gt 16, 3) := by decide +kernel
theorem d_Copy_trapBeyondBound_21 : decode b_Copy_trapBeyondBound 21 = .ok (.aload_n 0, 1) := by decide +kernel
theorem d_Copy_trapBeyondBound_22 : decode b_Copy_trapBeyondBound 22 = .ok (.getfield 9, 3) := by decide +kernel
theorem d_Copy_trapBeyondBound_25 : decode b_Copy_trapBeyondBound 25 = .ok (.bipush 16, 2) := by decide +kernel
theorem d_Copy_trapBeyondBound_27 : decode b_Copy_trapBeyondBound 27 = .ok (.laload, 1) := by decide +kernel
theorem d_Copy_trapBeyondBound_28 : decode b_Copy_trapBeyondBound 28 = .ok (.lload_n 1, 1) := by decide +kernel
theorem d_Copy_trapBeyondBound_29 : decode b_Copy_trapBeyondBound 29 = .ok (.lneg, 1) := by decide +kernel
theorem d_Copy_trapBeyondBound_30 : decode b_Copy_trapBeyondBound 30 = .ok (.lcmp, 1) := by decide +kernel
theorem d_Copy_trapBeyondBound_31 : decode b_Copy_trapBeyondBound 31 = .ok (.ifCond .ge 7, 3) := by decide +kernel
theorem d_Copy_trapBeyondBound_34 : decode b_Copy_trapBeyondBound 34 = .ok (.iconst 2, 1) := by decide +kernel
theorem d_Copy_trapBeyondBound_35 : decode b_Copy_trapBeyondBound 35 = .ok (.goto 4, 3) := by decide +kernel
theorem d_Copy_trapBeyondBound_38 : decode b_Copy_trapBeyondBound 38 = .ok (.iconst 0, 1) := by decide +kernel
theorem d_Copy_trapBeyondBound_39 : decode b_Copy_trapBeyondBound 39 = .ok (.ireturn, 1) := by decide +kernel
theorem d_Copy_isMultiple_0 : decode b_Copy_isMultiple 0 = .ok (.aload_n 0, 1) := by decide +kernel
theorem d_Copy_isMultiple_1 : decode b_Copy_isMultiple 1 = .ok (.getfield 22, 3) := by decide +kernel
theorem d_Copy_isMultiple_4 : decode b_Copy_isMultiple 4 = .ok (.lconst 0, 1) := by decide +kernel
theorem d_Copy_isMultiple_5 : decode b_Copy_isMultiple 5 = .ok (.lcmp, 1) := by decide +kernel
theorem d_Copy_isMultiple_6 : decode b_Copy_isMultiple 6 = .ok (.ifCond .eq 18, 3) := by decide +kernel
theorem d_Copy_isMultiple_9 : decode b_Copy_isMultiple 9 = .ok (.lload_n 1, 1) := by decide +kernel
theorem d_Copy_isMultiple_10 : decode b_Copy_isMultiple 10 = .ok (.aload_n 0, 1) := by decide +kernel
theorem d_Copy_isMultiple_11 : decode b_Copy_isMultiple 11 = .ok (.getfield 22, 3) := by decide +kernel
theorem d_Copy_isMultiple_14 : decode b_Copy_isMultiple 14 = .ok (.lrem, 1) := by decide +kernel
theorem d_Copy_isMultiple_15 : decode b_Copy_isMultiple 15 = .ok (.lconst 0, 1) := by decide +kernel
theorem d_Copy_isMultiple_16 : decode b_Copy_isMultiple 16 = .ok (.lcmp, 1) := by decide +kernel
theorem d_Copy_isMultiple_17 : decode b_Copy_isMultiple 17 = .ok (.ifCond .ne 7, 3) := by decide +kernel
theorem d_Copy_isMultiple_20 : decode b_Copy_isMultiple 20 = .ok (.iconst 1, 1) := by decide +kernel
theorem d_Copy_isMultiple_21 : decode b_Copy_isMultiple 21 = .ok (.goto 4, 3) := by decide +kernel
theorem d_Copy_isMultiple_24 : decode b_Copy_isMultiple 24 = .ok (.iconst 0, 1) := by decide +kernel
theorem d_Copy_isMultiple_25 : decode b_Copy_isMultiple 25 = .ok (.ireturn, 1) := by decide +kernel
theorem d_Copy_part_0 : decode b_Copy_part 0 = .ok (.aload_n 0, 1) := by decide +kernel
theorem d_Copy_part_1 : decode b_Copy_part 1 = .ok (.getfield 22, 3) := by decide +kernel
theorem d_Copy_part_4 : decode b_Copy_part 4 = .ok (.lconst 0, 1) := by decide +kernel
theorem d_Copy_part_5 : decode b_Copy_part 5 = .ok (.lcmp, 1) := by decide +kernel
theorem d_Copy_part_6 : decode b_Copy_part 6 = .ok (.ifCond .eq 12, 3) := by decide +kernel
theorem d_Copy_part_9 : decode b_Copy_part 9 = .ok (.lload_n 1, 1) := by decide +kernel
theorem d_Copy_part_10 : decode b_Copy_part 10 = .ok (.aload_n 0, 1) := by decide +kernel
theorem d_Copy_part_11 : decode b_Copy_part 11 = .ok (.getfield 22, 3) := by decide +kernel
theorem d_Copy_part_14 : decode b_Copy_part 14 = .ok (.ldiv, 1) := by decide +kernel
theorem d_Copy_part_15 : decode b_Copy_part 15 = .ok (.goto 4, 3) := by decide +kernel
theorem d_Copy_part_18 : decode b_Copy_part 18 = .ok (.lconst 0, 1) := by decide +kernel
theorem d_Copy_part_19 : decode b_Copy_part 19 = .ok (.lreturn, 1) := by decide +kernel
theorem d_Copy_isProductBeyond64Bits_0 : decode b_Copy_isProductBeyond64Bits 0 = .ok (.lload_n 0, 1) := by decide +kernel
theorem d_Copy_isProductBeyond64Bits_1 : decode b_Copy_isProductBeyond64Bits 1 = .ok (.lconst 0, 1) := by decide +kernel
theorem d_Copy_isProductBeyond64Bits_2 : decode b_Copy_isProductBeyond64Bits 2 = .ok (.lcmp, 1) := by decide +kernel
theorem d_Copy_isProductBeyond64Bits_3 : decode b_Copy_isProductBeyond64Bits 3 = .ok (.ifCond .ne 5, 3) := by decide +kernel
theorem d_Copy_isProductBeyond64Bits_6 : decode b_Copy_isProductBeyond64Bits 6 = .ok (.iconst 0, 1) := by decide +kernel
theorem d_Copy_isProductBeyond64Bits_7 : decode b_Copy_isProductBeyond64Bits 7 = .ok (.ireturn, 1) := by decide +kernel
theorem d_Copy_isProductBeyond64Bits_8 : decode b_Copy_isProductBeyond64Bits 8 = .ok (.lload_n 0, 1) := by decide +kernel
theorem d_Copy_isProductBeyond64Bits_9 : decode b_Copy_isProductBeyond64Bits 9 = .ok (.ldc2_w 78, 3) := by decide +kernel
theorem d_Copy_isProductBeyond64Bits_12 : decode b_Copy_isProductBeyond64Bits 12 = .ok (.lcmp, 1) := by decide +kernel
theorem d_Copy_isProductBeyond64Bits_13 : decode b_Copy_isProductBeyond64Bits 13 = .ok (.ifCond .ne 17, 3) := by decide +kernel
theorem d_Copy_isProductBeyond64Bits_16 : decode b_Copy_isProductBeyond64Bits 16 = .ok (.lload_n 2, 1) := by decide +kernel
theorem d_Copy_isProductBeyond64Bits_17 : decode b_Copy_isProductBeyond64Bits 17 = .ok (.ldc2_w 82, 3) := by decide +kernel
theorem d_Copy_isProductBeyond64Bits_20 : decode b_Copy_isProductBeyond64Bits 20 = .ok (.lcmp, 1) := by decide +kernel
theorem d_Copy_isProductBeyond64Bits_21 : decode b_Copy_isProductBeyond64Bits 21 = .ok (.ifCond .ne 7, 3) := by decide +kernel
theorem d_Copy_isProductBeyond64Bits_24 : decode b_Copy_isProductBeyond64Bits 24 = .ok (.iconst 1, 1) := by decide +kernel
theorem d_Copy_isProductBeyond64Bits_25 : decode b_Copy_isProductBeyond64Bits 25 = .ok (.goto 4, 3) := by decide +kernel
theorem d_Copy_isProductBeyond64Bits_28 : decode b_Copy_isProductBeyond64Bits 28 = .ok (.iconst 0, 1) := by decide +kernel
theorem d_Copy_isProductBeyond64Bits_29 : decode b_Copy_isProductBeyond64Bits 29 = .ok (.ireturn, 1) := by decide +kernel
theorem d_Copy_isProductBeyond64Bits_30 : decode b_Copy_isProductBeyond64Bits 30 = .ok (.lload_n 0, 1) := by decide +kernel
theorem d_Copy_isProductBeyond64Bits_31 : decode b_Copy_isProductBeyond64Bits 31 = .ok (.lload_n 2, 1) := by decide +kernel
theorem d_Copy_isProductBeyond64Bits_32 : decode b_Copy_isProductBeyond64Bits 32 = .ok (.lmul, 1) := by decide +kernel
theorem d_Copy_isProductBeyond64Bits_33 : decode b_Copy_isProductBeyond64Bits 33 = .ok (.lload_n 0, 1) := by decide +kernel
theorem d_Copy_isProductBeyond64Bits_34 : decode b_Copy_isProductBeyond64Bits 34 = .ok (.ldiv, 1) := by decide +kernel
theorem d_Copy_isProductBeyond64Bits_35 : decode b_Copy_isProductBeyond64Bits 35 = .ok (.lload_n 2, 1) := by decide +kernel
theorem d_Copy_isProductBeyond64Bits_36 : decode b_Copy_isProductBeyond64Bits 36 = .ok (.lcmp, 1) := by decide +kernel
theorem d_Copy_isProductBeyond64Bits_37 : decode b_Copy_isProductBeyond64Bits 37 = .ok (.ifCond .eq 7, 3) := by decide +kernel
theorem d_Copy_isProductBeyond64Bits_40 : decode b_Copy_isProductBeyond64Bits 40 = .ok (.iconst 1, 1) := by decide +kernel
theorem d_Copy_isProductBeyond64Bits_41 : decode b_Copy_isProductBeyond64Bits 41 = .ok (.goto 4, 3) := by decide +kernel
theorem d_Copy_isProductBeyond64Bits_44 : decode b_Copy_isProductBeyond64Bits 44 = .ok (.iconst 0, 1) := by decide +kernel
theorem d_Copy_isProductBeyond64Bits_45 : decode b_Copy_isProductBeyond64Bits 45 = .ok (.ireturn, 1) := by decide +kernel
theorem d_Plan_init_0 : decode b_Plan_init 0 = .ok (.aload_n 0, 1) := by decide +kernel
theorem d_Plan_init_1 : decode b_Plan_init 1 = .ok (.invokespecial 3, 3) := by decide +kernel
theorem d_Plan_init_4 : decode b_Plan_init 4 = .ok (.aload_n 0, 1) := by decide +kernel
theorem d_Plan_init_5 : decode b_Plan_init 5 = .ok (.iconst 4, 1) := by decide +kernel
theorem d_Plan_init_6 : decode b_Plan_init 6 = .ok (.newarray .int, 2) := by decide +kernel
theorem d_Plan_init_8 : decode b_Plan_init 8 = .ok (.putfield 9, 3) := by decide +kernel
theorem d_Plan_init_11 : decode b_Plan_init 11 = .ok (.aload_n 0, 1) := by decide +kernel
theorem d_Plan_init_12 : decode b_Plan_init 12 = .ok (.iconst 4, 1) := by decide +kernel
theorem d_Plan_init_13 : decode b_Plan_init 13 = .ok (.newarray .int, 2) := by decide +kernel
theorem d_Plan_init_15 : decode b_Plan_init 15 = .ok (.putfield 15, 3) := by decide +kernel
theorem d_Plan_init_18 : decode b_Plan_init 18 = .ok (.aload_n 0, 1) := by decide +kernel
theorem d_Plan_init_19 : decode b_Plan_init 19 = .ok (.iconst 4, 1) := by decide +kernel
theorem d_Plan_init_20 : decode b_Plan_init 20 = .ok (.newarray .int, 2) := by decide +kernel
theorem d_Plan_init_22 : decode b_Plan_init 22 = .ok (.putfield 18, 3) := by decide +kernel
theorem d_Plan_init_25 : decode b_Plan_init 25 = .ok (.aload_n 0, 1) := by decide +kernel
theorem d_Plan_init_26 : decode b_Plan_init 26 = .ok (.iconst 4, 1) := by decide +kernel
theorem d_Plan_init_27 : decode b_Plan_init 27 = .ok (.newarray .int, 2) := by decide +kernel
theorem d_Plan_init_29 : decode b_Plan_init 29 = .ok (.putfield 21, 3) := by decide +kernel
theorem d_Plan_init_32 : decode b_Plan_init 32 = .ok (.aload_n 0, 1) := by decide +kernel
theorem d_Plan_init_33 : decode b_Plan_init 33 = .ok (.iconst 0, 1) := by decide +kernel
theorem d_Plan_init_34 : decode b_Plan_init 34 = .ok (.putfield 24, 3) := by decide +kernel
theorem d_Plan_init_37 : decode b_Plan_init 37 = .ok (.return_, 1) := by decide +kernel
theorem d_Plan_isFull_0 : decode b_Plan_isFull 0 = .ok (.aload_n 0, 1) := by decide +kernel
theorem d_Plan_isFull_1 : decode b_Plan_isFull 1 = .ok (.getfield 24, 3) := by decide +kernel
theorem d_Plan_isFull_4 : decode b_Plan_isFull 4 = .ok (.iconst 4, 1) := by decide +kernel
theorem d_Plan_isFull_5 : decode b_Plan_isFull 5 = .ok (.if_icmp .lt 7, 3) := by decide +kernel
theorem d_Plan_isFull_8 : decode b_Plan_isFull 8 = .ok (.iconst 1, 1) := by decide +kernel
theorem d_Plan_isFull_9 : decode b_Plan_isFull 9 = .ok (.goto 4, 3) := by decide +kernel
theorem d_Plan_isFull_12 : decode b_Plan_isFull 12 = .ok (.iconst 0, 1) := by decide +kernel
theorem d_Plan_isFull_13 : decode b_Plan_isFull 13 = .ok (.ireturn, 1) := by decide +kernel
theorem d_Plan_append_0 : decode b_Plan_append 0 = .ok (.aload_n 0, 1) := by decide +kernel
theorem d_Plan_append_1 : decode b_Plan_append 1 = .ok (.getfield 9, 3) := by decide +kernel
theorem d_Plan_append_4 : decode b_Plan_append 4 = .ok (.aload_n 0, 1) := by decide +kernel
theorem d_Plan_append_5 : decode b_Plan_append 5 = .ok (.getfield 24, 3) := by decide +kernel
theorem d_Plan_append_8 : decode b_Plan_append 8 = .ok (.iload_n 1, 1) := by decide +kernel
theorem d_Plan_append_9 : decode b_Plan_append 9 = .ok (.iastore, 1) := by decide +kernel
theorem d_Plan_append_10 : decode b_Plan_append 10 = .ok (.aload_n 0, 1) := by decide +kernel
theorem d_Plan_append_11 : decode b_Plan_append 11 = .ok (.getfield 15, 3) := by decide +kernel
theorem d_Plan_append_14 : decode b_Plan_append 14 = .ok (.aload_n 0, 1) := by decide +kernel
theorem d_Plan_append_15 : decode b_Plan_append 15 = .ok (.getfield 24, 3) := by decide +kernel
theorem d_Plan_append_18 : decode b_Plan_append 18 = .ok (.iload_n 2, 1) := by decide +kernel
theorem d_Plan_append_19 : decode b_Plan_append 19 = .ok (.iastore, 1) := by decide +kernel
theorem d_Plan_append_20 : decode b_Plan_append 20 = .ok (.aload_n 0, 1) := by decide +kernel
theorem d_Plan_append_21 : decode b_Plan_append 21 = .ok (.getfield 18, 3) := by decide +kernel
theorem d_Plan_append_24 : decode b_Plan_append 24 = .ok (.aload_n 0, 1) := by decide +kernel
theorem d_Plan_append_25 : decode b_Plan_append 25 = .ok (.getfield 24, 3) := by decide +kernel
theorem d_Plan_append_28 : decode b_Plan_append 28 = .ok (.iload_n 3, 1) := by decide +kernel
theorem d_Plan_append_29 : decode b_Plan_append 29 = .ok (.iastore, 1) := by decide +kernel
theorem d_Plan_append_30 : decode b_Plan_append 30 = .ok (.aload_n 0, 1) := by decide +kernel
theorem d_Plan_append_31 : decode b_Plan_append 31 = .ok (.getfield 21, 3) := by decide +kernel
theorem d_Plan_append_34 : decode b_Plan_append 34 = .ok (.aload_n 0, 1) := by decide +kernel
theorem d_Plan_append_35 : decode b_Plan_append 35 = .ok (.getfield 24, 3) := by decide +kernel
theorem d_Plan_append_38 : decode b_Plan_append 38 = .ok (.iload 4, 2) := by decide +kernel
theorem d_Plan_append_40 : decode b_Plan_append 40 = .ok (.iastore, 1) := by decide +kernel
theorem d_Plan_append_41 : decode b_Plan_append 41 = .ok (.aload_n 0, 1) := by decide +kernel
theorem d_Plan_append_42 : decode b_Plan_append 42 = .ok (.dup, 1) := by decide +kernel
theorem d_Plan_append_43 : decode b_Plan_append 43 = .ok (.getfield 24, 3) := by decide +kernel
theorem d_Plan_append_46 : decode b_Plan_append 46 = .ok (.iconst 1, 1) := by decide +kernel
theorem d_Plan_append_47 : decode b_Plan_append 47 = .ok (.iadd, 1) := by decide +kernel
theorem d_Plan_append_48 : decode b_Plan_append 48 = .ok (.putfield 24, 3) := by decide +kernel
theorem d_Plan_append_51 : decode b_Plan_append 51 = .ok (.return_, 1) := by decide +kernel
theorem d_Plan_forgetAll_0 : decode b_Plan_forgetAll 0 = .ok (.aload_n 0, 1) := by decide +kernel
theorem d_Plan_forgetAll_1 : decode b_Plan_forgetAll 1 = .ok (.iconst 0, 1) := by decide +kernel
theorem d_Plan_forgetAll_2 : decode b_Plan_forgetAll 2 = .ok (.putfield 24, 3) := by decide +kernel
theorem d_Plan_forgetAll_5 : decode b_Plan_forgetAll 5 = .ok (.return_, 1) := by decide +kernel
theorem d_Prog_init_0 : decode b_Prog_init 0 = .ok (.aload_n 0, 1) := by decide +kernel
theorem d_Prog_init_1 : decode b_Prog_init 1 = .ok (.invokespecial 3, 3) := by decide +kernel
theorem d_Prog_init_4 : decode b_Prog_init 4 = .ok (.aload_n 0, 1) := by decide +kernel
theorem d_Prog_init_5 : decode b_Prog_init 5 = .ok (.bipush 100, 2) := by decide +kernel
theorem d_Prog_init_7 : decode b_Prog_init 7 = .ok (.newarray .int, 2) := by decide +kernel
theorem d_Prog_init_9 : decode b_Prog_init 9 = .ok (.putfield 9, 3) := by decide +kernel
theorem d_Prog_init_12 : decode b_Prog_init 12 = .ok (.aload_n 0, 1) := by decide +kernel
theorem d_Prog_init_13 : decode b_Prog_init 13 = .ok (.bipush 100, 2) := by decide +kernel
theorem d_Prog_init_15 : decode b_Prog_init 15 = .ok (.newarray .int, 2) := by decide +kernel
theorem d_Prog_init_17 : decode b_Prog_init 17 = .ok (.putfield 15, 3) := by decide +kernel
theorem d_Prog_init_20 : decode b_Prog_init 20 = .ok (.aload_n 0, 1) := by decide +kernel
theorem d_Prog_init_21 : decode b_Prog_init 21 = .ok (.iconst 0, 1) := by decide +kernel
theorem d_Prog_init_22 : decode b_Prog_init 22 = .ok (.putfield 18, 3) := by decide +kernel
theorem d_Prog_init_25 : decode b_Prog_init 25 = .ok (.return_, 1) := by decide +kernel
theorem d_Prog_isFull_0 : decode b_Prog_isFull 0 = .ok (.aload_n 0, 1) := by decide +kernel
theorem d_Prog_isFull_1 : decode b_Prog_isFull 1 = .ok (.getfield 18, 3) := by decide +kernel
theorem d_Prog_isFull_4 : decode b_Prog_isFull 4 = .ok (.bipush 100, 2) := by decide +kernel
theorem d_Prog_isFull_6 : decode b_Prog_isFull 6 = .ok (.if_icmp .lt 7, 3) := by decide +kernel
theorem d_Prog_isFull_9 : decode b_Prog_isFull 9 = .ok (.iconst 1, 1) := by decide +kernel
theorem d_Prog_isFull_10 : decode b_Prog_isFull 10 = .ok (.goto 4, 3) := by decide +kernel
theorem d_Prog_isFull_13 : decode b_Prog_isFull 13 = .ok (.iconst 0, 1) := by decide +kernel
theorem d_Prog_isFull_14 : decode b_Prog_isFull 14 = .ok (.ireturn, 1) := by decide +kernel
theorem d_Prog_append_0 : decode b_Prog_append 0 = .ok (.aload_n 0, 1) := by decide +kernel
theorem d_Prog_append_1 : decode b_Prog_append 1 = .ok (.getfield 9, 3) := by decide +kernel
theorem d_Prog_append_4 : decode b_Prog_append 4 = .ok (.aload_n 0, 1) := by decide +kernel
theorem d_Prog_append_5 : decode b_Prog_append 5 = .ok (.getfield 18, 3) := by decide +kernel
theorem d_Prog_append_8 : decode b_Prog_append 8 = .ok (.iload_n 1, 1) := by decide +kernel
theorem d_Prog_append_9 : decode b_Prog_append 9 = .ok (.iastore, 1) := by decide +kernel
theorem d_Prog_append_10 : decode b_Prog_append 10 = .ok (.aload_n 0, 1) := by decide +kernel
theorem d_Prog_append_11 : decode b_Prog_append 11 = .ok (.getfield 15, 3) := by decide +kernel
theorem d_Prog_append_14 : decode b_Prog_append 14 = .ok (.aload_n 0, 1) := by decide +kernel
theorem d_Prog_append_15 : decode b_Prog_append 15 = .ok (.getfield 18, 3) := by decide +kernel
theorem d_Prog_append_18 : decode b_Prog_append 18 = .ok (.iload_n 2, 1) := by decide +kernel
theorem d_Prog_append_19 : decode b_Prog_append 19 = .ok (.iastore, 1) := by decide +kernel
theorem d_Prog_append_20 : decode b_Prog_append 20 = .ok (.aload_n 0, 1) := by decide +kernel
theorem d_Prog_append_21 : decode b_Prog_append 21 = .ok (.dup, 1) := by decide +kernel
theorem d_Prog_append_22 : decode b_Prog_append 22 = .ok (.getfield 18, 3) := by decide +kernel
theorem d_Prog_append_25 : decode b_Prog_append 25 = .ok (.iconst 1, 1) := by decide +kernel
theorem d_Prog_append_26 : decode b_Prog_append 26 = .ok (.iadd, 1) := by decide +kernel
theorem d_Prog_append_27 : decode b_Prog_append 27 = .ok (.putfield 18, 3) := by decide +kernel
theorem d_Prog_append_30 : decode b_Prog_append 30 = .ok (.return_, 1) := by decide +kernel
