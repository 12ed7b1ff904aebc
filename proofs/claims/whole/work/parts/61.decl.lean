theorem d_Law_cell0_0 : decode b_Law_cell0 0 = .ok (.iload_n 1, 1) := by decide +kernel
theorem d_Law_cell0_1 : decode b_Law_cell0 1 = .ok (.aload_n 0, 1) := by decide +kernel
theorem d_Law_cell0_2 : decode b_Law_cell0 2 = .ok (.arraylength, 1) := by decide +kernel
theorem d_Law_cell0_3 : decode b_Law_cell0 3 = .ok (.if_icmp .ge 9, 3) := by decide +kernel
theorem d_Law_cell0_6 : decode b_Law_cell0 6 = .ok (.aload_n 0, 1) := by decide +kernel
theorem d_Law_cell0_7 : decode b_Law_cell0 7 = .ok (.iload_n 1, 1) := by decide +kernel
theorem d_Law_cell0_8 : decode b_Law_cell0 8 = .ok (.iaload, 1) := by decide +kernel
theorem d_Law_cell0_9 : decode b_Law_cell0 9 = .ok (.goto 4, 3) := by decide +kernel
theorem d_Law_cell0_12 : decode b_Law_cell0 12 = .ok (.iconst 0, 1) := by decide +kernel
theorem d_Law_cell0_13 : decode b_Law_cell0 13 = .ok (.ireturn, 1) := by decide +kernel
theorem d_Law_add_0 : decode b_Law_add 0 = .ok (.aload_n 3, 1) := by decide +kernel
theorem d_Law_add_1 : decode b_Law_add 1 = .ok (.iconst 0, 1) := by decide +kernel
theorem d_Law_add_2 : decode b_Law_add 2 = .ok (.aload_n 0, 1) := by decide +kernel
theorem d_Law_add_3 : decode b_Law_add 3 = .ok (.iload_n 1, 1) := by decide +kernel
theorem d_Law_add_4 : decode b_Law_add 4 = .ok (.iload_n 2, 1) := by decide +kernel
theorem d_Law_add_5 : decode b_Law_add 5 = .ok (.invokevirtual 7, 3) := by decide +kernel
theorem d_Law_add_8 : decode b_Law_add 8 = .ok (.i2l, 1) := by decide +kernel
theorem d_Law_add_9 : decode b_Law_add 9 = .ok (.lastore, 1) := by decide +kernel
theorem d_Law_add_10 : decode b_Law_add 10 = .ok (.goto 11, 3) := by decide +kernel
theorem d_Law_add_13 : decode b_Law_add 13 = .ok (.astore 4, 2) := by decide +kernel
theorem d_Law_add_15 : decode b_Law_add 15 = .ok (.iconst 1, 1) := by decide +kernel
theorem d_Law_add_16 : decode b_Law_add 16 = .ok (.ireturn, 1) := by decide +kernel
theorem d_Law_add_17 : decode b_Law_add 17 = .ok (.astore 4, 2) := by decide +kernel
theorem d_Law_add_19 : decode b_Law_add 19 = .ok (.iconst 2, 1) := by decide +kernel
theorem d_Law_add_20 : decode b_Law_add 20 = .ok (.ireturn, 1) := by decide +kernel
theorem d_Law_add_21 : decode b_Law_add 21 = .ok (.iconst 0, 1) := by decide +kernel
theorem d_Law_add_22 : decode b_Law_add 22 = .ok (.ireturn, 1) := by decide +kernel
theorem d_Law_cell1_0 : decode b_Law_cell1 0 = .ok (.aload_n 3, 1) := by decide +kernel
theorem d_Law_cell1_1 : decode b_Law_cell1 1 = .ok (.iconst 0, 1) := by decide +kernel
theorem d_Law_cell1_2 : decode b_Law_cell1 2 = .ok (.aload_n 0, 1) := by decide +kernel
theorem d_Law_cell1_3 : decode b_Law_cell1 3 = .ok (.iload_n 1, 1) := by decide +kernel
theorem d_Law_cell1_4 : decode b_Law_cell1 4 = .ok (.iload_n 2, 1) := by decide +kernel
theorem d_Law_cell1_5 : decode b_Law_cell1 5 = .ok (.invokevirtual 17, 3) := by decide +kernel
theorem d_Law_cell1_8 : decode b_Law_cell1 8 = .ok (.lastore, 1) := by decide +kernel
theorem d_Law_cell1_9 : decode b_Law_cell1 9 = .ok (.goto 7, 3) := by decide +kernel
theorem d_Law_cell1_12 : decode b_Law_cell1 12 = .ok (.astore 4, 2) := by decide +kernel
theorem d_Law_cell1_14 : decode b_Law_cell1 14 = .ok (.iconst 1, 1) := by decide +kernel
theorem d_Law_cell1_15 : decode b_Law_cell1 15 = .ok (.ireturn, 1) := by decide +kernel
theorem d_Law_cell1_16 : decode b_Law_cell1 16 = .ok (.iconst 0, 1) := by decide +kernel
theorem d_Law_cell1_17 : decode b_Law_cell1 17 = .ok (.ireturn, 1) := by decide +kernel
