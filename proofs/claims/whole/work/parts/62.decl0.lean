theorem d_Law_law_0 : decode code 0 = .ok (.new 8, 3) := by decide +kernel
theorem d_Law_law_3 : decode code 3 = .ok (.dup, 1) := by decide +kernel
theorem d_Law_law_4 : decode code 4 = .ok (.aload_n 0, 1) := by decide +kernel
theorem d_Law_law_5 : decode code 5 = .ok (.iconst 0, 1) := by decide +kernel
theorem d_Law_law_6 : decode code 6 = .ok (.invokestatic 23, 3) := by decide +kernel
theorem d_Law_law_9 : decode code 9 = .ok (.invokespecial 28, 3) := by decide +kernel
theorem d_Law_law_12 : decode code 12 = .ok (.astore_n 1, 1) := by decide +kernel
theorem d_Law_law_13 : decode code 13 = .ok (.new 31, 3) := by decide +kernel
theorem d_Law_law_16 : decode code 16 = .ok (.dup, 1) := by decide +kernel
theorem d_Law_law_17 : decode code 17 = .ok (.aload_n 0, 1) := by decide +kernel
theorem d_Law_law_18 : decode code 18 = .ok (.iconst 0, 1) := by decide +kernel
theorem d_Law_law_19 : decode code 19 = .ok (.invokestatic 23, 3) := by decide +kernel
theorem d_Law_law_22 : decode code 22 = .ok (.invokespecial 33, 3) := by decide +kernel
theorem d_Law_law_25 : decode code 25 = .ok (.astore_n 2, 1) := by decide +kernel
theorem d_Law_law_26 : decode code 26 = .ok (.iconst 1, 1) := by decide +kernel
theorem d_Law_law_27 : decode code 27 = .ok (.newarray .long, 2) := by decide +kernel
theorem d_Law_law_29 : decode code 29 = .ok (.astore_n 3, 1) := by decide +kernel
theorem d_Law_law_30 : decode code 30 = .ok (.iconst 1, 1) := by decide +kernel
theorem d_Law_law_31 : decode code 31 = .ok (.istore 4, 2) := by decide +kernel
theorem d_Law_law_33 : decode code 33 = .ok (.iload 4, 2) := by decide +kernel
theorem d_Law_law_35 : decode code 35 = .ok (.aload_n 0, 1) := by decide +kernel
theorem d_Law_law_36 : decode code 36 = .ok (.arraylength, 1) := by decide +kernel
theorem d_Law_law_37 : decode code 37 = .ok (.iconst 5, 1) := by decide +kernel
theorem d_Law_law_38 : decode code 38 = .ok (.isub, 1) := by decide +kernel
theorem d_Law_law_39 : decode code 39 = .ok (.if_icmp .gt 355, 3) := by decide +kernel
theorem d_Law_law_42 : decode code 42 = .ok (.aload_n 0, 1) := by decide +kernel
theorem d_Law_law_43 : decode code 43 = .ok (.iload 4, 2) := by decide +kernel
theorem d_Law_law_45 : decode code 45 = .ok (.iaload, 1) := by decide +kernel
theorem d_Law_law_46 : decode code 46 = .ok (.bipush 7, 2) := by decide +kernel
theorem d_Law_law_48 : decode code 48 = .ok (.iand, 1) := by decide +kernel
theorem d_Law_law_49 : decode code 49 = .ok (.tableswitch 339 0 6 #[43, 111, 148, 161, 222, 247, 314], 43) := by decide +kernel
theorem d_Law_law_92 : decode code 92 = .ok (.aload_n 1, 1) := by decide +kernel
theorem d_Law_law_93 : decode code 93 = .ok (.aload_n 0, 1) := by decide +kernel
theorem d_Law_law_94 : decode code 94 = .ok (.iload 4, 2) := by decide +kernel
theorem d_Law_law_96 : decode code 96 = .ok (.iconst 1, 1) := by decide +kernel
theorem d_Law_law_97 : decode code 97 = .ok (.iadd, 1) := by decide +kernel
theorem d_Law_law_98 : decode code 98 = .ok (.iaload, 1) := by decide +kernel
theorem d_Law_law_99 : decode code 99 = .ok (.aload_n 0, 1) := by decide +kernel
theorem d_Law_law_100 : decode code 100 = .ok (.iload 4, 2) := by decide +kernel
theorem d_Law_law_102 : decode code 102 = .ok (.iconst 2, 1) := by decide +kernel
theorem d_Law_law_103 : decode code 103 = .ok (.iadd, 1) := by decide +kernel
theorem d_Law_law_104 : decode code 104 = .ok (.iaload, 1) := by decide +kernel
theorem d_Law_law_105 : decode code 105 = .ok (.aload_n 3, 1) := by decide +kernel
theorem d_Law_law_106 : decode code 106 = .ok (.invokestatic 34, 3) := by decide +kernel
theorem d_Law_law_109 : decode code 109 = .ok (.istore 5, 2) := by decide +kernel
theorem d_Law_law_111 : decode code 111 = .ok (.aload_n 2, 1) := by decide +kernel
theorem d_Law_law_112 : decode code 112 = .ok (.aload_n 0, 1) := by decide +kernel
theorem d_Law_law_113 : decode code 113 = .ok (.iload 4, 2) := by decide +kernel
theorem d_Law_law_115 : decode code 115 = .ok (.iconst 1, 1) := by decide +kernel
theorem d_Law_law_116 : decode code 116 = .ok (.iadd, 1) := by decide +kernel
theorem d_Law_law_117 : decode code 117 = .ok (.iaload, 1) := by decide +kernel
theorem d_Law_law_118 : decode code 118 = .ok (.aload_n 0, 1) := by decide +kernel
theorem d_Law_law_119 : decode code 119 = .ok (.iload 4, 2) := by decide +kernel
theorem d_Law_law_121 : decode code 121 = .ok (.iconst 2, 1) := by decide +kernel
theorem d_Law_law_122 : decode code 122 = .ok (.iadd, 1) := by decide +kernel
theorem d_Law_law_123 : decode code 123 = .ok (.iaload, 1) := by decide +kernel
theorem d_Law_law_124 : decode code 124 = .ok (.invokevirtual 37, 3) := by decide +kernel
theorem d_Law_law_127 : decode code 127 = .ok (.istore 6, 2) := by decide +kernel
theorem d_Law_law_129 : decode code 129 = .ok (.aload_n 2, 1) := by decide +kernel
theorem d_Law_law_130 : decode code 130 = .ok (.invokevirtual 38, 3) := by decide +kernel
theorem d_Law_law_133 : decode code 133 = .ok (.iload 5, 2) := by decide +kernel
theorem d_Law_law_135 : decode code 135 = .ok (.if_icmp .eq 5, 3) := by decide +kernel
theorem d_Law_law_138 : decode code 138 = .ok (.iconst 0, 1) := by decide +kernel
theorem d_Law_law_139 : decode code 139 = .ok (.ireturn, 1) := by decide +kernel
theorem d_Law_law_140 : decode code 140 = .ok (.iload 5, 2) := by decide +kernel
theorem d_Law_law_142 : decode code 142 = .ok (.ifCond .ne 15, 3) := by decide +kernel
theorem d_Law_law_145 : decode code 145 = .ok (.aload_n 3, 1) := by decide +kernel
theorem d_Law_law_146 : decode code 146 = .ok (.iconst 0, 1) := by decide +kernel
theorem d_Law_law_147 : decode code 147 = .ok (.laload, 1) := by decide +kernel
theorem d_Law_law_148 : decode code 148 = .ok (.iload 6, 2) := by decide +kernel
theorem d_Law_law_150 : decode code 150 = .ok (.i2l, 1) := by decide +kernel
theorem d_Law_law_151 : decode code 151 = .ok (.lcmp, 1) := by decide +kernel
theorem d_Law_law_152 : decode code 152 = .ok (.ifCond .eq 5, 3) := by decide +kernel
theorem d_Law_law_155 : decode code 155 = .ok (.iconst 0, 1) := by decide +kernel
theorem d_Law_law_156 : decode code 156 = .ok (.ireturn, 1) := by decide +kernel
theorem d_Law_law_157 : decode code 157 = .ok (.goto 231, 3) := by decide +kernel
theorem d_Law_law_160 : decode code 160 = .ok (.aload_n 1, 1) := by decide +kernel
theorem d_Law_law_161 : decode code 161 = .ok (.aload_n 0, 1) := by decide +kernel
theorem d_Law_law_162 : decode code 162 = .ok (.iload 4, 2) := by decide +kernel
theorem d_Law_law_164 : decode code 164 = .ok (.iconst 1, 1) := by decide +kernel
