/-! each instruction, decoded -/
theorem d_La_order_0 : decode b_La_order 0 = .ok (.aload_n 0, 1) := by decide +kernel
theorem d_La_order_1 : decode b_La_order 1 = .ok (.iload_n 1, 1) := by decide +kernel
theorem d_La_order_2 : decode b_La_order 2 = .ok (.iload_n 2, 1) := by decide +kernel
theorem d_La_order_3 : decode b_La_order 3 = .ok (.invokevirtual 7, 3) := by decide +kernel
theorem d_La_order_6 : decode b_La_order 6 = .ok (.goto 6, 3) := by decide +kernel
theorem d_La_order_9 : decode b_La_order 9 = .ok (.astore_n 3, 1) := by decide +kernel
theorem d_La_order_10 : decode b_La_order 10 = .ok (.iconst 1, 1) := by decide +kernel
theorem d_La_order_11 : decode b_La_order 11 = .ok (.ireturn, 1) := by decide +kernel
theorem d_La_order_12 : decode b_La_order 12 = .ok (.iconst 0, 1) := by decide +kernel
theorem d_La_order_13 : decode b_La_order 13 = .ok (.ireturn, 1) := by decide +kernel
theorem d_La_line_0 : decode b_La_line 0 = .ok (.aload 5, 2) := by decide +kernel
theorem d_La_line_2 : decode b_La_line 2 = .ok (.iconst 0, 1) := by decide +kernel
theorem d_La_line_3 : decode b_La_line 3 = .ok (.aload_n 0, 1) := by decide +kernel
theorem d_La_line_4 : decode b_La_line 4 = .ok (.iload_n 1, 1) := by decide +kernel
theorem d_La_line_5 : decode b_La_line 5 = .ok (.iload_n 2, 1) := by decide +kernel
theorem d_La_line_6 : decode b_La_line 6 = .ok (.iload_n 3, 1) := by decide +kernel
theorem d_La_line_7 : decode b_La_line 7 = .ok (.iload 4, 2) := by decide +kernel
theorem d_La_line_9 : decode b_La_line 9 = .ok (.invokevirtual 15, 3) := by decide +kernel
theorem d_La_line_12 : decode b_La_line 12 = .ok (.i2l, 1) := by decide +kernel
theorem d_La_line_13 : decode b_La_line 13 = .ok (.lastore, 1) := by decide +kernel
theorem d_La_line_14 : decode b_La_line 14 = .ok (.goto 11, 3) := by decide +kernel
theorem d_La_line_17 : decode b_La_line 17 = .ok (.astore 6, 2) := by decide +kernel
theorem d_La_line_19 : decode b_La_line 19 = .ok (.iconst 1, 1) := by decide +kernel
theorem d_La_line_20 : decode b_La_line 20 = .ok (.ireturn, 1) := by decide +kernel
theorem d_La_line_21 : decode b_La_line 21 = .ok (.astore 6, 2) := by decide +kernel
theorem d_La_line_23 : decode b_La_line 23 = .ok (.iconst 2, 1) := by decide +kernel
theorem d_La_line_24 : decode b_La_line 24 = .ok (.ireturn, 1) := by decide +kernel
theorem d_La_line_25 : decode b_La_line 25 = .ok (.iconst 0, 1) := by decide +kernel
theorem d_La_line_26 : decode b_La_line 26 = .ok (.ireturn, 1) := by decide +kernel
theorem d_La_element_0 : decode b_La_element 0 = .ok (.aload 5, 2) := by decide +kernel
theorem d_La_element_2 : decode b_La_element 2 = .ok (.iconst 0, 1) := by decide +kernel
theorem d_La_element_3 : decode b_La_element 3 = .ok (.aload_n 0, 1) := by decide +kernel
theorem d_La_element_4 : decode b_La_element 4 = .ok (.iload_n 1, 1) := by decide +kernel
theorem d_La_element_5 : decode b_La_element 5 = .ok (.iload_n 2, 1) := by decide +kernel
theorem d_La_element_6 : decode b_La_element 6 = .ok (.iload_n 3, 1) := by decide +kernel
theorem d_La_element_7 : decode b_La_element 7 = .ok (.iload 4, 2) := by decide +kernel
theorem d_La_element_9 : decode b_La_element 9 = .ok (.invokevirtual 21, 3) := by decide +kernel
theorem d_La_element_12 : decode b_La_element 12 = .ok (.i2l, 1) := by decide +kernel
theorem d_La_element_13 : decode b_La_element 13 = .ok (.lastore, 1) := by decide +kernel
theorem d_La_element_14 : decode b_La_element 14 = .ok (.goto 11, 3) := by decide +kernel
theorem d_La_element_17 : decode b_La_element 17 = .ok (.astore 6, 2) := by decide +kernel
theorem d_La_element_19 : decode b_La_element 19 = .ok (.iconst 1, 1) := by decide +kernel
theorem d_La_element_20 : decode b_La_element 20 = .ok (.ireturn, 1) := by decide +kernel
theorem d_La_element_21 : decode b_La_element 21 = .ok (.astore 6, 2) := by decide +kernel
theorem d_La_element_23 : decode b_La_element 23 = .ok (.iconst 2, 1) := by decide +kernel
theorem d_La_element_24 : decode b_La_element 24 = .ok (.ireturn, 1) := by decide +kernel
theorem d_La_element_25 : decode b_La_element 25 = .ok (.iconst 0, 1) := by decide +kernel
theorem d_La_element_26 : decode b_La_element 26 = .ok (.ireturn, 1) := by decide +kernel
theorem d_La_add_0 : decode b_La_add 0 = .ok (.aload_n 3, 1) := by decide +kernel
theorem d_La_add_1 : decode b_La_add 1 = .ok (.iconst 0, 1) := by decide +kernel
theorem d_La_add_2 : decode b_La_add 2 = .ok (.aload_n 0, 1) := by decide +kernel
theorem d_La_add_3 : decode b_La_add 3 = .ok (.iload_n 1, 1) := by decide +kernel
theorem d_La_add_4 : decode b_La_add 4 = .ok (.iload_n 2, 1) := by decide +kernel
theorem d_La_add_5 : decode b_La_add 5 = .ok (.invokevirtual 25, 3) := by decide +kernel
theorem d_La_add_8 : decode b_La_add 8 = .ok (.i2l, 1) := by decide +kernel
theorem d_La_add_9 : decode b_La_add 9 = .ok (.lastore, 1) := by decide +kernel
theorem d_La_add_10 : decode b_La_add 10 = .ok (.goto 11, 3) := by decide +kernel
theorem d_La_add_13 : decode b_La_add 13 = .ok (.astore 4, 2) := by decide +kernel
theorem d_La_add_15 : decode b_La_add 15 = .ok (.iconst 1, 1) := by decide +kernel
theorem d_La_add_16 : decode b_La_add 16 = .ok (.ireturn, 1) := by decide +kernel
theorem d_La_add_17 : decode b_La_add 17 = .ok (.astore 4, 2) := by decide +kernel
theorem d_La_add_19 : decode b_La_add 19 = .ok (.iconst 2, 1) := by decide +kernel
theorem d_La_add_20 : decode b_La_add 20 = .ok (.ireturn, 1) := by decide +kernel
theorem d_La_add_21 : decode b_La_add 21 = .ok (.iconst 0, 1) := by decide +kernel
theorem d_La_add_22 : decode b_La_add 22 = .ok (.ireturn, 1) := by decide +kernel
theorem d_La_clear_0 : decode b_La_clear 0 = .ok (.aload_n 2, 1) := by decide +kernel
theorem d_La_clear_1 : decode b_La_clear 1 = .ok (.iconst 0, 1) := by decide +kernel
theorem d_La_clear_2 : decode b_La_clear 2 = .ok (.aload_n 0, 1) := by decide +kernel
theorem d_La_clear_3 : decode b_La_clear 3 = .ok (.iload_n 1, 1) := by decide +kernel
theorem d_La_clear_4 : decode b_La_clear 4 = .ok (.invokevirtual 29, 3) := by decide +kernel
theorem d_La_clear_7 : decode b_La_clear 7 = .ok (.i2l, 1) := by decide +kernel
theorem d_La_clear_8 : decode b_La_clear 8 = .ok (.lastore, 1) := by decide +kernel
theorem d_La_clear_9 : decode b_La_clear 9 = .ok (.goto 6, 3) := by decide +kernel
theorem d_La_clear_12 : decode b_La_clear 12 = .ok (.astore_n 3, 1) := by decide +kernel
theorem d_La_clear_13 : decode b_La_clear 13 = .ok (.iconst 1, 1) := by decide +kernel
theorem d_La_clear_14 : decode b_La_clear 14 = .ok (.ireturn, 1) := by decide +kernel
theorem d_La_clear_15 : decode b_La_clear 15 = .ok (.iconst 0, 1) := by decide +kernel
theorem d_La_clear_16 : decode b_La_clear 16 = .ok (.ireturn, 1) := by decide +kernel
theorem d_La_count_0 : decode b_La_count 0 = .ok (.aload_n 3, 1) := by decide +kernel
theorem d_La_count_1 : decode b_La_count 1 = .ok (.iconst 0, 1) := by decide +kernel
theorem d_La_count_2 : decode b_La_count 2 = .ok (.aload_n 0, 1) := by decide +kernel
theorem d_La_count_3 : decode b_La_count 3 = .ok (.iload_n 1, 1) := by decide +kernel
theorem d_La_count_4 : decode b_La_count 4 = .ok (.iload_n 2, 1) := by decide +kernel
theorem d_La_count_5 : decode b_La_count 5 = .ok (.invokevirtual 33, 3) := by decide +kernel
theorem d_La_count_8 : decode b_La_count 8 = .ok (.i2l, 1) := by decide +kernel
theorem d_La_count_9 : decode b_La_count 9 = .ok (.lastore, 1) := by decide +kernel
theorem d_La_count_10 : decode b_La_count 10 = .ok (.goto 7, 3) := by decide +kernel
theorem d_La_count_13 : decode b_La_count 13 = .ok (.astore 4, 2) := by decide +kernel
theorem d_La_count_15 : decode b_La_count 15 = .ok (.iconst 1, 1) := by decide +kernel
theorem d_La_count_16 : decode b_La_count 16 = .ok (.ireturn, 1) := by decide +kernel
theorem d_La_count_17 : decode b_La_count 17 = .ok (.iconst 0, 1) := by decide +kernel
theorem d_La_count_18 : decode b_La_count 18 = .ok (.ireturn, 1) := by decide +kernel
theorem d_La_weight_0 : decode b_La_weight 0 = .ok (.aload 5, 2) := by decide +kernel
theorem d_La_weight_2 : decode b_La_weight 2 = .ok (.iconst 0, 1) := by decide +kernel
theorem d_La_weight_3 : decode b_La_weight 3 = .ok (.aload_n 0, 1) := by decide +kernel
theorem d_La_weight_4 : decode b_La_weight 4 = .ok (.iload_n 1, 1) := by decide +kernel
theorem d_La_weight_5 : decode b_La_weight 5 = .ok (.iload_n 2, 1) := by decide +kernel
theorem d_La_weight_6 : decode b_La_weight 6 = .ok (.iload_n 3, 1) := by decide +kernel
theorem d_La_weight_7 : decode b_La_weight 7 = .ok (.iload 4, 2) := by decide +kernel
theorem d_La_weight_9 : decode b_La_weight 9 = .ok (.invokevirtual 37, 3) := by decide +kernel
theorem d_La_weight_12 : decode b_La_weight 12 = .ok (.i2l, 1) := by decide +kernel
theorem d_La_weight_13 : decode b_La_weight 13 = .ok (.lastore, 1) := by decide +kernel
theorem d_La_weight_14 : decode b_La_weight 14 = .ok (.goto 7, 3) := by decide +kernel
theorem d_La_weight_17 : decode b_La_weight 17 = .ok (.astore 6, 2) := by decide +kernel
theorem d_La_weight_19 : decode b_La_weight 19 = .ok (.iconst 1, 1) := by decide +kernel
theorem d_La_weight_20 : decode b_La_weight 20 = .ok (.ireturn, 1) := by decide +kernel
theorem d_La_weight_21 : decode b_La_weight 21 = .ok (.iconst 0, 1) := by decide +kernel
theorem d_La_weight_22 : decode b_La_weight 22 = .ok (.ireturn, 1) := by decide +kernel
theorem d_La_compare_0 : decode b_La_compare 0 = .ok (.aload 5, 2) := by decide +kernel
theorem d_La_compare_2 : decode b_La_compare 2 = .ok (.iconst 0, 1) := by decide +kernel
theorem d_La_compare_3 : decode b_La_compare 3 = .ok (.aload_n 0, 1) := by decide +kernel
theorem d_La_compare_4 : decode b_La_compare 4 = .ok (.iload_n 1, 1) := by decide +kernel
theorem d_La_compare_5 : decode b_La_compare 5 = .ok (.iload_n 2, 1) := by decide +kernel
theorem d_La_compare_6 : decode b_La_compare 6 = .ok (.iload_n 3, 1) := by decide +kernel
theorem d_La_compare_7 : decode b_La_compare 7 = .ok (.iload 4, 2) := by decide +kernel
theorem d_La_compare_9 : decode b_La_compare 9 = .ok (.invokevirtual 41, 3) := by decide +kernel
theorem d_La_compare_12 : decode b_La_compare 12 = .ok (.i2l, 1) := by decide +kernel
theorem d_La_compare_13 : decode b_La_compare 13 = .ok (.lastore, 1) := by decide +kernel
theorem d_La_compare_14 : decode b_La_compare 14 = .ok (.goto 7, 3) := by decide +kernel
theorem d_La_compare_17 : decode b_La_compare 17 = .ok (.astore 6, 2) := by decide +kernel
theorem d_La_compare_19 : decode b_La_compare 19 = .ok (.iconst 1, 1) := by decide +kernel
theorem d_La_compare_20 : decode b_La_compare 20 = .ok (.ireturn, 1) := by decide +kernel
theorem d_La_compare_21 : decode b_La_compare 21 = .ok (.iconst 0, 1) := by decide +kernel
theorem d_La_compare_22 : decode b_La_compare 22 = .ok (.ireturn, 1) := by decide +kernel
theorem d_La_law_0 : decode code 0 = .ok (.new 8, 3) := by decide +kernel
theorem d_La_law_3 : decode code 3 = .ok (.dup, 1) := by decide +kernel
theorem d_La_law_4 : decode code 4 = .ok (.invokespecial 44, 3) := by decide +kernel
theorem d_La_law_7 : decode code 7 = .ok (.astore_n 1, 1) := by decide +kernel
theorem d_La_law_8 : decode code 8 = .ok (.new 45, 3) := by decide +kernel
theorem d_La_law_11 : decode code 11 = .ok (.dup, 1) := by decide +kernel
theorem d_La_law_12 : decode code 12 = .ok (.invokespecial 47, 3) := by decide +kernel
theorem d_La_law_15 : decode code 15 = .ok (.astore_n 2, 1) := by decide +kernel
theorem d_La_law_16 : decode code 16 = .ok (.iconst 1, 1) := by decide +kernel
theorem d_La_law_17 : decode code 17 = .ok (.newarray .long, 2) := by decide +kernel
theorem d_La_law_19 : decode code 19 = .ok (.astore_n 3, 1) := by decide +kernel
theorem d_La_law_20 : decode code 20 = .ok (.iconst 0, 1) := by decide +kernel
theorem d_La_law_21 : decode code 21 = .ok (.istore 4, 2) := by decide +kernel
theorem d_La_law_23 : decode code 23 = .ok (.iload 4, 2) := by decide +kernel
theorem d_La_law_25 : decode code 25 = .ok (.aload_n 0, 1) := by decide +kernel
theorem d_La_law_26 : decode code 26 = .ok (.arraylength, 1) := by decide +kernel
theorem d_La_law_27 : decode code 27 = .ok (.iconst 5, 1) := by decide +kernel
theorem d_La_law_28 : decode code 28 = .ok (.isub, 1) := by decide +kernel
theorem d_La_law_29 : decode code 29 = .ok (.if_icmp .gt 733, 3) := by decide +kernel
theorem d_La_law_32 : decode code 32 = .ok (.aload_n 0, 1) := by decide +kernel
theorem d_La_law_33 : decode code 33 = .ok (.iload 4, 2) := by decide +kernel
theorem d_La_law_35 : decode code 35 = .ok (.iaload, 1) := by decide +kernel
theorem d_La_law_36 : decode code 36 = .ok (.bipush 7, 2) := by decide +kernel
theorem d_La_law_38 : decode code 38 = .ok (.iand, 1) := by decide +kernel
theorem d_La_law_39 : decode code 39 = .ok (.tableswitch 717 0 7 #[45, 93, 185, 293, 361, 417, 501, 609], 45) := by decide +kernel
theorem d_La_law_84 : decode code 84 = .ok (.aload_n 1, 1) := by decide +kernel
theorem d_La_law_85 : decode code 85 = .ok (.aload_n 0, 1) := by decide +kernel
theorem d_La_law_86 : decode code 86 = .ok (.iload 4, 2) := by decide +kernel
theorem d_La_law_88 : decode code 88 = .ok (.iconst 1, 1) := by decide +kernel
theorem d_La_law_89 : decode code 89 = .ok (.iadd, 1) := by decide +kernel
theorem d_La_law_90 : decode code 90 = .ok (.iaload, 1) := by decide +kernel
theorem d_La_law_91 : decode code 91 = .ok (.aload_n 0, 1) := by decide +kernel
theorem d_La_law_92 : decode code 92 = .ok (.iload 4, 2) := by decide +kernel
theorem d_La_law_94 : decode code 94 = .ok (.iconst 2, 1) := by decide +kernel
theorem d_La_law_95 : decode code 95 = .ok (.iadd, 1) := by decide +kernel
theorem d_La_law_96 : decode code 96 = .ok (.iaload, 1) := by decide +kernel
theorem d_La_law_97 : decode code 97 = .ok (.invokestatic 48, 3) := by decide +kernel
theorem d_La_law_100 : decode code 100 = .ok (.istore 5, 2) := by decide +kernel
theorem d_La_law_102 : decode code 102 = .ok (.aload_n 2, 1) := by decide +kernel
theorem d_La_law_103 : decode code 103 = .ok (.aload_n 0, 1) := by decide +kernel
theorem d_La_law_104 : decode code 104 = .ok (.iload 4, 2) := by decide +kernel
theorem d_La_law_106 : decode code 106 = .ok (.iconst 1, 1) := by decide +kernel
theorem d_La_law_107 : decode code 107 = .ok (.iadd, 1) := by decide +kernel
theorem d_La_law_108 : decode code 108 = .ok (.iaload, 1) := by decide +kernel
theorem d_La_law_109 : decode code 109 = .ok (.aload_n 0, 1) := by decide +kernel
theorem d_La_law_110 : decode code 110 = .ok (.iload 4, 2) := by decide +kernel
theorem d_La_law_112 : decode code 112 = .ok (.iconst 2, 1) := by decide +kernel
theorem d_La_law_113 : decode code 113 = .ok (.iadd, 1) := by decide +kernel
theorem d_La_law_114 : decode code 114 = .ok (.iaload, 1) := by decide +kernel
theorem d_La_law_115 : decode code 115 = .ok (.invokevirtual 53, 3) := by decide +kernel
theorem d_La_law_118 : decode code 118 = .ok (.aload_n 2, 1) := by decide +kernel
theorem d_La_law_119 : decode code 119 = .ok (.invokevirtual 54, 3) := by decide +kernel
theorem d_La_law_122 : decode code 122 = .ok (.iload 5, 2) := by decide +kernel
theorem d_La_law_124 : decode code 124 = .ok (.if_icmp .eq 5, 3) := by decide +kernel
theorem d_La_law_127 : decode code 127 = .ok (.iconst 0, 1) := by decide +kernel
theorem d_La_law_128 : decode code 128 = .ok (.ireturn, 1) := by decide +kernel
theorem d_La_law_129 : decode code 129 = .ok (.goto 627, 3) := by decide +kernel
theorem d_La_law_132 : decode code 132 = .ok (.aload_n 1, 1) := by decide +kernel
theorem d_La_law_133 : decode code 133 = .ok (.aload_n 0, 1) := by decide +kernel
theorem d_La_law_134 : decode code 134 = .ok (.iload 4, 2) := by decide +kernel
theorem d_La_law_136 : decode code 136 = .ok (.iconst 1, 1) := by decide +kernel
theorem d_La_law_137 : decode code 137 = .ok (.iadd, 1) := by decide +kernel
theorem d_La_law_138 : decode code 138 = .ok (.iaload, 1) := by decide +kernel
theorem d_La_law_139 : decode code 139 = .ok (.aload_n 0, 1) := by decide +kernel
theorem d_La_law_140 : decode code 140 = .ok (.iload 4, 2) := by decide +kernel
theorem d_La_law_142 : decode code 142 = .ok (.iconst 2, 1) := by decide +kernel
theorem d_La_law_143 : decode code 143 = .ok (.iadd, 1) := by decide +kernel
theorem d_La_law_144 : decode code 144 = .ok (.iaload, 1) := by decide +kernel
theorem d_La_law_145 : decode code 145 = .ok (.aload_n 0, 1) := by decide +kernel
theorem d_La_law_146 : decode code 146 = .ok (.iload 4, 2) := by decide +kernel
theorem d_La_law_148 : decode code 148 = .ok (.iconst 3, 1) := by decide +kernel
theorem d_La_law_149 : decode code 149 = .ok (.iadd, 1) := by decide +kernel
theorem d_La_law_150 : decode code 150 = .ok (.iaload, 1) := by decide +kernel
theorem d_La_law_151 : decode code 151 = .ok (.aload_n 0, 1) := by decide +kernel
theorem d_La_law_152 : decode code 152 = .ok (.iload 4, 2) := by decide +kernel
theorem d_La_law_154 : decode code 154 = .ok (.iconst 4, 1) := by decide +kernel
theorem d_La_law_155 : decode code 155 = .ok (.iadd, 1) := by decide +kernel
theorem d_La_law_156 : decode code 156 = .ok (.iaload, 1) := by decide +kernel
theorem d_La_law_157 : decode code 157 = .ok (.aload_n 3, 1) := by decide +kernel
theorem d_La_law_158 : decode code 158 = .ok (.invokestatic 58, 3) := by decide +kernel
theorem d_La_law_161 : decode code 161 = .ok (.istore 5, 2) := by decide +kernel
theorem d_La_law_163 : decode code 163 = .ok (.aload_n 2, 1) := by decide +kernel
theorem d_La_law_164 : decode code 164 = .ok (.aload_n 0, 1) := by decide +kernel
theorem d_La_law_165 : decode code 165 = .ok (.iload 4, 2) := by decide +kernel
theorem d_La_law_167 : decode code 167 = .ok (.iconst 1, 1) := by decide +kernel
theorem d_La_law_168 : decode code 168 = .ok (.iadd, 1) := by decide +kernel
theorem d_La_law_169 : decode code 169 = .ok (.iaload, 1) := by decide +kernel
theorem d_La_law_170 : decode code 170 = .ok (.aload_n 0, 1) := by decide +kernel
theorem d_La_law_171 : decode code 171 = .ok (.iload 4, 2) := by decide +kernel
theorem d_La_law_173 : decode code 173 = .ok (.iconst 2, 1) := by decide +kernel
theorem d_La_law_174 : decode code 174 = .ok (.iadd, 1) := by decide +kernel
theorem d_La_law_175 : decode code 175 = .ok (.iaload, 1) := by decide +kernel
theorem d_La_law_176 : decode code 176 = .ok (.aload_n 0, 1) := by decide +kernel
theorem d_La_law_177 : decode code 177 = .ok (.iload 4, 2) := by decide +kernel
theorem d_La_law_179 : decode code 179 = .ok (.iconst 3, 1) := by decide +kernel
theorem d_La_law_180 : decode code 180 = .ok (.iadd, 1) := by decide +kernel
theorem d_La_law_181 : decode code 181 = .ok (.iaload, 1) := by decide +kernel
theorem d_La_law_182 : decode code 182 = .ok (.aload_n 0, 1) := by decide +kernel
theorem d_La_law_183 : decode code 183 = .ok (.iload 4, 2) := by decide +kernel
theorem d_La_law_185 : decode code 185 = .ok (.iconst 4, 1) := by decide +kernel
theorem d_La_law_186 : decode code 186 = .ok (.iadd, 1) := by decide +kernel
theorem d_La_law_187 : decode code 187 = .ok (.iaload, 1) := by decide +kernel
theorem d_La_law_188 : decode code 188 = .ok (.invokevirtual 61, 3) := by decide +kernel
theorem d_La_law_191 : decode code 191 = .ok (.istore 6, 2) := by decide +kernel
theorem d_La_law_193 : decode code 193 = .ok (.aload_n 2, 1) := by decide +kernel
theorem d_La_law_194 : decode code 194 = .ok (.invokevirtual 54, 3) := by decide +kernel
theorem d_La_law_197 : decode code 197 = .ok (.iload 5, 2) := by decide +kernel
theorem d_La_law_199 : decode code 199 = .ok (.if_icmp .eq 5, 3) := by decide +kernel
theorem d_La_law_202 : decode code 202 = .ok (.iconst 0, 1) := by decide +kernel
theorem d_La_law_203 : decode code 203 = .ok (.ireturn, 1) := by decide +kernel
theorem d_La_law_204 : decode code 204 = .ok (.iload 5, 2) := by decide +kernel
theorem d_La_law_206 : decode code 206 = .ok (.ifCond .ne 15, 3) := by decide +kernel
theorem d_La_law_209 : decode code 209 = .ok (.aload_n 3, 1) := by decide +kernel
theorem d_La_law_210 : decode code 210 = .ok (.iconst 0, 1) := by decide +kernel
theorem d_La_law_211 : decode code 211 = .ok (.laload, 1) := by decide +kernel
theorem d_La_law_212 : decode code 212 = .ok (.iload 6, 2) := by decide +kernel
theorem d_La_law_214 : decode code 214 = .ok (.i2l, 1) := by decide +kernel
theorem d_La_law_215 : decode code 215 = .ok (.lcmp, 1) := by decide +kernel
theorem d_La_law_216 : decode code 216 = .ok (.ifCond .eq 5, 3) := by decide +kernel
theorem d_La_law_219 : decode code 219 = .ok (.iconst 0, 1) := by decide +kernel
theorem d_La_law_220 : decode code 220 = .ok (.ireturn, 1) := by decide +kernel
theorem d_La_law_221 : decode code 221 = .ok (.goto 535, 3) := by decide +kernel
theorem d_La_law_224 : decode code 224 = .ok (.aload_n 1, 1) := by decide +kernel
theorem d_La_law_225 : decode code 225 = .ok (.aload_n 0, 1) := by decide +kernel
theorem d_La_law_226 : decode code 226 = .ok (.iload 4, 2) := by decide +kernel
theorem d_La_law_228 : decode code 228 = .ok (.iconst 1, 1) := by decide +kernel
theorem d_La_law_229 : decode code 229 = .ok (.iadd, 1) := by decide +kernel
theorem d_La_law_230 : decode code 230 = .ok (.iaload, 1) := by decide +kernel
theorem d_La_law_231 : decode code 231 = .ok (.aload_n 0, 1) := by decide +kernel
theorem d_La_law_232 : decode code 232 = .ok (.iload 4, 2) := by decide +kernel
theorem d_La_law_234 : decode code 234 = .ok (.iconst 2, 1) := by decide +kernel
theorem d_La_law_235 : decode code 235 = .ok (.iadd, 1) := by decide +kernel
theorem d_La_law_236 : decode code 236 = .ok (.iaload, 1) := by decide +kernel
theorem d_La_law_237 : decode code 237 = .ok (.aload_n 0, 1) := by decide +kernel
theorem d_La_law_238 : decode code 238 = .ok (.iload 4, 2) := by decide +kernel
theorem d_La_law_240 : decode code 240 = .ok (.iconst 3, 1) := by decide +kernel
theorem d_La_law_241 : decode code 241 = .ok (.iadd, 1) := by decide +kernel
theorem d_La_law_242 : decode code 242 = .ok (.iaload, 1) := by decide +kernel
theorem d_La_law_243 : decode code 243 = .ok (.aload_n 0, 1) := by decide +kernel
theorem d_La_law_244 : decode code 244 = .ok (.iload 4, 2) := by decide +kernel
theorem d_La_law_246 : decode code 246 = .ok (.iconst 4, 1) := by decide +kernel
theorem d_La_law_247 : decode code 247 = .ok (.iadd, 1) := by decide +kernel
theorem d_La_law_248 : decode code 248 = .ok (.iaload, 1) := by decide +kernel
theorem d_La_law_249 : decode code 249 = .ok (.ifCond .eq 7, 3) := by decide +kernel
theorem d_La_law_252 : decode code 252 = .ok (.iconst 1, 1) := by decide +kernel
theorem d_La_law_253 : decode code 253 = .ok (.goto 4, 3) := by decide +kernel
theorem d_La_law_256 : decode code 256 = .ok (.iconst 0, 1) := by decide +kernel
theorem d_La_law_257 : decode code 257 = .ok (.aload_n 3, 1) := by decide +kernel
theorem d_La_law_258 : decode code 258 = .ok (.invokestatic 62, 3) := by decide +kernel
theorem d_La_law_261 : decode code 261 = .ok (.istore 5, 2) := by decide +kernel
theorem d_La_law_263 : decode code 263 = .ok (.aload_n 2, 1) := by decide +kernel
theorem d_La_law_264 : decode code 264 = .ok (.aload_n 0, 1) := by decide +kernel
theorem d_La_law_265 : decode code 265 = .ok (.iload 4, 2) := by decide +kernel
theorem d_La_law_267 : decode code 267 = .ok (.iconst 1, 1) := by decide +kernel
theorem d_La_law_268 : decode code 268 = .ok (.iadd, 1) := by decide +kernel
theorem d_La_law_269 : decode code 269 = .ok (.iaload, 1) := by decide +kernel
theorem d_La_law_270 : decode code 270 = .ok (.aload_n 0, 1) := by decide +kernel
theorem d_La_law_271 : decode code 271 = .ok (.iload 4, 2) := by decide +kernel
theorem d_La_law_273 : decode code 273 = .ok (.iconst 2, 1) := by decide +kernel
theorem d_La_law_274 : decode code 274 = .ok (.iadd, 1) := by decide +kernel
theorem d_La_law_275 : decode code 275 = .ok (.iaload, 1) := by decide +kernel
theorem d_La_law_276 : decode code 276 = .ok (.aload_n 0, 1) := by decide +kernel
theorem d_La_law_277 : decode code 277 = .ok (.iload 4, 2) := by decide +kernel
theorem d_La_law_279 : decode code 279 = .ok (.iconst 3, 1) := by decide +kernel
theorem d_La_law_280 : decode code 280 = .ok (.iadd, 1) := by decide +kernel
theorem d_La_law_281 : decode code 281 = .ok (.iaload, 1) := by decide +kernel
theorem d_La_law_282 : decode code 282 = .ok (.aload_n 0, 1) := by decide +kernel
theorem d_La_law_283 : decode code 283 = .ok (.iload 4, 2) := by decide +kernel
theorem d_La_law_285 : decode code 285 = .ok (.iconst 4, 1) := by decide +kernel
theorem d_La_law_286 : decode code 286 = .ok (.iadd, 1) := by decide +kernel
theorem d_La_law_287 : decode code 287 = .ok (.iaload, 1) := by decide +kernel
theorem d_La_law_288 : decode code 288 = .ok (.ifCond .eq 7, 3) := by decide +kernel
theorem d_La_law_291 : decode code 291 = .ok (.iconst 1, 1) := by decide +kernel
theorem d_La_law_292 : decode code 292 = .ok (.goto 4, 3) := by decide +kernel
theorem d_La_law_295 : decode code 295 = .ok (.iconst 0, 1) := by decide +kernel
theorem d_La_law_296 : decode code 296 = .ok (.invokevirtual 65, 3) := by decide +kernel
theorem d_La_law_299 : decode code 299 = .ok (.istore 6, 2) := by decide +kernel
theorem d_La_law_301 : decode code 301 = .ok (.aload_n 2, 1) := by decide +kernel
theorem d_La_law_302 : decode code 302 = .ok (.invokevirtual 54, 3) := by decide +kernel
theorem d_La_law_305 : decode code 305 = .ok (.iload 5, 2) := by decide +kernel
theorem d_La_law_307 : decode code 307 = .ok (.if_icmp .eq 5, 3) := by decide +kernel
theorem d_La_law_310 : decode code 310 = .ok (.iconst 0, 1) := by decide +kernel
theorem d_La_law_311 : decode code 311 = .ok (.ireturn, 1) := by decide +kernel
theorem d_La_law_312 : decode code 312 = .ok (.iload 5, 2) := by decide +kernel
theorem d_La_law_314 : decode code 314 = .ok (.ifCond .ne 15, 3) := by decide +kernel
theorem d_La_law_317 : decode code 317 = .ok (.aload_n 3, 1) := by decide +kernel
theorem d_La_law_318 : decode code 318 = .ok (.iconst 0, 1) := by decide +kernel
theorem d_La_law_319 : decode code 319 = .ok (.laload, 1) := by decide +kernel
theorem d_La_law_320 : decode code 320 = .ok (.iload 6, 2) := by decide +kernel
theorem d_La_law_322 : decode code 322 = .ok (.i2l, 1) := by decide +kernel
theorem d_La_law_323 : decode code 323 = .ok (.lcmp, 1) := by decide +kernel
theorem d_La_law_324 : decode code 324 = .ok (.ifCond .eq 5, 3) := by decide +kernel
theorem d_La_law_327 : decode code 327 = .ok (.iconst 0, 1) := by decide +kernel
theorem d_La_law_328 : decode code 328 = .ok (.ireturn, 1) := by decide +kernel
theorem d_La_law_329 : decode code 329 = .ok (.goto 427, 3) := by decide +kernel
theorem d_La_law_332 : decode code 332 = .ok (.aload_n 1, 1) := by decide +kernel
theorem d_La_law_333 : decode code 333 = .ok (.aload_n 0, 1) := by decide +kernel
theorem d_La_law_334 : decode code 334 = .ok (.iload 4, 2) := by decide +kernel
theorem d_La_law_336 : decode code 336 = .ok (.iconst 1, 1) := by decide +kernel
theorem d_La_law_337 : decode code 337 = .ok (.iadd, 1) := by decide +kernel
theorem d_La_law_338 : decode code 338 = .ok (.iaload, 1) := by decide +kernel
theorem d_La_law_339 : decode code 339 = .ok (.aload_n 0, 1) := by decide +kernel
theorem d_La_law_340 : decode code 340 = .ok (.iload 4, 2) := by decide +kernel
theorem d_La_law_342 : decode code 342 = .ok (.iconst 2, 1) := by decide +kernel
theorem d_La_law_343 : decode code 343 = .ok (.iadd, 1) := by decide +kernel
theorem d_La_law_344 : decode code 344 = .ok (.iaload, 1) := by decide +kernel
theorem d_La_law_345 : decode code 345 = .ok (.aload_n 3, 1) := by decide +kernel
theorem d_La_law_346 : decode code 346 = .ok (.invokestatic 66, 3) := by decide +kernel
theorem d_La_law_349 : decode code 349 = .ok (.istore 5, 2) := by decide +kernel
theorem d_La_law_351 : decode code 351 = .ok (.aload_n 2, 1) := by decide +kernel
theorem d_La_law_352 : decode code 352 = .ok (.aload_n 0, 1) := by decide +kernel
theorem d_La_law_353 : decode code 353 = .ok (.iload 4, 2) := by decide +kernel
theorem d_La_law_355 : decode code 355 = .ok (.iconst 1, 1) := by decide +kernel
theorem d_La_law_356 : decode code 356 = .ok (.iadd, 1) := by decide +kernel
theorem d_La_law_357 : decode code 357 = .ok (.iaload, 1) := by decide +kernel
theorem d_La_law_358 : decode code 358 = .ok (.aload_n 0, 1) := by decide +kernel
theorem d_La_law_359 : decode code 359 = .ok (.iload 4, 2) := by decide +kernel
theorem d_La_law_361 : decode code 361 = .ok (.iconst 2, 1) := by decide +kernel
theorem d_La_law_362 : decode code 362 = .ok (.iadd, 1) := by decide +kernel
theorem d_La_law_363 : decode code 363 = .ok (.iaload, 1) := by decide +kernel
theorem d_La_law_364 : decode code 364 = .ok (.invokevirtual 69, 3) := by decide +kernel
theorem d_La_law_367 : decode code 367 = .ok (.istore 6, 2) := by decide +kernel
theorem d_La_law_369 : decode code 369 = .ok (.aload_n 2, 1) := by decide +kernel
theorem d_La_law_370 : decode code 370 = .ok (.invokevirtual 54, 3) := by decide +kernel
theorem d_La_law_373 : decode code 373 = .ok (.iload 5, 2) := by decide +kernel
theorem d_La_law_375 : decode code 375 = .ok (.if_icmp .eq 5, 3) := by decide +kernel
theorem d_La_law_378 : decode code 378 = .ok (.iconst 0, 1) := by decide +kernel
theorem d_La_law_379 : decode code 379 = .ok (.ireturn, 1) := by decide +kernel
theorem d_La_law_380 : decode code 380 = .ok (.iload 5, 2) := by decide +kernel
theorem d_La_law_382 : decode code 382 = .ok (.ifCond .ne 15, 3) := by decide +kernel
theorem d_La_law_385 : decode code 385 = .ok (.aload_n 3, 1) := by decide +kernel
theorem d_La_law_386 : decode code 386 = .ok (.iconst 0, 1) := by decide +kernel
theorem d_La_law_387 : decode code 387 = .ok (.laload, 1) := by decide +kernel
theorem d_La_law_388 : decode code 388 = .ok (.iload 6, 2) := by decide +kernel
theorem d_La_law_390 : decode code 390 = .ok (.i2l, 1) := by decide +kernel
theorem d_La_law_391 : decode code 391 = .ok (.lcmp, 1) := by decide +kernel
theorem d_La_law_392 : decode code 392 = .ok (.ifCond .eq 5, 3) := by decide +kernel
theorem d_La_law_395 : decode code 395 = .ok (.iconst 0, 1) := by decide +kernel
theorem d_La_law_396 : decode code 396 = .ok (.ireturn, 1) := by decide +kernel
theorem d_La_law_397 : decode code 397 = .ok (.goto 359, 3) := by decide +kernel
theorem d_La_law_400 : decode code 400 = .ok (.aload_n 1, 1) := by decide +kernel
theorem d_La_law_401 : decode code 401 = .ok (.aload_n 0, 1) := by decide +kernel
theorem d_La_law_402 : decode code 402 = .ok (.iload 4, 2) := by decide +kernel
theorem d_La_law_404 : decode code 404 = .ok (.iconst 1, 1) := by decide +kernel
theorem d_La_law_405 : decode code 405 = .ok (.iadd, 1) := by decide +kernel
theorem d_La_law_406 : decode code 406 = .ok (.iaload, 1) := by decide +kernel
theorem d_La_law_407 : decode code 407 = .ok (.aload_n 3, 1) := by decide +kernel
theorem d_La_law_408 : decode code 408 = .ok (.invokestatic 70, 3) := by decide +kernel
theorem d_La_law_411 : decode code 411 = .ok (.istore 5, 2) := by decide +kernel
theorem d_La_law_413 : decode code 413 = .ok (.aload_n 2, 1) := by decide +kernel
theorem d_La_law_414 : decode code 414 = .ok (.aload_n 0, 1) := by decide +kernel
theorem d_La_law_415 : decode code 415 = .ok (.iload 4, 2) := by decide +kernel
theorem d_La_law_417 : decode code 417 = .ok (.iconst 1, 1) := by decide +kernel
theorem d_La_law_418 : decode code 418 = .ok (.iadd, 1) := by decide +kernel
theorem d_La_law_419 : decode code 419 = .ok (.iaload, 1) := by decide +kernel
theorem d_La_law_420 : decode code 420 = .ok (.invokevirtual 73, 3) := by decide +kernel
theorem d_La_law_423 : decode code 423 = .ok (.istore 6, 2) := by decide +kernel
theorem d_La_law_425 : decode code 425 = .ok (.aload_n 2, 1) := by decide +kernel
theorem d_La_law_426 : decode code 426 = .ok (.invokevirtual 54, 3) := by decide +kernel
theorem d_La_law_429 : decode code 429 = .ok (.iload 5, 2) := by decide +kernel
theorem d_La_law_431 : decode code 431 = .ok (.if_icmp .eq 5, 3) := by decide +kernel
theorem d_La_law_434 : decode code 434 = .ok (.iconst 0, 1) := by decide +kernel
theorem d_La_law_435 : decode code 435 = .ok (.ireturn, 1) := by decide +kernel
theorem d_La_law_436 : decode code 436 = .ok (.iload 5, 2) := by decide +kernel
theorem d_La_law_438 : decode code 438 = .ok (.ifCond .ne 15, 3) := by decide +kernel
theorem d_La_law_441 : decode code 441 = .ok (.aload_n 3, 1) := by decide +kernel
theorem d_La_law_442 : decode code 442 = .ok (.iconst 0, 1) := by decide +kernel
theorem d_La_law_443 : decode code 443 = .ok (.laload, 1) := by decide +kernel
theorem d_La_law_444 : decode code 444 = .ok (.iload 6, 2) := by decide +kernel
theorem d_La_law_446 : decode code 446 = .ok (.i2l, 1) := by decide +kernel
theorem d_La_law_447 : decode code 447 = .ok (.lcmp, 1) := by decide +kernel
theorem d_La_law_448 : decode code 448 = .ok (.ifCond .eq 5, 3) := by decide +kernel
theorem d_La_law_451 : decode code 451 = .ok (.iconst 0, 1) := by decide +kernel
theorem d_La_law_452 : decode code 452 = .ok (.ireturn, 1) := by decide +kernel
theorem d_La_law_453 : decode code 453 = .ok (.goto 303, 3) := by decide +kernel
theorem d_La_law_456 : decode code 456 = .ok (.aload_n 1, 1) := by decide +kernel
theorem d_La_law_457 : decode code 457 = .ok (.aload_n 0, 1) := by decide +kernel
theorem d_La_law_458 : decode code 458 = .ok (.iload 4, 2) := by decide +kernel
theorem d_La_law_460 : decode code 460 = .ok (.iconst 1, 1) := by decide +kernel
theorem d_La_law_461 : decode code 461 = .ok (.iadd, 1) := by decide +kernel
theorem d_La_law_462 : decode code 462 = .ok (.iaload, 1) := by decide +kernel
theorem d_La_law_463 : decode code 463 = .ok (.aload_n 0, 1) := by decide +kernel
theorem d_La_law_464 : decode code 464 = .ok (.iload 4, 2) := by decide +kernel
theorem d_La_law_466 : decode code 466 = .ok (.iconst 2, 1) := by decide +kernel
theorem d_La_law_467 : decode code 467 = .ok (.iadd, 1) := by decide +kernel
theorem d_La_law_468 : decode code 468 = .ok (.iaload, 1) := by decide +kernel
theorem d_La_law_469 : decode code 469 = .ok (.ifCond .eq 7, 3) := by decide +kernel
theorem d_La_law_472 : decode code 472 = .ok (.iconst 1, 1) := by decide +kernel
theorem d_La_law_473 : decode code 473 = .ok (.goto 4, 3) := by decide +kernel
theorem d_La_law_476 : decode code 476 = .ok (.iconst 0, 1) := by decide +kernel
theorem d_La_law_477 : decode code 477 = .ok (.aload_n 3, 1) := by decide +kernel
theorem d_La_law_478 : decode code 478 = .ok (.invokestatic 74, 3) := by decide +kernel
theorem d_La_law_481 : decode code 481 = .ok (.istore 5, 2) := by decide +kernel
theorem d_La_law_483 : decode code 483 = .ok (.aload_n 2, 1) := by decide +kernel
theorem d_La_law_484 : decode code 484 = .ok (.aload_n 0, 1) := by decide +kernel
theorem d_La_law_485 : decode code 485 = .ok (.iload 4, 2) := by decide +kernel
theorem d_La_law_487 : decode code 487 = .ok (.iconst 1, 1) := by decide +kernel
theorem d_La_law_488 : decode code 488 = .ok (.iadd, 1) := by decide +kernel
theorem d_La_law_489 : decode code 489 = .ok (.iaload, 1) := by decide +kernel
theorem d_La_law_490 : decode code 490 = .ok (.aload_n 0, 1) := by decide +kernel
theorem d_La_law_491 : decode code 491 = .ok (.iload 4, 2) := by decide +kernel
theorem d_La_law_493 : decode code 493 = .ok (.iconst 2, 1) := by decide +kernel
theorem d_La_law_494 : decode code 494 = .ok (.iadd, 1) := by decide +kernel
theorem d_La_law_495 : decode code 495 = .ok (.iaload, 1) := by decide +kernel
theorem d_La_law_496 : decode code 496 = .ok (.ifCond .eq 7, 3) := by decide +kernel
theorem d_La_law_499 : decode code 499 = .ok (.iconst 1, 1) := by decide +kernel
theorem d_La_law_500 : decode code 500 = .ok (.goto 4, 3) := by decide +kernel
theorem d_La_law_503 : decode code 503 = .ok (.iconst 0, 1) := by decide +kernel
theorem d_La_law_504 : decode code 504 = .ok (.invokevirtual 77, 3) := by decide +kernel
theorem d_La_law_507 : decode code 507 = .ok (.istore 6, 2) := by decide +kernel
theorem d_La_law_509 : decode code 509 = .ok (.aload_n 2, 1) := by decide +kernel
theorem d_La_law_510 : decode code 510 = .ok (.invokevirtual 54, 3) := by decide +kernel
theorem d_La_law_513 : decode code 513 = .ok (.iload 5, 2) := by decide +kernel
theorem d_La_law_515 : decode code 515 = .ok (.if_icmp .eq 5, 3) := by decide +kernel
theorem d_La_law_518 : decode code 518 = .ok (.iconst 0, 1) := by decide +kernel
theorem d_La_law_519 : decode code 519 = .ok (.ireturn, 1) := by decide +kernel
theorem d_La_law_520 : decode code 520 = .ok (.iload 5, 2) := by decide +kernel
theorem d_La_law_522 : decode code 522 = .ok (.ifCond .ne 15, 3) := by decide +kernel
theorem d_La_law_525 : decode code 525 = .ok (.aload_n 3, 1) := by decide +kernel
theorem d_La_law_526 : decode code 526 = .ok (.iconst 0, 1) := by decide +kernel
theorem d_La_law_527 : decode code 527 = .ok (.laload, 1) := by decide +kernel
theorem d_La_law_528 : decode code 528 = .ok (.iload 6, 2) := by decide +kernel
theorem d_La_law_530 : decode code 530 = .ok (.i2l, 1) := by decide +kernel
theorem d_La_law_531 : decode code 531 = .ok (.lcmp, 1) := by decide +kernel
theorem d_La_law_532 : decode code 532 = .ok (.ifCond .eq 5, 3) := by decide +kernel
theorem d_La_law_535 : decode code 535 = .ok (.iconst 0, 1) := by decide +kernel
theorem d_La_law_536 : decode code 536 = .ok (.ireturn, 1) := by decide +kernel
theorem d_La_law_537 : decode code 537 = .ok (.goto 219, 3) := by decide +kernel
theorem d_La_law_540 : decode code 540 = .ok (.aload_n 1, 1) := by decide +kernel
theorem d_La_law_541 : decode code 541 = .ok (.aload_n 0, 1) := by decide +kernel
theorem d_La_law_542 : decode code 542 = .ok (.iload 4, 2) := by decide +kernel
theorem d_La_law_544 : decode code 544 = .ok (.iconst 1, 1) := by decide +kernel
theorem d_La_law_545 : decode code 545 = .ok (.iadd, 1) := by decide +kernel
theorem d_La_law_546 : decode code 546 = .ok (.iaload, 1) := by decide +kernel
theorem d_La_law_547 : decode code 547 = .ok (.aload_n 0, 1) := by decide +kernel
theorem d_La_law_548 : decode code 548 = .ok (.iload 4, 2) := by decide +kernel
theorem d_La_law_550 : decode code 550 = .ok (.iconst 2, 1) := by decide +kernel
theorem d_La_law_551 : decode code 551 = .ok (.iadd, 1) := by decide +kernel
theorem d_La_law_552 : decode code 552 = .ok (.iaload, 1) := by decide +kernel
theorem d_La_law_553 : decode code 553 = .ok (.ifCond .eq 7, 3) := by decide +kernel
theorem d_La_law_556 : decode code 556 = .ok (.iconst 1, 1) := by decide +kernel
theorem d_La_law_557 : decode code 557 = .ok (.goto 4, 3) := by decide +kernel
theorem d_La_law_560 : decode code 560 = .ok (.iconst 0, 1) := by decide +kernel
theorem d_La_law_561 : decode code 561 = .ok (.aload_n 0, 1) := by decide +kernel
theorem d_La_law_562 : decode code 562 = .ok (.iload 4, 2) := by decide +kernel
theorem d_La_law_564 : decode code 564 = .ok (.iconst 3, 1) := by decide +kernel
theorem d_La_law_565 : decode code 565 = .ok (.iadd, 1) := by decide +kernel
theorem d_La_law_566 : decode code 566 = .ok (.iaload, 1) := by decide +kernel
theorem d_La_law_567 : decode code 567 = .ok (.aload_n 0, 1) := by decide +kernel
theorem d_La_law_568 : decode code 568 = .ok (.iload 4, 2) := by decide +kernel
theorem d_La_law_570 : decode code 570 = .ok (.iconst 4, 1) := by decide +kernel
theorem d_La_law_571 : decode code 571 = .ok (.iadd, 1) := by decide +kernel
theorem d_La_law_572 : decode code 572 = .ok (.iaload, 1) := by decide +kernel
theorem d_La_law_573 : decode code 573 = .ok (.aload_n 3, 1) := by decide +kernel
theorem d_La_law_574 : decode code 574 = .ok (.invokestatic 78, 3) := by decide +kernel
theorem d_La_law_577 : decode code 577 = .ok (.istore 5, 2) := by decide +kernel
theorem d_La_law_579 : decode code 579 = .ok (.aload_n 2, 1) := by decide +kernel
theorem d_La_law_580 : decode code 580 = .ok (.aload_n 0, 1) := by decide +kernel
theorem d_La_law_581 : decode code 581 = .ok (.iload 4, 2) := by decide +kernel
theorem d_La_law_583 : decode code 583 = .ok (.iconst 1, 1) := by decide +kernel
theorem d_La_law_584 : decode code 584 = .ok (.iadd, 1) := by decide +kernel
theorem d_La_law_585 : decode code 585 = .ok (.iaload, 1) := by decide +kernel
theorem d_La_law_586 : decode code 586 = .ok (.aload_n 0, 1) := by decide +kernel
theorem d_La_law_587 : decode code 587 = .ok (.iload 4, 2) := by decide +kernel
theorem d_La_law_589 : decode code 589 = .ok (.iconst 2, 1) := by decide +kernel
theorem d_La_law_590 : decode code 590 = .ok (.iadd, 1) := by decide +kernel
theorem d_La_law_591 : decode code 591 = .ok (.iaload, 1) := by decide +kernel
theorem d_La_law_592 : decode code 592 = .ok (.ifCond .eq 7, 3) := by decide +kernel
theorem d_La_law_595 : decode code 595 = .ok (.iconst 1, 1) := by decide +kernel
theorem d_La_law_596 : decode code 596 = .ok (.goto 4, 3) := by decide +kernel
theorem d_La_law_599 : decode code 599 = .ok (.iconst 0, 1) := by decide +kernel
theorem d_La_law_600 : decode code 600 = .ok (.aload_n 0, 1) := by decide +kernel
theorem d_La_law_601 : decode code 601 = .ok (.iload 4, 2) := by decide +kernel
theorem d_La_law_603 : decode code 603 = .ok (.iconst 3, 1) := by decide +kernel
theorem d_La_law_604 : decode code 604 = .ok (.iadd, 1) := by decide +kernel
theorem d_La_law_605 : decode code 605 = .ok (.iaload, 1) := by decide +kernel
theorem d_La_law_606 : decode code 606 = .ok (.aload_n 0, 1) := by decide +kernel
theorem d_La_law_607 : decode code 607 = .ok (.iload 4, 2) := by decide +kernel
theorem d_La_law_609 : decode code 609 = .ok (.iconst 4, 1) := by decide +kernel
theorem d_La_law_610 : decode code 610 = .ok (.iadd, 1) := by decide +kernel
theorem d_La_law_611 : decode code 611 = .ok (.iaload, 1) := by decide +kernel
theorem d_La_law_612 : decode code 612 = .ok (.invokevirtual 81, 3) := by decide +kernel
theorem d_La_law_615 : decode code 615 = .ok (.istore 6, 2) := by decide +kernel
theorem d_La_law_617 : decode code 617 = .ok (.aload_n 2, 1) := by decide +kernel
theorem d_La_law_618 : decode code 618 = .ok (.invokevirtual 54, 3) := by decide +kernel
theorem d_La_law_621 : decode code 621 = .ok (.iload 5, 2) := by decide +kernel
theorem d_La_law_623 : decode code 623 = .ok (.if_icmp .eq 5, 3) := by decide +kernel
theorem d_La_law_626 : decode code 626 = .ok (.iconst 0, 1) := by decide +kernel
theorem d_La_law_627 : decode code 627 = .ok (.ireturn, 1) := by decide +kernel
theorem d_La_law_628 : decode code 628 = .ok (.iload 5, 2) := by decide +kernel
theorem d_La_law_630 : decode code 630 = .ok (.ifCond .ne 15, 3) := by decide +kernel
theorem d_La_law_633 : decode code 633 = .ok (.aload_n 3, 1) := by decide +kernel
theorem d_La_law_634 : decode code 634 = .ok (.iconst 0, 1) := by decide +kernel
theorem d_La_law_635 : decode code 635 = .ok (.laload, 1) := by decide +kernel
theorem d_La_law_636 : decode code 636 = .ok (.iload 6, 2) := by decide +kernel
theorem d_La_law_638 : decode code 638 = .ok (.i2l, 1) := by decide +kernel
theorem d_La_law_639 : decode code 639 = .ok (.lcmp, 1) := by decide +kernel
theorem d_La_law_640 : decode code 640 = .ok (.ifCond .eq 5, 3) := by decide +kernel
theorem d_La_law_643 : decode code 643 = .ok (.iconst 0, 1) := by decide +kernel
theorem d_La_law_644 : decode code 644 = .ok (.ireturn, 1) := by decide +kernel
theorem d_La_law_645 : decode code 645 = .ok (.goto 111, 3) := by decide +kernel
theorem d_La_law_648 : decode code 648 = .ok (.aload_n 1, 1) := by decide +kernel
theorem d_La_law_649 : decode code 649 = .ok (.aload_n 0, 1) := by decide +kernel
theorem d_La_law_650 : decode code 650 = .ok (.iload 4, 2) := by decide +kernel
theorem d_La_law_652 : decode code 652 = .ok (.iconst 1, 1) := by decide +kernel
theorem d_La_law_653 : decode code 653 = .ok (.iadd, 1) := by decide +kernel
theorem d_La_law_654 : decode code 654 = .ok (.iaload, 1) := by decide +kernel
theorem d_La_law_655 : decode code 655 = .ok (.aload_n 0, 1) := by decide +kernel
theorem d_La_law_656 : decode code 656 = .ok (.iload 4, 2) := by decide +kernel
theorem d_La_law_658 : decode code 658 = .ok (.iconst 2, 1) := by decide +kernel
theorem d_La_law_659 : decode code 659 = .ok (.iadd, 1) := by decide +kernel
theorem d_La_law_660 : decode code 660 = .ok (.iaload, 1) := by decide +kernel
theorem d_La_law_661 : decode code 661 = .ok (.aload_n 0, 1) := by decide +kernel
theorem d_La_law_662 : decode code 662 = .ok (.iload 4, 2) := by decide +kernel
theorem d_La_law_664 : decode code 664 = .ok (.iconst 3, 1) := by decide +kernel
theorem d_La_law_665 : decode code 665 = .ok (.iadd, 1) := by decide +kernel
theorem d_La_law_666 : decode code 666 = .ok (.iaload, 1) := by decide +kernel
theorem d_La_law_667 : decode code 667 = .ok (.aload_n 0, 1) := by decide +kernel
theorem d_La_law_668 : decode code 668 = .ok (.iload 4, 2) := by decide +kernel
theorem d_La_law_670 : decode code 670 = .ok (.iconst 4, 1) := by decide +kernel
theorem d_La_law_671 : decode code 671 = .ok (.iadd, 1) := by decide +kernel
theorem d_La_law_672 : decode code 672 = .ok (.iaload, 1) := by decide +kernel
theorem d_La_law_673 : decode code 673 = .ok (.ifCond .eq 7, 3) := by decide +kernel
theorem d_La_law_676 : decode code 676 = .ok (.iconst 1, 1) := by decide +kernel
theorem d_La_law_677 : decode code 677 = .ok (.goto 4, 3) := by decide +kernel
theorem d_La_law_680 : decode code 680 = .ok (.iconst 0, 1) := by decide +kernel
theorem d_La_law_681 : decode code 681 = .ok (.aload_n 3, 1) := by decide +kernel
theorem d_La_law_682 : decode code 682 = .ok (.invokestatic 82, 3) := by decide +kernel
theorem d_La_law_685 : decode code 685 = .ok (.istore 5, 2) := by decide +kernel
theorem d_La_law_687 : decode code 687 = .ok (.aload_n 2, 1) := by decide +kernel
theorem d_La_law_688 : decode code 688 = .ok (.aload_n 0, 1) := by decide +kernel
theorem d_La_law_689 : decode code 689 = .ok (.iload 4, 2) := by decide +kernel
theorem d_La_law_691 : decode code 691 = .ok (.iconst 1, 1) := by decide +kernel
theorem d_La_law_692 : decode code 692 = .ok (.iadd, 1) := by decide +kernel
theorem d_La_law_693 : decode code 693 = .ok (.iaload, 1) := by decide +kernel
theorem d_La_law_694 : decode code 694 = .ok (.aload_n 0, 1) := by decide +kernel
theorem d_La_law_695 : decode code 695 = .ok (.iload 4, 2) := by decide +kernel
theorem d_La_law_697 : decode code 697 = .ok (.iconst 2, 1) := by decide +kernel
theorem d_La_law_698 : decode code 698 = .ok (.iadd, 1) := by decide +kernel
theorem d_La_law_699 : decode code 699 = .ok (.iaload, 1) := by decide +kernel
theorem d_La_law_700 : decode code 700 = .ok (.aload_n 0, 1) := by decide +kernel
theorem d_La_law_701 : decode code 701 = .ok (.iload 4, 2) := by decide +kernel
theorem d_La_law_703 : decode code 703 = .ok (.iconst 3, 1) := by decide +kernel
theorem d_La_law_704 : decode code 704 = .ok (.iadd, 1) := by decide +kernel
theorem d_La_law_705 : decode code 705 = .ok (.iaload, 1) := by decide +kernel
theorem d_La_law_706 : decode code 706 = .ok (.aload_n 0, 1) := by decide +kernel
theorem d_La_law_707 : decode code 707 = .ok (.iload 4, 2) := by decide +kernel
theorem d_La_law_709 : decode code 709 = .ok (.iconst 4, 1) := by decide +kernel
theorem d_La_law_710 : decode code 710 = .ok (.iadd, 1) := by decide +kernel
theorem d_La_law_711 : decode code 711 = .ok (.iaload, 1) := by decide +kernel
theorem d_La_law_712 : decode code 712 = .ok (.ifCond .eq 7, 3) := by decide +kernel
theorem d_La_law_715 : decode code 715 = .ok (.iconst 1, 1) := by decide +kernel
theorem d_La_law_716 : decode code 716 = .ok (.goto 4, 3) := by decide +kernel
theorem d_La_law_719 : decode code 719 = .ok (.iconst 0, 1) := by decide +kernel
theorem d_La_law_720 : decode code 720 = .ok (.invokevirtual 84, 3) := by decide +kernel
theorem d_La_law_723 : decode code 723 = .ok (.istore 6, 2) := by decide +kernel
theorem d_La_law_725 : decode code 725 = .ok (.aload_n 2, 1) := by decide +kernel
theorem d_La_law_726 : decode code 726 = .ok (.invokevirtual 54, 3) := by decide +kernel
theorem d_La_law_729 : decode code 729 = .ok (.iload 5, 2) := by decide +kernel
theorem d_La_law_731 : decode code 731 = .ok (.if_icmp .eq 5, 3) := by decide +kernel
theorem d_La_law_734 : decode code 734 = .ok (.iconst 0, 1) := by decide +kernel
theorem d_La_law_735 : decode code 735 = .ok (.ireturn, 1) := by decide +kernel
theorem d_La_law_736 : decode code 736 = .ok (.iload 5, 2) := by decide +kernel
theorem d_La_law_738 : decode code 738 = .ok (.ifCond .ne 15, 3) := by decide +kernel
theorem d_La_law_741 : decode code 741 = .ok (.aload_n 3, 1) := by decide +kernel
theorem d_La_law_742 : decode code 742 = .ok (.iconst 0, 1) := by decide +kernel
theorem d_La_law_743 : decode code 743 = .ok (.laload, 1) := by decide +kernel
theorem d_La_law_744 : decode code 744 = .ok (.iload 6, 2) := by decide +kernel
theorem d_La_law_746 : decode code 746 = .ok (.i2l, 1) := by decide +kernel
theorem d_La_law_747 : decode code 747 = .ok (.lcmp, 1) := by decide +kernel
theorem d_La_law_748 : decode code 748 = .ok (.ifCond .eq 5, 3) := by decide +kernel
theorem d_La_law_751 : decode code 751 = .ok (.iconst 0, 1) := by decide +kernel
theorem d_La_law_752 : decode code 752 = .ok (.ireturn, 1) := by decide +kernel
theorem d_La_law_753 : decode code 753 = .ok (.goto 3, 3) := by decide +kernel
theorem d_La_law_756 : decode code 756 = .ok (.iinc 4 5, 3) := by decide +kernel
theorem d_La_law_759 : decode code 759 = .ok (.goto (-736), 3) := by decide +kernel
theorem d_La_law_762 : decode code 762 = .ok (.iconst 1, 1) := by decide +kernel
theorem d_La_law_763 : decode code 763 = .ok (.ireturn, 1) := by decide +kernel
