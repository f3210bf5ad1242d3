/-! each instruction, decoded -/
theorem d_Mo_init_0 : decode b_Mo_init 0 = .ok (.aload_n 0, 1) := by decide +kernel
theorem d_Mo_init_1 : decode b_Mo_init 1 = .ok (.invokespecial 1, 3) := by decide +kernel
theorem d_Mo_init_4 : decode b_Mo_init 4 = .ok (.aload_n 0, 1) := by decide +kernel
theorem d_Mo_init_5 : decode b_Mo_init 5 = .ok (.sipush 5000, 3) := by decide +kernel
theorem d_Mo_init_8 : decode b_Mo_init 8 = .ok (.newarray .int, 2) := by decide +kernel
theorem d_Mo_init_10 : decode b_Mo_init 10 = .ok (.putfield 7, 3) := by decide +kernel
theorem d_Mo_init_13 : decode b_Mo_init 13 = .ok (.aload_n 0, 1) := by decide +kernel
theorem d_Mo_init_14 : decode b_Mo_init 14 = .ok (.sipush 5000, 3) := by decide +kernel
theorem d_Mo_init_17 : decode b_Mo_init 17 = .ok (.newarray .int, 2) := by decide +kernel
theorem d_Mo_init_19 : decode b_Mo_init 19 = .ok (.putfield 13, 3) := by decide +kernel
theorem d_Mo_init_22 : decode b_Mo_init 22 = .ok (.aload_n 0, 1) := by decide +kernel
theorem d_Mo_init_23 : decode b_Mo_init 23 = .ok (.sipush 500, 3) := by decide +kernel
theorem d_Mo_init_26 : decode b_Mo_init 26 = .ok (.newarray .int, 2) := by decide +kernel
theorem d_Mo_init_28 : decode b_Mo_init 28 = .ok (.putfield 16, 3) := by decide +kernel
theorem d_Mo_init_31 : decode b_Mo_init 31 = .ok (.aload_n 0, 1) := by decide +kernel
theorem d_Mo_init_32 : decode b_Mo_init 32 = .ok (.sipush 1500, 3) := by decide +kernel
theorem d_Mo_init_35 : decode b_Mo_init 35 = .ok (.newarray .int, 2) := by decide +kernel
theorem d_Mo_init_37 : decode b_Mo_init 37 = .ok (.putfield 19, 3) := by decide +kernel
theorem d_Mo_init_40 : decode b_Mo_init 40 = .ok (.aload_n 0, 1) := by decide +kernel
theorem d_Mo_init_41 : decode b_Mo_init 41 = .ok (.sipush 500, 3) := by decide +kernel
theorem d_Mo_init_44 : decode b_Mo_init 44 = .ok (.newarray .int, 2) := by decide +kernel
theorem d_Mo_init_46 : decode b_Mo_init 46 = .ok (.putfield 22, 3) := by decide +kernel
theorem d_Mo_init_49 : decode b_Mo_init 49 = .ok (.aload_n 0, 1) := by decide +kernel
theorem d_Mo_init_50 : decode b_Mo_init 50 = .ok (.sipush 16000, 3) := by decide +kernel
theorem d_Mo_init_53 : decode b_Mo_init 53 = .ok (.newarray .int, 2) := by decide +kernel
theorem d_Mo_init_55 : decode b_Mo_init 55 = .ok (.putfield 25, 3) := by decide +kernel
theorem d_Mo_init_58 : decode b_Mo_init 58 = .ok (.aload_n 0, 1) := by decide +kernel
theorem d_Mo_init_59 : decode b_Mo_init 59 = .ok (.iconst (-1), 1) := by decide +kernel
theorem d_Mo_init_60 : decode b_Mo_init 60 = .ok (.putfield 28, 3) := by decide +kernel
theorem d_Mo_init_63 : decode b_Mo_init 63 = .ok (.aload_n 0, 1) := by decide +kernel
theorem d_Mo_init_64 : decode b_Mo_init 64 = .ok (.iconst 4, 1) := by decide +kernel
theorem d_Mo_init_65 : decode b_Mo_init 65 = .ok (.sipush 200, 3) := by decide +kernel
theorem d_Mo_init_68 : decode b_Mo_init 68 = .ok (.multianewarray 32 2, 4) := by decide +kernel
theorem d_Mo_init_72 : decode b_Mo_init 72 = .ok (.putfield 34, 3) := by decide +kernel
theorem d_Mo_init_75 : decode b_Mo_init 75 = .ok (.aload_n 0, 1) := by decide +kernel
theorem d_Mo_init_76 : decode b_Mo_init 76 = .ok (.iconst 4, 1) := by decide +kernel
theorem d_Mo_init_77 : decode b_Mo_init 77 = .ok (.newarray .int, 2) := by decide +kernel
theorem d_Mo_init_79 : decode b_Mo_init 79 = .ok (.putfield 37, 3) := by decide +kernel
theorem d_Mo_init_82 : decode b_Mo_init 82 = .ok (.aload_n 0, 1) := by decide +kernel
theorem d_Mo_init_83 : decode b_Mo_init 83 = .ok (.sipush 200, 3) := by decide +kernel
theorem d_Mo_init_86 : decode b_Mo_init 86 = .ok (.newarray .int, 2) := by decide +kernel
theorem d_Mo_init_88 : decode b_Mo_init 88 = .ok (.putfield 40, 3) := by decide +kernel
theorem d_Mo_init_91 : decode b_Mo_init 91 = .ok (.aload_n 0, 1) := by decide +kernel
theorem d_Mo_init_92 : decode b_Mo_init 92 = .ok (.sipush 6400, 3) := by decide +kernel
theorem d_Mo_init_95 : decode b_Mo_init 95 = .ok (.newarray .int, 2) := by decide +kernel
theorem d_Mo_init_97 : decode b_Mo_init 97 = .ok (.putfield 43, 3) := by decide +kernel
theorem d_Mo_init_100 : decode b_Mo_init 100 = .ok (.aload_n 0, 1) := by decide +kernel
theorem d_Mo_init_101 : decode b_Mo_init 101 = .ok (.sipush 6400, 3) := by decide +kernel
theorem d_Mo_init_104 : decode b_Mo_init 104 = .ok (.newarray .int, 2) := by decide +kernel
theorem d_Mo_init_106 : decode b_Mo_init 106 = .ok (.putfield 46, 3) := by decide +kernel
theorem d_Mo_init_109 : decode b_Mo_init 109 = .ok (.return_, 1) := by decide +kernel
theorem d_Mo_thrown_0 : decode b_Mo_thrown 0 = .ok (.aload_n 0, 1) := by decide +kernel
theorem d_Mo_thrown_1 : decode b_Mo_thrown 1 = .ok (.getfield 49, 3) := by decide +kernel
theorem d_Mo_thrown_4 : decode b_Mo_thrown 4 = .ok (.ireturn, 1) := by decide +kernel
theorem d_Mo_order_0 : decode b_Mo_order 0 = .ok (.aload_n 0, 1) := by decide +kernel
theorem d_Mo_order_1 : decode b_Mo_order 1 = .ok (.iconst 0, 1) := by decide +kernel
theorem d_Mo_order_2 : decode b_Mo_order 2 = .ok (.putfield 49, 3) := by decide +kernel
theorem d_Mo_order_5 : decode b_Mo_order 5 = .ok (.aload_n 0, 1) := by decide +kernel
theorem d_Mo_order_6 : decode b_Mo_order 6 = .ok (.iload_n 1, 1) := by decide +kernel
theorem d_Mo_order_7 : decode b_Mo_order 7 = .ok (.invokevirtual 53, 3) := by decide +kernel
theorem d_Mo_order_10 : decode b_Mo_order 10 = .ok (.ifCond .ne 14, 3) := by decide +kernel
theorem d_Mo_order_13 : decode b_Mo_order 13 = .ok (.iload_n 2, 1) := by decide +kernel
theorem d_Mo_order_14 : decode b_Mo_order 14 = .ok (.ifCond .lt 10, 3) := by decide +kernel
theorem d_Mo_order_17 : decode b_Mo_order 17 = .ok (.iload_n 2, 1) := by decide +kernel
theorem d_Mo_order_18 : decode b_Mo_order 18 = .ok (.sipush 254, 3) := by decide +kernel
theorem d_Mo_order_21 : decode b_Mo_order 21 = .ok (.if_icmp .le 11, 3) := by decide +kernel
theorem d_Mo_order_24 : decode b_Mo_order 24 = .ok (.aload_n 0, 1) := by decide +kernel
theorem d_Mo_order_25 : decode b_Mo_order 25 = .ok (.iconst 1, 1) := by decide +kernel
theorem d_Mo_order_26 : decode b_Mo_order 26 = .ok (.putfield 49, 3) := by decide +kernel
theorem d_Mo_order_29 : decode b_Mo_order 29 = .ok (.goto 61, 3) := by decide +kernel
theorem d_Mo_order_32 : decode b_Mo_order 32 = .ok (.iconst 0, 1) := by decide +kernel
theorem d_Mo_order_33 : decode b_Mo_order 33 = .ok (.istore_n 3, 1) := by decide +kernel
theorem d_Mo_order_34 : decode b_Mo_order 34 = .ok (.iload_n 3, 1) := by decide +kernel
theorem d_Mo_order_35 : decode b_Mo_order 35 = .ok (.aload_n 0, 1) := by decide +kernel
theorem d_Mo_order_36 : decode b_Mo_order 36 = .ok (.getfield 57, 3) := by decide +kernel
theorem d_Mo_order_39 : decode b_Mo_order 39 = .ok (.if_icmp .ge 19, 3) := by decide +kernel
theorem d_Mo_order_42 : decode b_Mo_order 42 = .ok (.aload_n 0, 1) := by decide +kernel
theorem d_Mo_order_43 : decode b_Mo_order 43 = .ok (.getfield 7, 3) := by decide +kernel
theorem d_Mo_order_46 : decode b_Mo_order 46 = .ok (.iload_n 3, 1) := by decide +kernel
theorem d_Mo_order_47 : decode b_Mo_order 47 = .ok (.iaload, 1) := by decide +kernel
theorem d_Mo_order_48 : decode b_Mo_order 48 = .ok (.iload_n 1, 1) := by decide +kernel
theorem d_Mo_order_49 : decode b_Mo_order 49 = .ok (.if_icmp .eq 9, 3) := by decide +kernel
theorem d_Mo_order_52 : decode b_Mo_order 52 = .ok (.iinc 3 1, 3) := by decide +kernel
theorem d_Mo_order_55 : decode b_Mo_order 55 = .ok (.goto (-21), 3) := by decide +kernel
theorem d_Mo_order_58 : decode b_Mo_order 58 = .ok (.aload_n 0, 1) := by decide +kernel
theorem d_Mo_order_59 : decode b_Mo_order 59 = .ok (.getfield 7, 3) := by decide +kernel
theorem d_Mo_order_62 : decode b_Mo_order 62 = .ok (.iload_n 3, 1) := by decide +kernel
theorem d_Mo_order_63 : decode b_Mo_order 63 = .ok (.iload_n 1, 1) := by decide +kernel
theorem d_Mo_order_64 : decode b_Mo_order 64 = .ok (.iastore, 1) := by decide +kernel
theorem d_Mo_order_65 : decode b_Mo_order 65 = .ok (.aload_n 0, 1) := by decide +kernel
theorem d_Mo_order_66 : decode b_Mo_order 66 = .ok (.getfield 13, 3) := by decide +kernel
theorem d_Mo_order_69 : decode b_Mo_order 69 = .ok (.iload_n 3, 1) := by decide +kernel
theorem d_Mo_order_70 : decode b_Mo_order 70 = .ok (.iload_n 2, 1) := by decide +kernel
theorem d_Mo_order_71 : decode b_Mo_order 71 = .ok (.iastore, 1) := by decide +kernel
theorem d_Mo_order_72 : decode b_Mo_order 72 = .ok (.iload_n 3, 1) := by decide +kernel
theorem d_Mo_order_73 : decode b_Mo_order 73 = .ok (.aload_n 0, 1) := by decide +kernel
theorem d_Mo_order_74 : decode b_Mo_order 74 = .ok (.getfield 57, 3) := by decide +kernel
theorem d_Mo_order_77 : decode b_Mo_order 77 = .ok (.if_icmp .ne 13, 3) := by decide +kernel
theorem d_Mo_order_80 : decode b_Mo_order 80 = .ok (.aload_n 0, 1) := by decide +kernel
theorem d_Mo_order_81 : decode b_Mo_order 81 = .ok (.dup, 1) := by decide +kernel
theorem d_Mo_order_82 : decode b_Mo_order 82 = .ok (.getfield 57, 3) := by decide +kernel
theorem d_Mo_order_85 : decode b_Mo_order 85 = .ok (.iconst 1, 1) := by decide +kernel
theorem d_Mo_order_86 : decode b_Mo_order 86 = .ok (.iadd, 1) := by decide +kernel
theorem d_Mo_order_87 : decode b_Mo_order 87 = .ok (.putfield 57, 3) := by decide +kernel
theorem d_Mo_order_90 : decode b_Mo_order 90 = .ok (.return_, 1) := by decide +kernel
theorem d_Mo_out_0 : decode b_Mo_out 0 = .ok (.iload_n 1, 1) := by decide +kernel
theorem d_Mo_out_1 : decode b_Mo_out 1 = .ok (.ifCond .lt 9, 3) := by decide +kernel
theorem d_Mo_out_4 : decode b_Mo_out 4 = .ok (.iload_n 1, 1) := by decide +kernel
theorem d_Mo_out_5 : decode b_Mo_out 5 = .ok (.ldc 52, 2) := by decide +kernel
theorem d_Mo_out_7 : decode b_Mo_out 7 = .ok (.if_icmp .le 7, 3) := by decide +kernel
theorem d_Mo_out_10 : decode b_Mo_out 10 = .ok (.iconst 1, 1) := by decide +kernel
theorem d_Mo_out_11 : decode b_Mo_out 11 = .ok (.goto 4, 3) := by decide +kernel
theorem d_Mo_out_14 : decode b_Mo_out 14 = .ok (.iconst 0, 1) := by decide +kernel
theorem d_Mo_out_15 : decode b_Mo_out 15 = .ok (.ireturn, 1) := by decide +kernel
theorem d_Mo_line_0 : decode b_Mo_line 0 = .ok (.aload_n 0, 1) := by decide +kernel
theorem d_Mo_line_1 : decode b_Mo_line 1 = .ok (.iconst 0, 1) := by decide +kernel
theorem d_Mo_line_2 : decode b_Mo_line 2 = .ok (.putfield 49, 3) := by decide +kernel
theorem d_Mo_line_5 : decode b_Mo_line 5 = .ok (.iload_n 1, 1) := by decide +kernel
theorem d_Mo_line_6 : decode b_Mo_line 6 = .ok (.iconst 1, 1) := by decide +kernel
theorem d_Mo_line_7 : decode b_Mo_line 7 = .ok (.if_icmp .lt 33, 3) := by decide +kernel
theorem d_Mo_line_10 : decode b_Mo_line 10 = .ok (.iload_n 1, 1) := by decide +kernel
theorem d_Mo_line_11 : decode b_Mo_line 11 = .ok (.iconst 3, 1) := by decide +kernel
theorem d_Mo_line_12 : decode b_Mo_line 12 = .ok (.if_icmp .gt 28, 3) := by decide +kernel
theorem d_Mo_line_15 : decode b_Mo_line 15 = .ok (.aload_n 0, 1) := by decide +kernel
theorem d_Mo_line_16 : decode b_Mo_line 16 = .ok (.iload_n 2, 1) := by decide +kernel
theorem d_Mo_line_17 : decode b_Mo_line 17 = .ok (.invokevirtual 53, 3) := by decide +kernel
theorem d_Mo_line_20 : decode b_Mo_line 20 = .ok (.ifCond .ne 20, 3) := by decide +kernel
theorem d_Mo_line_23 : decode b_Mo_line 23 = .ok (.aload_n 0, 1) := by decide +kernel
theorem d_Mo_line_24 : decode b_Mo_line 24 = .ok (.iload_n 3, 1) := by decide +kernel
theorem d_Mo_line_25 : decode b_Mo_line 25 = .ok (.invokevirtual 53, 3) := by decide +kernel
theorem d_Mo_line_28 : decode b_Mo_line 28 = .ok (.ifCond .ne 12, 3) := by decide +kernel
theorem d_Mo_line_31 : decode b_Mo_line 31 = .ok (.aload_n 0, 1) := by decide +kernel
theorem d_Mo_line_32 : decode b_Mo_line 32 = .ok (.iload 4, 2) := by decide +kernel
theorem d_Mo_line_34 : decode b_Mo_line 34 = .ok (.invokevirtual 53, 3) := by decide +kernel
theorem d_Mo_line_37 : decode b_Mo_line 37 = .ok (.ifCond .eq 9, 3) := by decide +kernel
theorem d_Mo_line_40 : decode b_Mo_line 40 = .ok (.aload_n 0, 1) := by decide +kernel
theorem d_Mo_line_41 : decode b_Mo_line 41 = .ok (.iconst 1, 1) := by decide +kernel
theorem d_Mo_line_42 : decode b_Mo_line 42 = .ok (.invokevirtual 63, 3) := by decide +kernel
theorem d_Mo_line_45 : decode b_Mo_line 45 = .ok (.ireturn, 1) := by decide +kernel
theorem d_Mo_line_46 : decode b_Mo_line 46 = .ok (.aload_n 0, 1) := by decide +kernel
theorem d_Mo_line_47 : decode b_Mo_line 47 = .ok (.iload_n 1, 1) := by decide +kernel
theorem d_Mo_line_48 : decode b_Mo_line 48 = .ok (.iload_n 2, 1) := by decide +kernel
theorem d_Mo_line_49 : decode b_Mo_line 49 = .ok (.iload_n 3, 1) := by decide +kernel
theorem d_Mo_line_50 : decode b_Mo_line 50 = .ok (.iload 4, 2) := by decide +kernel
theorem d_Mo_line_52 : decode b_Mo_line 52 = .ok (.invokevirtual 67, 3) := by decide +kernel
theorem d_Mo_line_55 : decode b_Mo_line 55 = .ok (.istore 5, 2) := by decide +kernel
theorem d_Mo_line_57 : decode b_Mo_line 57 = .ok (.iload 5, 2) := by decide +kernel
theorem d_Mo_line_59 : decode b_Mo_line 59 = .ok (.ifCond .ge 19, 3) := by decide +kernel
theorem d_Mo_line_62 : decode b_Mo_line 62 = .ok (.aload_n 0, 1) := by decide +kernel
theorem d_Mo_line_63 : decode b_Mo_line 63 = .ok (.getfield 60, 3) := by decide +kernel
theorem d_Mo_line_66 : decode b_Mo_line 66 = .ok (.sipush 500, 3) := by decide +kernel
theorem d_Mo_line_69 : decode b_Mo_line 69 = .ok (.if_icmp .ne 9, 3) := by decide +kernel
theorem d_Mo_line_72 : decode b_Mo_line 72 = .ok (.aload_n 0, 1) := by decide +kernel
theorem d_Mo_line_73 : decode b_Mo_line 73 = .ok (.iconst 2, 1) := by decide +kernel
theorem d_Mo_line_74 : decode b_Mo_line 74 = .ok (.invokevirtual 63, 3) := by decide +kernel
theorem d_Mo_line_77 : decode b_Mo_line 77 = .ok (.ireturn, 1) := by decide +kernel
theorem d_Mo_line_78 : decode b_Mo_line 78 = .ok (.iload 5, 2) := by decide +kernel
theorem d_Mo_line_80 : decode b_Mo_line 80 = .ok (.ifCond .ge 19, 3) := by decide +kernel
theorem d_Mo_line_83 : decode b_Mo_line 83 = .ok (.aload_n 0, 1) := by decide +kernel
theorem d_Mo_line_84 : decode b_Mo_line 84 = .ok (.getfield 60, 3) := by decide +kernel
theorem d_Mo_line_87 : decode b_Mo_line 87 = .ok (.istore 5, 2) := by decide +kernel
theorem d_Mo_line_89 : decode b_Mo_line 89 = .ok (.aload_n 0, 1) := by decide +kernel
theorem d_Mo_line_90 : decode b_Mo_line 90 = .ok (.dup, 1) := by decide +kernel
theorem d_Mo_line_91 : decode b_Mo_line 91 = .ok (.getfield 60, 3) := by decide +kernel
theorem d_Mo_line_94 : decode b_Mo_line 94 = .ok (.iconst 1, 1) := by decide +kernel
theorem d_Mo_line_95 : decode b_Mo_line 95 = .ok (.iadd, 1) := by decide +kernel
theorem d_Mo_line_96 : decode b_Mo_line 96 = .ok (.putfield 60, 3) := by decide +kernel
theorem d_Mo_line_99 : decode b_Mo_line 99 = .ok (.aload_n 0, 1) := by decide +kernel
theorem d_Mo_line_100 : decode b_Mo_line 100 = .ok (.getfield 16, 3) := by decide +kernel
theorem d_Mo_line_103 : decode b_Mo_line 103 = .ok (.iload 5, 2) := by decide +kernel
theorem d_Mo_line_105 : decode b_Mo_line 105 = .ok (.iload_n 1, 1) := by decide +kernel
theorem d_Mo_line_106 : decode b_Mo_line 106 = .ok (.iastore, 1) := by decide +kernel
theorem d_Mo_line_107 : decode b_Mo_line 107 = .ok (.aload_n 0, 1) := by decide +kernel
theorem d_Mo_line_108 : decode b_Mo_line 108 = .ok (.getfield 19, 3) := by decide +kernel
theorem d_Mo_line_111 : decode b_Mo_line 111 = .ok (.iconst 3, 1) := by decide +kernel
theorem d_Mo_line_112 : decode b_Mo_line 112 = .ok (.iload 5, 2) := by decide +kernel
theorem d_Mo_line_114 : decode b_Mo_line 114 = .ok (.imul, 1) := by decide +kernel
theorem d_Mo_line_115 : decode b_Mo_line 115 = .ok (.iload_n 2, 1) := by decide +kernel
theorem d_Mo_line_116 : decode b_Mo_line 116 = .ok (.iastore, 1) := by decide +kernel
theorem d_Mo_line_117 : decode b_Mo_line 117 = .ok (.aload_n 0, 1) := by decide +kernel
theorem d_Mo_line_118 : decode b_Mo_line 118 = .ok (.getfield 19, 3) := by decide +kernel
theorem d_Mo_line_121 : decode b_Mo_line 121 = .ok (.iconst 3, 1) := by decide +kernel
theorem d_Mo_line_122 : decode b_Mo_line 122 = .ok (.iload 5, 2) := by decide +kernel
theorem d_Mo_line_124 : decode b_Mo_line 124 = .ok (.imul, 1) := by decide +kernel
theorem d_Mo_line_125 : decode b_Mo_line 125 = .ok (.iconst 1, 1) := by decide +kernel
theorem d_Mo_line_126 : decode b_Mo_line 126 = .ok (.iadd, 1) := by decide +kernel
theorem d_Mo_line_127 : decode b_Mo_line 127 = .ok (.iload_n 3, 1) := by decide +kernel
theorem d_Mo_line_128 : decode b_Mo_line 128 = .ok (.iastore, 1) := by decide +kernel
theorem d_Mo_line_129 : decode b_Mo_line 129 = .ok (.aload_n 0, 1) := by decide +kernel
theorem d_Mo_line_130 : decode b_Mo_line 130 = .ok (.getfield 19, 3) := by decide +kernel
theorem d_Mo_line_133 : decode b_Mo_line 133 = .ok (.iconst 3, 1) := by decide +kernel
theorem d_Mo_line_134 : decode b_Mo_line 134 = .ok (.iload 5, 2) := by decide +kernel
theorem d_Mo_line_136 : decode b_Mo_line 136 = .ok (.imul, 1) := by decide +kernel
theorem d_Mo_line_137 : decode b_Mo_line 137 = .ok (.iconst 2, 1) := by decide +kernel
theorem d_Mo_line_138 : decode b_Mo_line 138 = .ok (.iadd, 1) := by decide +kernel
theorem d_Mo_line_139 : decode b_Mo_line 139 = .ok (.iload 4, 2) := by decide +kernel
theorem d_Mo_line_141 : decode b_Mo_line 141 = .ok (.iastore, 1) := by decide +kernel
theorem d_Mo_line_142 : decode b_Mo_line 142 = .ok (.aload_n 0, 1) := by decide +kernel
theorem d_Mo_line_143 : decode b_Mo_line 143 = .ok (.getfield 22, 3) := by decide +kernel
theorem d_Mo_line_146 : decode b_Mo_line 146 = .ok (.iload 5, 2) := by decide +kernel
theorem d_Mo_line_148 : decode b_Mo_line 148 = .ok (.iconst 0, 1) := by decide +kernel
theorem d_Mo_line_149 : decode b_Mo_line 149 = .ok (.iastore, 1) := by decide +kernel
theorem d_Mo_line_150 : decode b_Mo_line 150 = .ok (.aload_n 0, 1) := by decide +kernel
theorem d_Mo_line_151 : decode b_Mo_line 151 = .ok (.iload 5, 2) := by decide +kernel
theorem d_Mo_line_153 : decode b_Mo_line 153 = .ok (.putfield 28, 3) := by decide +kernel
theorem d_Mo_line_156 : decode b_Mo_line 156 = .ok (.aload_n 0, 1) := by decide +kernel
theorem d_Mo_line_157 : decode b_Mo_line 157 = .ok (.getfield 60, 3) := by decide +kernel
theorem d_Mo_line_160 : decode b_Mo_line 160 = .ok (.ireturn, 1) := by decide +kernel
theorem d_Mo_fail_0 : decode b_Mo_fail 0 = .ok (.aload_n 0, 1) := by decide +kernel
theorem d_Mo_fail_1 : decode b_Mo_fail 1 = .ok (.iload_n 1, 1) := by decide +kernel
theorem d_Mo_fail_2 : decode b_Mo_fail 2 = .ok (.putfield 49, 3) := by decide +kernel
theorem d_Mo_fail_5 : decode b_Mo_fail 5 = .ok (.iconst 0, 1) := by decide +kernel
theorem d_Mo_fail_6 : decode b_Mo_fail 6 = .ok (.ireturn, 1) := by decide +kernel
theorem d_Mo_lineOf_0 : decode b_Mo_lineOf 0 = .ok (.iconst 0, 1) := by decide +kernel
theorem d_Mo_lineOf_1 : decode b_Mo_lineOf 1 = .ok (.istore 5, 2) := by decide +kernel
theorem d_Mo_lineOf_3 : decode b_Mo_lineOf 3 = .ok (.iload 5, 2) := by decide +kernel
theorem d_Mo_lineOf_5 : decode b_Mo_lineOf 5 = .ok (.aload_n 0, 1) := by decide +kernel
theorem d_Mo_lineOf_6 : decode b_Mo_lineOf 6 = .ok (.getfield 60, 3) := by decide +kernel
theorem d_Mo_lineOf_9 : decode b_Mo_lineOf 9 = .ok (.if_icmp .ge 77, 3) := by decide +kernel
theorem d_Mo_lineOf_12 : decode b_Mo_lineOf 12 = .ok (.aload_n 0, 1) := by decide +kernel
theorem d_Mo_lineOf_13 : decode b_Mo_lineOf 13 = .ok (.getfield 16, 3) := by decide +kernel
theorem d_Mo_lineOf_16 : decode b_Mo_lineOf 16 = .ok (.iload 5, 2) := by decide +kernel
theorem d_Mo_lineOf_18 : decode b_Mo_lineOf 18 = .ok (.iaload, 1) := by decide +kernel
theorem d_Mo_lineOf_19 : decode b_Mo_lineOf 19 = .ok (.iload_n 1, 1) := by decide +kernel
theorem d_Mo_lineOf_20 : decode b_Mo_lineOf 20 = .ok (.if_icmp .ne 60, 3) := by decide +kernel
theorem d_Mo_lineOf_23 : decode b_Mo_lineOf 23 = .ok (.aload_n 0, 1) := by decide +kernel
theorem d_Mo_lineOf_24 : decode b_Mo_lineOf 24 = .ok (.getfield 19, 3) := by decide +kernel
theorem d_Mo_lineOf_27 : decode b_Mo_lineOf 27 = .ok (.iconst 3, 1) := by decide +kernel
theorem d_Mo_lineOf_28 : decode b_Mo_lineOf 28 = .ok (.iload 5, 2) := by decide +kernel
theorem d_Mo_lineOf_30 : decode b_Mo_lineOf 30 = .ok (.imul, 1) := by decide +kernel
theorem d_Mo_lineOf_31 : decode b_Mo_lineOf 31 = .ok (.iaload, 1) := by decide +kernel
theorem d_Mo_lineOf_32 : decode b_Mo_lineOf 32 = .ok (.iload_n 2, 1) := by decide +kernel
theorem d_Mo_lineOf_33 : decode b_Mo_lineOf 33 = .ok (.if_icmp .ne 47, 3) := by decide +kernel
theorem d_Mo_lineOf_36 : decode b_Mo_lineOf 36 = .ok (.iload_n 1, 1) := by decide +kernel
theorem d_Mo_lineOf_37 : decode b_Mo_lineOf 37 = .ok (.iconst 2, 1) := by decide +kernel
theorem d_Mo_lineOf_38 : decode b_Mo_lineOf 38 = .ok (.if_icmp .lt 18, 3) := by decide +kernel
theorem d_Mo_lineOf_41 : decode b_Mo_lineOf 41 = .ok (.aload_n 0, 1) := by decide +kernel
theorem d_Mo_lineOf_42 : decode b_Mo_lineOf 42 = .ok (.getfield 19, 3) := by decide +kernel
theorem d_Mo_lineOf_45 : decode b_Mo_lineOf 45 = .ok (.iconst 3, 1) := by decide +kernel
theorem d_Mo_lineOf_46 : decode b_Mo_lineOf 46 = .ok (.iload 5, 2) := by decide +kernel
theorem d_Mo_lineOf_48 : decode b_Mo_lineOf 48 = .ok (.imul, 1) := by decide +kernel
theorem d_Mo_lineOf_49 : decode b_Mo_lineOf 49 = .ok (.iconst 1, 1) := by decide +kernel
theorem d_Mo_lineOf_50 : decode b_Mo_lineOf 50 = .ok (.iadd, 1) := by decide +kernel
theorem d_Mo_lineOf_51 : decode b_Mo_lineOf 51 = .ok (.iaload, 1) := by decide +kernel
theorem d_Mo_lineOf_52 : decode b_Mo_lineOf 52 = .ok (.iload_n 3, 1) := by decide +kernel
theorem d_Mo_lineOf_53 : decode b_Mo_lineOf 53 = .ok (.if_icmp .ne 27, 3) := by decide +kernel
theorem d_Mo_lineOf_56 : decode b_Mo_lineOf 56 = .ok (.iload_n 1, 1) := by decide +kernel
theorem d_Mo_lineOf_57 : decode b_Mo_lineOf 57 = .ok (.iconst 3, 1) := by decide +kernel
theorem d_Mo_lineOf_58 : decode b_Mo_lineOf 58 = .ok (.if_icmp .lt 19, 3) := by decide +kernel
theorem d_Mo_lineOf_61 : decode b_Mo_lineOf 61 = .ok (.aload_n 0, 1) := by decide +kernel
theorem d_Mo_lineOf_62 : decode b_Mo_lineOf 62 = .ok (.getfield 19, 3) := by decide +kernel
theorem d_Mo_lineOf_65 : decode b_Mo_lineOf 65 = .ok (.iconst 3, 1) := by decide +kernel
theorem d_Mo_lineOf_66 : decode b_Mo_lineOf 66 = .ok (.iload 5, 2) := by decide +kernel
theorem d_Mo_lineOf_68 : decode b_Mo_lineOf 68 = .ok (.imul, 1) := by decide +kernel
theorem d_Mo_lineOf_69 : decode b_Mo_lineOf 69 = .ok (.iconst 2, 1) := by decide +kernel
theorem d_Mo_lineOf_70 : decode b_Mo_lineOf 70 = .ok (.iadd, 1) := by decide +kernel
theorem d_Mo_lineOf_71 : decode b_Mo_lineOf 71 = .ok (.iaload, 1) := by decide +kernel
theorem d_Mo_lineOf_72 : decode b_Mo_lineOf 72 = .ok (.iload 4, 2) := by decide +kernel
theorem d_Mo_lineOf_74 : decode b_Mo_lineOf 74 = .ok (.if_icmp .ne 6, 3) := by decide +kernel
theorem d_Mo_lineOf_77 : decode b_Mo_lineOf 77 = .ok (.iload 5, 2) := by decide +kernel
theorem d_Mo_lineOf_79 : decode b_Mo_lineOf 79 = .ok (.ireturn, 1) := by decide +kernel
theorem d_Mo_lineOf_80 : decode b_Mo_lineOf 80 = .ok (.iinc 5 1, 3) := by decide +kernel
theorem d_Mo_lineOf_83 : decode b_Mo_lineOf 83 = .ok (.goto (-80), 3) := by decide +kernel
theorem d_Mo_lineOf_86 : decode b_Mo_lineOf 86 = .ok (.iconst (-1), 1) := by decide +kernel
theorem d_Mo_lineOf_87 : decode b_Mo_lineOf 87 = .ok (.ireturn, 1) := by decide +kernel
theorem d_Mo_element_0 : decode b_Mo_element 0 = .ok (.aload_n 0, 1) := by decide +kernel
theorem d_Mo_element_1 : decode b_Mo_element 1 = .ok (.iconst 0, 1) := by decide +kernel
theorem d_Mo_element_2 : decode b_Mo_element 2 = .ok (.putfield 49, 3) := by decide +kernel
theorem d_Mo_element_5 : decode b_Mo_element 5 = .ok (.aload_n 0, 1) := by decide +kernel
theorem d_Mo_element_6 : decode b_Mo_element 6 = .ok (.getfield 28, 3) := by decide +kernel
theorem d_Mo_element_9 : decode b_Mo_element 9 = .ok (.ifCond .lt 33, 3) := by decide +kernel
theorem d_Mo_element_12 : decode b_Mo_element 12 = .ok (.iload_n 1, 1) := by decide +kernel
theorem d_Mo_element_13 : decode b_Mo_element 13 = .ok (.ifCond .lt 29, 3) := by decide +kernel
theorem d_Mo_element_16 : decode b_Mo_element 16 = .ok (.iload_n 1, 1) := by decide +kernel
theorem d_Mo_element_17 : decode b_Mo_element 17 = .ok (.ldc 71, 2) := by decide +kernel
theorem d_Mo_element_19 : decode b_Mo_element 19 = .ok (.if_icmp .gt 23, 3) := by decide +kernel
theorem d_Mo_element_22 : decode b_Mo_element 22 = .ok (.iload_n 2, 1) := by decide +kernel
theorem d_Mo_element_23 : decode b_Mo_element 23 = .ok (.ifCond .lt 19, 3) := by decide +kernel
theorem d_Mo_element_26 : decode b_Mo_element 26 = .ok (.iload_n 2, 1) := by decide +kernel
theorem d_Mo_element_27 : decode b_Mo_element 27 = .ok (.ldc 71, 2) := by decide +kernel
theorem d_Mo_element_29 : decode b_Mo_element 29 = .ok (.if_icmp .gt 13, 3) := by decide +kernel
theorem d_Mo_element_32 : decode b_Mo_element 32 = .ok (.iload_n 3, 1) := by decide +kernel
theorem d_Mo_element_33 : decode b_Mo_element 33 = .ok (.ifCond .lt 9, 3) := by decide +kernel
theorem d_Mo_element_36 : decode b_Mo_element 36 = .ok (.iload_n 3, 1) := by decide +kernel
theorem d_Mo_element_37 : decode b_Mo_element 37 = .ok (.ldc 71, 2) := by decide +kernel
theorem d_Mo_element_39 : decode b_Mo_element 39 = .ok (.if_icmp .le 9, 3) := by decide +kernel
theorem d_Mo_element_42 : decode b_Mo_element 42 = .ok (.aload_n 0, 1) := by decide +kernel
theorem d_Mo_element_43 : decode b_Mo_element 43 = .ok (.iconst 1, 1) := by decide +kernel
theorem d_Mo_element_44 : decode b_Mo_element 44 = .ok (.invokevirtual 63, 3) := by decide +kernel
theorem d_Mo_element_47 : decode b_Mo_element 47 = .ok (.ireturn, 1) := by decide +kernel
theorem d_Mo_element_48 : decode b_Mo_element 48 = .ok (.aload_n 0, 1) := by decide +kernel
theorem d_Mo_element_49 : decode b_Mo_element 49 = .ok (.getfield 22, 3) := by decide +kernel
theorem d_Mo_element_52 : decode b_Mo_element 52 = .ok (.aload_n 0, 1) := by decide +kernel
theorem d_Mo_element_53 : decode b_Mo_element 53 = .ok (.getfield 28, 3) := by decide +kernel
theorem d_Mo_element_56 : decode b_Mo_element 56 = .ok (.iaload, 1) := by decide +kernel
theorem d_Mo_element_57 : decode b_Mo_element 57 = .ok (.bipush 8, 2) := by decide +kernel
theorem d_Mo_element_59 : decode b_Mo_element 59 = .ok (.if_icmp .ne 9, 3) := by decide +kernel
theorem d_Mo_element_62 : decode b_Mo_element 62 = .ok (.aload_n 0, 1) := by decide +kernel
theorem d_Mo_element_63 : decode b_Mo_element 63 = .ok (.iconst 2, 1) := by decide +kernel
theorem d_Mo_element_64 : decode b_Mo_element 64 = .ok (.invokevirtual 63, 3) := by decide +kernel
theorem d_Mo_element_67 : decode b_Mo_element 67 = .ok (.ireturn, 1) := by decide +kernel
theorem d_Mo_element_68 : decode b_Mo_element 68 = .ok (.iconst 4, 1) := by decide +kernel
theorem d_Mo_element_69 : decode b_Mo_element 69 = .ok (.bipush 8, 2) := by decide +kernel
theorem d_Mo_element_71 : decode b_Mo_element 71 = .ok (.aload_n 0, 1) := by decide +kernel
theorem d_Mo_element_72 : decode b_Mo_element 72 = .ok (.getfield 28, 3) := by decide +kernel
theorem d_Mo_element_75 : decode b_Mo_element 75 = .ok (.imul, 1) := by decide +kernel
theorem d_Mo_element_76 : decode b_Mo_element 76 = .ok (.aload_n 0, 1) := by decide +kernel
theorem d_Mo_element_77 : decode b_Mo_element 77 = .ok (.getfield 22, 3) := by decide +kernel
theorem d_Mo_element_80 : decode b_Mo_element 80 = .ok (.aload_n 0, 1) := by decide +kernel
theorem d_Mo_element_81 : decode b_Mo_element 81 = .ok (.getfield 28, 3) := by decide +kernel
theorem d_Mo_element_84 : decode b_Mo_element 84 = .ok (.iaload, 1) := by decide +kernel
theorem d_Mo_element_85 : decode b_Mo_element 85 = .ok (.iadd, 1) := by decide +kernel
theorem d_Mo_element_86 : decode b_Mo_element 86 = .ok (.imul, 1) := by decide +kernel
theorem d_Mo_element_87 : decode b_Mo_element 87 = .ok (.istore 5, 2) := by decide +kernel
theorem d_Mo_element_89 : decode b_Mo_element 89 = .ok (.aload_n 0, 1) := by decide +kernel
theorem d_Mo_element_90 : decode b_Mo_element 90 = .ok (.getfield 25, 3) := by decide +kernel
theorem d_Mo_element_93 : decode b_Mo_element 93 = .ok (.iload 5, 2) := by decide +kernel
theorem d_Mo_element_95 : decode b_Mo_element 95 = .ok (.iload_n 1, 1) := by decide +kernel
theorem d_Mo_element_96 : decode b_Mo_element 96 = .ok (.iastore, 1) := by decide +kernel
theorem d_Mo_element_97 : decode b_Mo_element 97 = .ok (.aload_n 0, 1) := by decide +kernel
theorem d_Mo_element_98 : decode b_Mo_element 98 = .ok (.getfield 25, 3) := by decide +kernel
theorem d_Mo_element_101 : decode b_Mo_element 101 = .ok (.iload 5, 2) := by decide +kernel
theorem d_Mo_element_103 : decode b_Mo_element 103 = .ok (.iconst 1, 1) := by decide +kernel
theorem d_Mo_element_104 : decode b_Mo_element 104 = .ok (.iadd, 1) := by decide +kernel
theorem d_Mo_element_105 : decode b_Mo_element 105 = .ok (.iload_n 2, 1) := by decide +kernel
theorem d_Mo_element_106 : decode b_Mo_element 106 = .ok (.iastore, 1) := by decide +kernel
theorem d_Mo_element_107 : decode b_Mo_element 107 = .ok (.aload_n 0, 1) := by decide +kernel
theorem d_Mo_element_108 : decode b_Mo_element 108 = .ok (.getfield 25, 3) := by decide +kernel
theorem d_Mo_element_111 : decode b_Mo_element 111 = .ok (.iload 5, 2) := by decide +kernel
theorem d_Mo_element_113 : decode b_Mo_element 113 = .ok (.iconst 2, 1) := by decide +kernel
theorem d_Mo_element_114 : decode b_Mo_element 114 = .ok (.iadd, 1) := by decide +kernel
theorem d_Mo_element_115 : decode b_Mo_element 115 = .ok (.iload_n 3, 1) := by decide +kernel
theorem d_Mo_element_116 : decode b_Mo_element 116 = .ok (.iastore, 1) := by decide +kernel
theorem d_Mo_element_117 : decode b_Mo_element 117 = .ok (.aload_n 0, 1) := by decide +kernel
theorem d_Mo_element_118 : decode b_Mo_element 118 = .ok (.getfield 25, 3) := by decide +kernel
theorem d_Mo_element_121 : decode b_Mo_element 121 = .ok (.iload 5, 2) := by decide +kernel
theorem d_Mo_element_123 : decode b_Mo_element 123 = .ok (.iconst 3, 1) := by decide +kernel
theorem d_Mo_element_124 : decode b_Mo_element 124 = .ok (.iadd, 1) := by decide +kernel
theorem d_Mo_element_125 : decode b_Mo_element 125 = .ok (.iload 4, 2) := by decide +kernel
theorem d_Mo_element_127 : decode b_Mo_element 127 = .ok (.ifCond .eq 7, 3) := by decide +kernel
theorem d_Mo_element_130 : decode b_Mo_element 130 = .ok (.iconst 1, 1) := by decide +kernel
theorem d_Mo_element_131 : decode b_Mo_element 131 = .ok (.goto 4, 3) := by decide +kernel
theorem d_Mo_element_134 : decode b_Mo_element 134 = .ok (.iconst 0, 1) := by decide +kernel
theorem d_Mo_element_135 : decode b_Mo_element 135 = .ok (.iastore, 1) := by decide +kernel
theorem d_Mo_element_136 : decode b_Mo_element 136 = .ok (.aload_n 0, 1) := by decide +kernel
theorem d_Mo_element_137 : decode b_Mo_element 137 = .ok (.getfield 22, 3) := by decide +kernel
theorem d_Mo_element_140 : decode b_Mo_element 140 = .ok (.aload_n 0, 1) := by decide +kernel
theorem d_Mo_element_141 : decode b_Mo_element 141 = .ok (.getfield 28, 3) := by decide +kernel
theorem d_Mo_element_144 : decode b_Mo_element 144 = .ok (.dup2, 1) := by decide +kernel
theorem d_Mo_element_145 : decode b_Mo_element 145 = .ok (.iaload, 1) := by decide +kernel
theorem d_Mo_element_146 : decode b_Mo_element 146 = .ok (.iconst 1, 1) := by decide +kernel
theorem d_Mo_element_147 : decode b_Mo_element 147 = .ok (.iadd, 1) := by decide +kernel
theorem d_Mo_element_148 : decode b_Mo_element 148 = .ok (.iastore, 1) := by decide +kernel
theorem d_Mo_element_149 : decode b_Mo_element 149 = .ok (.aload_n 0, 1) := by decide +kernel
theorem d_Mo_element_150 : decode b_Mo_element 150 = .ok (.getfield 22, 3) := by decide +kernel
theorem d_Mo_element_153 : decode b_Mo_element 153 = .ok (.aload_n 0, 1) := by decide +kernel
theorem d_Mo_element_154 : decode b_Mo_element 154 = .ok (.getfield 28, 3) := by decide +kernel
theorem d_Mo_element_157 : decode b_Mo_element 157 = .ok (.iaload, 1) := by decide +kernel
theorem d_Mo_element_158 : decode b_Mo_element 158 = .ok (.ireturn, 1) := by decide +kernel
theorem d_Mo_add_0 : decode b_Mo_add 0 = .ok (.aload_n 0, 1) := by decide +kernel
theorem d_Mo_add_1 : decode b_Mo_add 1 = .ok (.iconst 0, 1) := by decide +kernel
theorem d_Mo_add_2 : decode b_Mo_add 2 = .ok (.putfield 49, 3) := by decide +kernel
theorem d_Mo_add_5 : decode b_Mo_add 5 = .ok (.iload_n 1, 1) := by decide +kernel
theorem d_Mo_add_6 : decode b_Mo_add 6 = .ok (.ifCond .lt 16, 3) := by decide +kernel
theorem d_Mo_add_9 : decode b_Mo_add 9 = .ok (.iload_n 1, 1) := by decide +kernel
theorem d_Mo_add_10 : decode b_Mo_add 10 = .ok (.iconst 3, 1) := by decide +kernel
theorem d_Mo_add_11 : decode b_Mo_add 11 = .ok (.if_icmp .gt 11, 3) := by decide +kernel
theorem d_Mo_add_14 : decode b_Mo_add 14 = .ok (.aload_n 0, 1) := by decide +kernel
theorem d_Mo_add_15 : decode b_Mo_add 15 = .ok (.iload_n 2, 1) := by decide +kernel
theorem d_Mo_add_16 : decode b_Mo_add 16 = .ok (.invokevirtual 53, 3) := by decide +kernel
theorem d_Mo_add_19 : decode b_Mo_add 19 = .ok (.ifCond .eq 9, 3) := by decide +kernel
theorem d_Mo_add_22 : decode b_Mo_add 22 = .ok (.aload_n 0, 1) := by decide +kernel
theorem d_Mo_add_23 : decode b_Mo_add 23 = .ok (.iconst 1, 1) := by decide +kernel
theorem d_Mo_add_24 : decode b_Mo_add 24 = .ok (.invokevirtual 63, 3) := by decide +kernel
theorem d_Mo_add_27 : decode b_Mo_add 27 = .ok (.ireturn, 1) := by decide +kernel
theorem d_Mo_add_28 : decode b_Mo_add 28 = .ok (.aload_n 0, 1) := by decide +kernel
theorem d_Mo_add_29 : decode b_Mo_add 29 = .ok (.getfield 37, 3) := by decide +kernel
theorem d_Mo_add_32 : decode b_Mo_add 32 = .ok (.iload_n 1, 1) := by decide +kernel
theorem d_Mo_add_33 : decode b_Mo_add 33 = .ok (.iaload, 1) := by decide +kernel
theorem d_Mo_add_34 : decode b_Mo_add 34 = .ok (.sipush 200, 3) := by decide +kernel
theorem d_Mo_add_37 : decode b_Mo_add 37 = .ok (.if_icmp .ne 9, 3) := by decide +kernel
theorem d_Mo_add_40 : decode b_Mo_add 40 = .ok (.aload_n 0, 1) := by decide +kernel
theorem d_Mo_add_41 : decode b_Mo_add 41 = .ok (.iconst 2, 1) := by decide +kernel
theorem d_Mo_add_42 : decode b_Mo_add 42 = .ok (.invokevirtual 63, 3) := by decide +kernel
theorem d_Mo_add_45 : decode b_Mo_add 45 = .ok (.ireturn, 1) := by decide +kernel
theorem d_Mo_add_46 : decode b_Mo_add 46 = .ok (.aload_n 0, 1) := by decide +kernel
theorem d_Mo_add_47 : decode b_Mo_add 47 = .ok (.getfield 34, 3) := by decide +kernel
theorem d_Mo_add_50 : decode b_Mo_add 50 = .ok (.iload_n 1, 1) := by decide +kernel
theorem d_Mo_add_51 : decode b_Mo_add 51 = .ok (.aaload, 1) := by decide +kernel
theorem d_Mo_add_52 : decode b_Mo_add 52 = .ok (.aload_n 0, 1) := by decide +kernel
theorem d_Mo_add_53 : decode b_Mo_add 53 = .ok (.getfield 37, 3) := by decide +kernel
theorem d_Mo_add_56 : decode b_Mo_add 56 = .ok (.iload_n 1, 1) := by decide +kernel
theorem d_Mo_add_57 : decode b_Mo_add 57 = .ok (.iaload, 1) := by decide +kernel
theorem d_Mo_add_58 : decode b_Mo_add 58 = .ok (.iload_n 2, 1) := by decide +kernel
theorem d_Mo_add_59 : decode b_Mo_add 59 = .ok (.iastore, 1) := by decide +kernel
theorem d_Mo_add_60 : decode b_Mo_add 60 = .ok (.aload_n 0, 1) := by decide +kernel
theorem d_Mo_add_61 : decode b_Mo_add 61 = .ok (.getfield 37, 3) := by decide +kernel
theorem d_Mo_add_64 : decode b_Mo_add 64 = .ok (.iload_n 1, 1) := by decide +kernel
theorem d_Mo_add_65 : decode b_Mo_add 65 = .ok (.dup2, 1) := by decide +kernel
theorem d_Mo_add_66 : decode b_Mo_add 66 = .ok (.iaload, 1) := by decide +kernel
theorem d_Mo_add_67 : decode b_Mo_add 67 = .ok (.iconst 1, 1) := by decide +kernel
theorem d_Mo_add_68 : decode b_Mo_add 68 = .ok (.iadd, 1) := by decide +kernel
theorem d_Mo_add_69 : decode b_Mo_add 69 = .ok (.iastore, 1) := by decide +kernel
theorem d_Mo_add_70 : decode b_Mo_add 70 = .ok (.aload_n 0, 1) := by decide +kernel
theorem d_Mo_add_71 : decode b_Mo_add 71 = .ok (.getfield 37, 3) := by decide +kernel
theorem d_Mo_add_74 : decode b_Mo_add 74 = .ok (.iload_n 1, 1) := by decide +kernel
theorem d_Mo_add_75 : decode b_Mo_add 75 = .ok (.iaload, 1) := by decide +kernel
theorem d_Mo_add_76 : decode b_Mo_add 76 = .ok (.ireturn, 1) := by decide +kernel
theorem d_Mo_clear_0 : decode b_Mo_clear 0 = .ok (.aload_n 0, 1) := by decide +kernel
theorem d_Mo_clear_1 : decode b_Mo_clear 1 = .ok (.iconst 0, 1) := by decide +kernel
theorem d_Mo_clear_2 : decode b_Mo_clear 2 = .ok (.putfield 49, 3) := by decide +kernel
theorem d_Mo_clear_5 : decode b_Mo_clear 5 = .ok (.iload_n 1, 1) := by decide +kernel
theorem d_Mo_clear_6 : decode b_Mo_clear 6 = .ok (.ifCond .lt 8, 3) := by decide +kernel
theorem d_Mo_clear_9 : decode b_Mo_clear 9 = .ok (.iload_n 1, 1) := by decide +kernel
theorem d_Mo_clear_10 : decode b_Mo_clear 10 = .ok (.iconst 3, 1) := by decide +kernel
theorem d_Mo_clear_11 : decode b_Mo_clear 11 = .ok (.if_icmp .le 9, 3) := by decide +kernel
theorem d_Mo_clear_14 : decode b_Mo_clear 14 = .ok (.aload_n 0, 1) := by decide +kernel
theorem d_Mo_clear_15 : decode b_Mo_clear 15 = .ok (.iconst 1, 1) := by decide +kernel
theorem d_Mo_clear_16 : decode b_Mo_clear 16 = .ok (.invokevirtual 63, 3) := by decide +kernel
theorem d_Mo_clear_19 : decode b_Mo_clear 19 = .ok (.ireturn, 1) := by decide +kernel
theorem d_Mo_clear_20 : decode b_Mo_clear 20 = .ok (.aload_n 0, 1) := by decide +kernel
theorem d_Mo_clear_21 : decode b_Mo_clear 21 = .ok (.getfield 37, 3) := by decide +kernel
theorem d_Mo_clear_24 : decode b_Mo_clear 24 = .ok (.iload_n 1, 1) := by decide +kernel
theorem d_Mo_clear_25 : decode b_Mo_clear 25 = .ok (.iaload, 1) := by decide +kernel
theorem d_Mo_clear_26 : decode b_Mo_clear 26 = .ok (.istore_n 2, 1) := by decide +kernel
theorem d_Mo_clear_27 : decode b_Mo_clear 27 = .ok (.aload_n 0, 1) := by decide +kernel
theorem d_Mo_clear_28 : decode b_Mo_clear 28 = .ok (.getfield 37, 3) := by decide +kernel
theorem d_Mo_clear_31 : decode b_Mo_clear 31 = .ok (.iload_n 1, 1) := by decide +kernel
theorem d_Mo_clear_32 : decode b_Mo_clear 32 = .ok (.iconst 0, 1) := by decide +kernel
theorem d_Mo_clear_33 : decode b_Mo_clear 33 = .ok (.iastore, 1) := by decide +kernel
theorem d_Mo_clear_34 : decode b_Mo_clear 34 = .ok (.iload_n 2, 1) := by decide +kernel
theorem d_Mo_clear_35 : decode b_Mo_clear 35 = .ok (.ireturn, 1) := by decide +kernel
theorem d_Mo_count_0 : decode b_Mo_count 0 = .ok (.aload_n 0, 1) := by decide +kernel
theorem d_Mo_count_1 : decode b_Mo_count 1 = .ok (.iconst 0, 1) := by decide +kernel
theorem d_Mo_count_2 : decode b_Mo_count 2 = .ok (.putfield 49, 3) := by decide +kernel
theorem d_Mo_count_5 : decode b_Mo_count 5 = .ok (.iload_n 1, 1) := by decide +kernel
theorem d_Mo_count_6 : decode b_Mo_count 6 = .ok (.ifCond .lt 8, 3) := by decide +kernel
theorem d_Mo_count_9 : decode b_Mo_count 9 = .ok (.iload_n 1, 1) := by decide +kernel
theorem d_Mo_count_10 : decode b_Mo_count 10 = .ok (.iconst 3, 1) := by decide +kernel
theorem d_Mo_count_11 : decode b_Mo_count 11 = .ok (.if_icmp .le 9, 3) := by decide +kernel
theorem d_Mo_count_14 : decode b_Mo_count 14 = .ok (.aload_n 0, 1) := by decide +kernel
theorem d_Mo_count_15 : decode b_Mo_count 15 = .ok (.iconst 1, 1) := by decide +kernel
theorem d_Mo_count_16 : decode b_Mo_count 16 = .ok (.invokevirtual 63, 3) := by decide +kernel
theorem d_Mo_count_19 : decode b_Mo_count 19 = .ok (.ireturn, 1) := by decide +kernel
theorem d_Mo_count_20 : decode b_Mo_count 20 = .ok (.aload_n 0, 1) := by decide +kernel
theorem d_Mo_count_21 : decode b_Mo_count 21 = .ok (.iload_n 1, 1) := by decide +kernel
theorem d_Mo_count_22 : decode b_Mo_count 22 = .ok (.iload_n 2, 1) := by decide +kernel
theorem d_Mo_count_23 : decode b_Mo_count 23 = .ok (.invokevirtual 97, 3) := by decide +kernel
theorem d_Mo_count_26 : decode b_Mo_count 26 = .ok (.aload_n 0, 1) := by decide +kernel
theorem d_Mo_count_27 : decode b_Mo_count 27 = .ok (.getfield 75, 3) := by decide +kernel
theorem d_Mo_count_30 : decode b_Mo_count 30 = .ok (.ireturn, 1) := by decide +kernel
theorem d_Mo_take_0 : decode b_Mo_take 0 = .ok (.aload_n 0, 1) := by decide +kernel
theorem d_Mo_take_1 : decode b_Mo_take 1 = .ok (.aload_n 0, 1) := by decide +kernel
theorem d_Mo_take_2 : decode b_Mo_take 2 = .ok (.getfield 37, 3) := by decide +kernel
theorem d_Mo_take_5 : decode b_Mo_take 5 = .ok (.iload_n 1, 1) := by decide +kernel
theorem d_Mo_take_6 : decode b_Mo_take 6 = .ok (.iaload, 1) := by decide +kernel
theorem d_Mo_take_7 : decode b_Mo_take 7 = .ok (.putfield 72, 3) := by decide +kernel
theorem d_Mo_take_10 : decode b_Mo_take 10 = .ok (.iconst 0, 1) := by decide +kernel
theorem d_Mo_take_11 : decode b_Mo_take 11 = .ok (.istore_n 3, 1) := by decide +kernel
theorem d_Mo_take_12 : decode b_Mo_take 12 = .ok (.iload_n 3, 1) := by decide +kernel
theorem d_Mo_take_13 : decode b_Mo_take 13 = .ok (.aload_n 0, 1) := by decide +kernel
theorem d_Mo_take_14 : decode b_Mo_take 14 = .ok (.getfield 72, 3) := by decide +kernel
theorem d_Mo_take_17 : decode b_Mo_take 17 = .ok (.if_icmp .ge 23, 3) := by decide +kernel
theorem d_Mo_take_20 : decode b_Mo_take 20 = .ok (.aload_n 0, 1) := by decide +kernel
theorem d_Mo_take_21 : decode b_Mo_take 21 = .ok (.getfield 40, 3) := by decide +kernel
theorem d_Mo_take_24 : decode b_Mo_take 24 = .ok (.iload_n 3, 1) := by decide +kernel
theorem d_Mo_take_25 : decode b_Mo_take 25 = .ok (.aload_n 0, 1) := by decide +kernel
theorem d_Mo_take_26 : decode b_Mo_take 26 = .ok (.getfield 34, 3) := by decide +kernel
theorem d_Mo_take_29 : decode b_Mo_take 29 = .ok (.iload_n 1, 1) := by decide +kernel
theorem d_Mo_take_30 : decode b_Mo_take 30 = .ok (.aaload, 1) := by decide +kernel
theorem d_Mo_take_31 : decode b_Mo_take 31 = .ok (.iload_n 3, 1) := by decide +kernel
theorem d_Mo_take_32 : decode b_Mo_take 32 = .ok (.iaload, 1) := by decide +kernel
theorem d_Mo_take_33 : decode b_Mo_take 33 = .ok (.iastore, 1) := by decide +kernel
theorem d_Mo_take_34 : decode b_Mo_take 34 = .ok (.iinc 3 1, 3) := by decide +kernel
theorem d_Mo_take_37 : decode b_Mo_take 37 = .ok (.goto (-25), 3) := by decide +kernel
theorem d_Mo_take_40 : decode b_Mo_take 40 = .ok (.aload_n 0, 1) := by decide +kernel
theorem d_Mo_take_41 : decode b_Mo_take 41 = .ok (.iconst 0, 1) := by decide +kernel
theorem d_Mo_take_42 : decode b_Mo_take 42 = .ok (.putfield 75, 3) := by decide +kernel
theorem d_Mo_take_45 : decode b_Mo_take 45 = .ok (.aload_n 0, 1) := by decide +kernel
theorem d_Mo_take_46 : decode b_Mo_take 46 = .ok (.getfield 72, 3) := by decide +kernel
theorem d_Mo_take_49 : decode b_Mo_take 49 = .ok (.ifCond .le 395, 3) := by decide +kernel
theorem d_Mo_take_52 : decode b_Mo_take 52 = .ok (.iconst 0, 1) := by decide +kernel
theorem d_Mo_take_53 : decode b_Mo_take 53 = .ok (.istore_n 3, 1) := by decide +kernel
theorem d_Mo_take_54 : decode b_Mo_take 54 = .ok (.iconst (-1), 1) := by decide +kernel
theorem d_Mo_take_55 : decode b_Mo_take 55 = .ok (.istore 4, 2) := by decide +kernel
theorem d_Mo_take_57 : decode b_Mo_take 57 = .ok (.iconst 1, 1) := by decide +kernel
theorem d_Mo_take_58 : decode b_Mo_take 58 = .ok (.istore 5, 2) := by decide +kernel
theorem d_Mo_take_60 : decode b_Mo_take 60 = .ok (.iload 5, 2) := by decide +kernel
theorem d_Mo_take_62 : decode b_Mo_take 62 = .ok (.iconst 3, 1) := by decide +kernel
theorem d_Mo_take_63 : decode b_Mo_take 63 = .ok (.if_icmp .gt 79, 3) := by decide +kernel
theorem d_Mo_take_66 : decode b_Mo_take 66 = .ok (.iload 5, 2) := by decide +kernel
theorem d_Mo_take_68 : decode b_Mo_take 68 = .ok (.aload_n 0, 1) := by decide +kernel
theorem d_Mo_take_69 : decode b_Mo_take 69 = .ok (.getfield 72, 3) := by decide +kernel
theorem d_Mo_take_72 : decode b_Mo_take 72 = .ok (.if_icmp .gt 70, 3) := by decide +kernel
theorem d_Mo_take_75 : decode b_Mo_take 75 = .ok (.aload_n 0, 1) := by decide +kernel
theorem d_Mo_take_76 : decode b_Mo_take 76 = .ok (.iload 5, 2) := by decide +kernel
theorem d_Mo_take_78 : decode b_Mo_take 78 = .ok (.aload_n 0, 1) := by decide +kernel
theorem d_Mo_take_79 : decode b_Mo_take 79 = .ok (.getfield 40, 3) := by decide +kernel
theorem d_Mo_take_82 : decode b_Mo_take 82 = .ok (.iconst 0, 1) := by decide +kernel
theorem d_Mo_take_83 : decode b_Mo_take 83 = .ok (.iaload, 1) := by decide +kernel
theorem d_Mo_take_84 : decode b_Mo_take 84 = .ok (.iload 5, 2) := by decide +kernel
theorem d_Mo_take_86 : decode b_Mo_take 86 = .ok (.iconst 1, 1) := by decide +kernel
theorem d_Mo_take_87 : decode b_Mo_take 87 = .ok (.if_icmp .le 12, 3) := by decide +kernel
theorem d_Mo_take_90 : decode b_Mo_take 90 = .ok (.aload_n 0, 1) := by decide +kernel
theorem d_Mo_take_91 : decode b_Mo_take 91 = .ok (.getfield 40, 3) := by decide +kernel
theorem d_Mo_take_94 : decode b_Mo_take 94 = .ok (.iconst 1, 1) := by decide +kernel
theorem d_Mo_take_95 : decode b_Mo_take 95 = .ok (.iaload, 1) := by decide +kernel
theorem d_Mo_take_96 : decode b_Mo_take 96 = .ok (.goto 4, 3) := by decide +kernel
theorem d_Mo_take_99 : decode b_Mo_take 99 = .ok (.iconst 0, 1) := by decide +kernel
theorem d_Mo_take_100 : decode b_Mo_take 100 = .ok (.iload 5, 2) := by decide +kernel
theorem d_Mo_take_102 : decode b_Mo_take 102 = .ok (.iconst 2, 1) := by decide +kernel
theorem d_Mo_take_103 : decode b_Mo_take 103 = .ok (.if_icmp .le 12, 3) := by decide +kernel
theorem d_Mo_take_106 : decode b_Mo_take 106 = .ok (.aload_n 0, 1) := by decide +kernel
theorem d_Mo_take_107 : decode b_Mo_take 107 = .ok (.getfield 40, 3) := by decide +kernel
theorem d_Mo_take_110 : decode b_Mo_take 110 = .ok (.iconst 2, 1) := by decide +kernel
theorem d_Mo_take_111 : decode b_Mo_take 111 = .ok (.iaload, 1) := by decide +kernel
theorem d_Mo_take_112 : decode b_Mo_take 112 = .ok (.goto 4, 3) := by decide +kernel
theorem d_Mo_take_115 : decode b_Mo_take 115 = .ok (.iconst 0, 1) := by decide +kernel
theorem d_Mo_take_116 : decode b_Mo_take 116 = .ok (.invokevirtual 67, 3) := by decide +kernel
theorem d_Mo_take_119 : decode b_Mo_take 119 = .ok (.istore 6, 2) := by decide +kernel
theorem d_Mo_take_121 : decode b_Mo_take 121 = .ok (.iload 6, 2) := by decide +kernel
theorem d_Mo_take_123 : decode b_Mo_take 123 = .ok (.ifCond .ge 6, 3) := by decide +kernel
theorem d_Mo_take_126 : decode b_Mo_take 126 = .ok (.goto 10, 3) := by decide +kernel
theorem d_Mo_take_129 : decode b_Mo_take 129 = .ok (.iload 6, 2) := by decide +kernel
theorem d_Mo_take_131 : decode b_Mo_take 131 = .ok (.istore 4, 2) := by decide +kernel
theorem d_Mo_take_133 : decode b_Mo_take 133 = .ok (.iload 5, 2) := by decide +kernel
theorem d_Mo_take_135 : decode b_Mo_take 135 = .ok (.istore_n 3, 1) := by decide +kernel
theorem d_Mo_take_136 : decode b_Mo_take 136 = .ok (.iinc 5 1, 3) := by decide +kernel
theorem d_Mo_take_139 : decode b_Mo_take 139 = .ok (.goto (-79), 3) := by decide +kernel
theorem d_Mo_take_142 : decode b_Mo_take 142 = .ok (.iload 4, 2) := by decide +kernel
theorem d_Mo_take_144 : decode b_Mo_take 144 = .ok (.ifCond .ge 51, 3) := by decide +kernel
theorem d_Mo_take_147 : decode b_Mo_take 147 = .ok (.aload_n 0, 1) := by decide +kernel
theorem d_Mo_take_148 : decode b_Mo_take 148 = .ok (.ldc 78, 2) := by decide +kernel
theorem d_Mo_take_150 : decode b_Mo_take 150 = .ok (.aload_n 0, 1) := by decide +kernel
theorem d_Mo_take_151 : decode b_Mo_take 151 = .ok (.getfield 40, 3) := by decide +kernel
theorem d_Mo_take_154 : decode b_Mo_take 154 = .ok (.iconst 0, 1) := by decide +kernel
theorem d_Mo_take_155 : decode b_Mo_take 155 = .ok (.iaload, 1) := by decide +kernel
theorem d_Mo_take_156 : decode b_Mo_take 156 = .ok (.ldc 79, 2) := by decide +kernel
theorem d_Mo_take_158 : decode b_Mo_take 158 = .ok (.idiv, 1) := by decide +kernel
theorem d_Mo_take_159 : decode b_Mo_take 159 = .ok (.iadd, 1) := by decide +kernel
theorem d_Mo_take_160 : decode b_Mo_take 160 = .ok (.bipush 32, 2) := by decide +kernel
theorem d_Mo_take_162 : decode b_Mo_take 162 = .ok (.iconst 2, 1) := by decide +kernel
theorem d_Mo_take_163 : decode b_Mo_take 163 = .ok (.iconst 0, 1) := by decide +kernel
theorem d_Mo_take_164 : decode b_Mo_take 164 = .ok (.invokevirtual 80, 3) := by decide +kernel
theorem d_Mo_take_167 : decode b_Mo_take 167 = .ok (.aload_n 0, 1) := by decide +kernel
theorem d_Mo_take_168 : decode b_Mo_take 168 = .ok (.aload_n 0, 1) := by decide +kernel
theorem d_Mo_take_169 : decode b_Mo_take 169 = .ok (.getfield 40, 3) := by decide +kernel
theorem d_Mo_take_172 : decode b_Mo_take 172 = .ok (.iconst 0, 1) := by decide +kernel
theorem d_Mo_take_173 : decode b_Mo_take 173 = .ok (.iaload, 1) := by decide +kernel
theorem d_Mo_take_174 : decode b_Mo_take 174 = .ok (.ldc 79, 2) := by decide +kernel
theorem d_Mo_take_176 : decode b_Mo_take 176 = .ok (.irem, 1) := by decide +kernel
theorem d_Mo_take_177 : decode b_Mo_take 177 = .ok (.ldc 79, 2) := by decide +kernel
theorem d_Mo_take_179 : decode b_Mo_take 179 = .ok (.iadd, 1) := by decide +kernel
theorem d_Mo_take_180 : decode b_Mo_take 180 = .ok (.iconst 0, 1) := by decide +kernel
theorem d_Mo_take_181 : decode b_Mo_take 181 = .ok (.iconst 0, 1) := by decide +kernel
theorem d_Mo_take_182 : decode b_Mo_take 182 = .ok (.iconst 0, 1) := by decide +kernel
theorem d_Mo_take_183 : decode b_Mo_take 183 = .ok (.invokevirtual 80, 3) := by decide +kernel
theorem d_Mo_take_186 : decode b_Mo_take 186 = .ok (.aload_n 0, 1) := by decide +kernel
theorem d_Mo_take_187 : decode b_Mo_take 187 = .ok (.iconst 0, 1) := by decide +kernel
theorem d_Mo_take_188 : decode b_Mo_take 188 = .ok (.iconst 1, 1) := by decide +kernel
theorem d_Mo_take_189 : decode b_Mo_take 189 = .ok (.invokevirtual 84, 3) := by decide +kernel
theorem d_Mo_take_192 : decode b_Mo_take 192 = .ok (.goto (-147), 3) := by decide +kernel
theorem d_Mo_take_195 : decode b_Mo_take 195 = .ok (.aload_n 0, 1) := by decide +kernel
theorem d_Mo_take_196 : decode b_Mo_take 196 = .ok (.getfield 40, 3) := by decide +kernel
theorem d_Mo_take_199 : decode b_Mo_take 199 = .ok (.iconst 0, 1) := by decide +kernel
theorem d_Mo_take_200 : decode b_Mo_take 200 = .ok (.iaload, 1) := by decide +kernel
theorem d_Mo_take_201 : decode b_Mo_take 201 = .ok (.istore 5, 2) := by decide +kernel
theorem d_Mo_take_203 : decode b_Mo_take 203 = .ok (.iload_n 3, 1) := by decide +kernel
theorem d_Mo_take_204 : decode b_Mo_take 204 = .ok (.iconst 1, 1) := by decide +kernel
theorem d_Mo_take_205 : decode b_Mo_take 205 = .ok (.if_icmp .le 12, 3) := by decide +kernel
theorem d_Mo_take_208 : decode b_Mo_take 208 = .ok (.aload_n 0, 1) := by decide +kernel
theorem d_Mo_take_209 : decode b_Mo_take 209 = .ok (.getfield 40, 3) := by decide +kernel
theorem d_Mo_take_212 : decode b_Mo_take 212 = .ok (.iconst 1, 1) := by decide +kernel
theorem d_Mo_take_213 : decode b_Mo_take 213 = .ok (.iaload, 1) := by decide +kernel
theorem d_Mo_take_214 : decode b_Mo_take 214 = .ok (.goto 4, 3) := by decide +kernel
theorem d_Mo_take_217 : decode b_Mo_take 217 = .ok (.iconst 0, 1) := by decide +kernel
theorem d_Mo_take_218 : decode b_Mo_take 218 = .ok (.istore 6, 2) := by decide +kernel
theorem d_Mo_take_220 : decode b_Mo_take 220 = .ok (.aload_n 0, 1) := by decide +kernel
theorem d_Mo_take_221 : decode b_Mo_take 221 = .ok (.iconst 0, 1) := by decide +kernel
theorem d_Mo_take_222 : decode b_Mo_take 222 = .ok (.iload_n 3, 1) := by decide +kernel
theorem d_Mo_take_223 : decode b_Mo_take 223 = .ok (.invokevirtual 84, 3) := by decide +kernel
theorem d_Mo_take_226 : decode b_Mo_take 226 = .ok (.iconst 0, 1) := by decide +kernel
theorem d_Mo_take_227 : decode b_Mo_take 227 = .ok (.istore 7, 2) := by decide +kernel
theorem d_Mo_take_229 : decode b_Mo_take 229 = .ok (.iconst 0, 1) := by decide +kernel
theorem d_Mo_take_230 : decode b_Mo_take 230 = .ok (.istore 8, 2) := by decide +kernel
theorem d_Mo_take_232 : decode b_Mo_take 232 = .ok (.iload 8, 2) := by decide +kernel
theorem d_Mo_take_234 : decode b_Mo_take 234 = .ok (.aload_n 0, 1) := by decide +kernel
theorem d_Mo_take_235 : decode b_Mo_take 235 = .ok (.getfield 72, 3) := by decide +kernel
theorem d_Mo_take_238 : decode b_Mo_take 238 = .ok (.if_icmp .ge 132, 3) := by decide +kernel
theorem d_Mo_take_241 : decode b_Mo_take 241 = .ok (.aload_n 0, 1) := by decide +kernel
theorem d_Mo_take_242 : decode b_Mo_take 242 = .ok (.aload_n 0, 1) := by decide +kernel
theorem d_Mo_take_243 : decode b_Mo_take 243 = .ok (.getfield 40, 3) := by decide +kernel
theorem d_Mo_take_246 : decode b_Mo_take 246 = .ok (.iload 8, 2) := by decide +kernel
theorem d_Mo_take_248 : decode b_Mo_take 248 = .ok (.iaload, 1) := by decide +kernel
theorem d_Mo_take_249 : decode b_Mo_take 249 = .ok (.invokevirtual 88, 3) := by decide +kernel
theorem d_Mo_take_252 : decode b_Mo_take 252 = .ok (.ifCond .le 118, 3) := by decide +kernel
theorem d_Mo_take_255 : decode b_Mo_take 255 = .ok (.aload_n 0, 1) := by decide +kernel
theorem d_Mo_take_256 : decode b_Mo_take 256 = .ok (.aload_n 0, 1) := by decide +kernel
theorem d_Mo_take_257 : decode b_Mo_take 257 = .ok (.getfield 40, 3) := by decide +kernel
theorem d_Mo_take_260 : decode b_Mo_take 260 = .ok (.iload 8, 2) := by decide +kernel
theorem d_Mo_take_262 : decode b_Mo_take 262 = .ok (.iaload, 1) := by decide +kernel
theorem d_Mo_take_263 : decode b_Mo_take 263 = .ok (.invokevirtual 88, 3) := by decide +kernel
theorem d_Mo_take_266 : decode b_Mo_take 266 = .ok (.istore 9, 2) := by decide +kernel
theorem d_Mo_take_268 : decode b_Mo_take 268 = .ok (.iload 9, 2) := by decide +kernel
theorem d_Mo_take_270 : decode b_Mo_take 270 = .ok (.iload 7, 2) := by decide +kernel
theorem d_Mo_take_272 : decode b_Mo_take 272 = .ok (.if_icmp .le 44, 3) := by decide +kernel
theorem d_Mo_take_275 : decode b_Mo_take 275 = .ok (.iload_n 3, 1) := by decide +kernel
theorem d_Mo_take_276 : decode b_Mo_take 276 = .ok (.iconst 3, 1) := by decide +kernel
theorem d_Mo_take_277 : decode b_Mo_take 277 = .ok (.if_icmp .ge 39, 3) := by decide +kernel
theorem d_Mo_take_280 : decode b_Mo_take 280 = .ok (.aload_n 0, 1) := by decide +kernel
theorem d_Mo_take_281 : decode b_Mo_take 281 = .ok (.iload_n 3, 1) := by decide +kernel
theorem d_Mo_take_282 : decode b_Mo_take 282 = .ok (.iconst 1, 1) := by decide +kernel
theorem d_Mo_take_283 : decode b_Mo_take 283 = .ok (.iadd, 1) := by decide +kernel
theorem d_Mo_take_284 : decode b_Mo_take 284 = .ok (.iload 5, 2) := by decide +kernel
theorem d_Mo_take_286 : decode b_Mo_take 286 = .ok (.iload_n 3, 1) := by decide +kernel
theorem d_Mo_take_287 : decode b_Mo_take 287 = .ok (.iconst 1, 1) := by decide +kernel
theorem d_Mo_take_288 : decode b_Mo_take 288 = .ok (.if_icmp .ne 13, 3) := by decide +kernel
theorem d_Mo_take_291 : decode b_Mo_take 291 = .ok (.aload_n 0, 1) := by decide +kernel
theorem d_Mo_take_292 : decode b_Mo_take 292 = .ok (.getfield 40, 3) := by decide +kernel
theorem d_Mo_take_295 : decode b_Mo_take 295 = .ok (.iload 8, 2) := by decide +kernel
theorem d_Mo_take_297 : decode b_Mo_take 297 = .ok (.iaload, 1) := by decide +kernel
theorem d_Mo_take_298 : decode b_Mo_take 298 = .ok (.goto 5, 3) := by decide +kernel
theorem d_Mo_take_301 : decode b_Mo_take 301 = .ok (.iload 6, 2) := by decide +kernel
theorem d_Mo_take_303 : decode b_Mo_take 303 = .ok (.aload_n 0, 1) := by decide +kernel
theorem d_Mo_take_304 : decode b_Mo_take 304 = .ok (.getfield 40, 3) := by decide +kernel
theorem d_Mo_take_307 : decode b_Mo_take 307 = .ok (.iload 8, 2) := by decide +kernel
theorem d_Mo_take_309 : decode b_Mo_take 309 = .ok (.iaload, 1) := by decide +kernel
theorem d_Mo_take_310 : decode b_Mo_take 310 = .ok (.invokevirtual 67, 3) := by decide +kernel
theorem d_Mo_take_313 : decode b_Mo_take 313 = .ok (.goto 4, 3) := by decide +kernel
theorem d_Mo_take_316 : decode b_Mo_take 316 = .ok (.iconst (-1), 1) := by decide +kernel
theorem d_Mo_take_317 : decode b_Mo_take 317 = .ok (.istore 10, 2) := by decide +kernel
theorem d_Mo_take_319 : decode b_Mo_take 319 = .ok (.iload 10, 2) := by decide +kernel
theorem d_Mo_take_321 : decode b_Mo_take 321 = .ok (.ifCond .ge 18, 3) := by decide +kernel
theorem d_Mo_take_324 : decode b_Mo_take 324 = .ok (.iload 7, 2) := by decide +kernel
theorem d_Mo_take_326 : decode b_Mo_take 326 = .ok (.iload 9, 2) := by decide +kernel
theorem d_Mo_take_328 : decode b_Mo_take 328 = .ok (.invokestatic 91, 3) := by decide +kernel
theorem d_Mo_take_331 : decode b_Mo_take 331 = .ok (.istore 7, 2) := by decide +kernel
theorem d_Mo_take_333 : decode b_Mo_take 333 = .ok (.iinc 8 1, 3) := by decide +kernel
theorem d_Mo_take_336 : decode b_Mo_take 336 = .ok (.goto (-104), 3) := by decide +kernel
theorem d_Mo_take_339 : decode b_Mo_take 339 = .ok (.iload 10, 2) := by decide +kernel
theorem d_Mo_take_341 : decode b_Mo_take 341 = .ok (.istore 4, 2) := by decide +kernel
theorem d_Mo_take_343 : decode b_Mo_take 343 = .ok (.iload_n 3, 1) := by decide +kernel
theorem d_Mo_take_344 : decode b_Mo_take 344 = .ok (.iconst 1, 1) := by decide +kernel
theorem d_Mo_take_345 : decode b_Mo_take 345 = .ok (.if_icmp .ne 12, 3) := by decide +kernel
theorem d_Mo_take_348 : decode b_Mo_take 348 = .ok (.aload_n 0, 1) := by decide +kernel
theorem d_Mo_take_349 : decode b_Mo_take 349 = .ok (.getfield 40, 3) := by decide +kernel
theorem d_Mo_take_352 : decode b_Mo_take 352 = .ok (.iload 8, 2) := by decide +kernel
theorem d_Mo_take_354 : decode b_Mo_take 354 = .ok (.iaload, 1) := by decide +kernel
theorem d_Mo_take_355 : decode b_Mo_take 355 = .ok (.istore 6, 2) := by decide +kernel
theorem d_Mo_take_357 : decode b_Mo_take 357 = .ok (.iinc 3 1, 3) := by decide +kernel
theorem d_Mo_take_360 : decode b_Mo_take 360 = .ok (.aload_n 0, 1) := by decide +kernel
theorem d_Mo_take_361 : decode b_Mo_take 361 = .ok (.iload 8, 2) := by decide +kernel
theorem d_Mo_take_363 : decode b_Mo_take 363 = .ok (.iconst 1, 1) := by decide +kernel
theorem d_Mo_take_364 : decode b_Mo_take 364 = .ok (.invokevirtual 84, 3) := by decide +kernel
theorem d_Mo_take_367 : decode b_Mo_take 367 = .ok (.goto (-135), 3) := by decide +kernel
theorem d_Mo_take_370 : decode b_Mo_take 370 = .ok (.iconst 0, 1) := by decide +kernel
theorem d_Mo_take_371 : decode b_Mo_take 371 = .ok (.istore 9, 2) := by decide +kernel
theorem d_Mo_take_373 : decode b_Mo_take 373 = .ok (.iload 9, 2) := by decide +kernel
theorem d_Mo_take_375 : decode b_Mo_take 375 = .ok (.aload_n 0, 1) := by decide +kernel
theorem d_Mo_take_376 : decode b_Mo_take 376 = .ok (.getfield 22, 3) := by decide +kernel
theorem d_Mo_take_379 : decode b_Mo_take 379 = .ok (.iload 4, 2) := by decide +kernel
theorem d_Mo_take_381 : decode b_Mo_take 381 = .ok (.iaload, 1) := by decide +kernel
theorem d_Mo_take_382 : decode b_Mo_take 382 = .ok (.if_icmp .ge 59, 3) := by decide +kernel
theorem d_Mo_take_385 : decode b_Mo_take 385 = .ok (.iconst 4, 1) := by decide +kernel
theorem d_Mo_take_386 : decode b_Mo_take 386 = .ok (.bipush 8, 2) := by decide +kernel
theorem d_Mo_take_388 : decode b_Mo_take 388 = .ok (.iload 4, 2) := by decide +kernel
theorem d_Mo_take_390 : decode b_Mo_take 390 = .ok (.imul, 1) := by decide +kernel
theorem d_Mo_take_391 : decode b_Mo_take 391 = .ok (.iload 9, 2) := by decide +kernel
theorem d_Mo_take_393 : decode b_Mo_take 393 = .ok (.iadd, 1) := by decide +kernel
theorem d_Mo_take_394 : decode b_Mo_take 394 = .ok (.imul, 1) := by decide +kernel
theorem d_Mo_take_395 : decode b_Mo_take 395 = .ok (.istore 10, 2) := by decide +kernel
theorem d_Mo_take_397 : decode b_Mo_take 397 = .ok (.aload_n 0, 1) := by decide +kernel
theorem d_Mo_take_398 : decode b_Mo_take 398 = .ok (.aload_n 0, 1) := by decide +kernel
theorem d_Mo_take_399 : decode b_Mo_take 399 = .ok (.getfield 25, 3) := by decide +kernel
theorem d_Mo_take_402 : decode b_Mo_take 402 = .ok (.iload 10, 2) := by decide +kernel
theorem d_Mo_take_404 : decode b_Mo_take 404 = .ok (.iaload, 1) := by decide +kernel
theorem d_Mo_take_405 : decode b_Mo_take 405 = .ok (.aload_n 0, 1) := by decide +kernel
theorem d_Mo_take_406 : decode b_Mo_take 406 = .ok (.getfield 25, 3) := by decide +kernel
theorem d_Mo_take_409 : decode b_Mo_take 409 = .ok (.iload 10, 2) := by decide +kernel
theorem d_Mo_take_411 : decode b_Mo_take 411 = .ok (.iconst 1, 1) := by decide +kernel
theorem d_Mo_take_412 : decode b_Mo_take 412 = .ok (.iadd, 1) := by decide +kernel
theorem d_Mo_take_413 : decode b_Mo_take 413 = .ok (.iaload, 1) := by decide +kernel
theorem d_Mo_take_414 : decode b_Mo_take 414 = .ok (.aload_n 0, 1) := by decide +kernel
theorem d_Mo_take_415 : decode b_Mo_take 415 = .ok (.getfield 25, 3) := by decide +kernel
theorem d_Mo_take_418 : decode b_Mo_take 418 = .ok (.iload 10, 2) := by decide +kernel
theorem d_Mo_take_420 : decode b_Mo_take 420 = .ok (.iconst 2, 1) := by decide +kernel
theorem d_Mo_take_421 : decode b_Mo_take 421 = .ok (.iadd, 1) := by decide +kernel
theorem d_Mo_take_422 : decode b_Mo_take 422 = .ok (.iaload, 1) := by decide +kernel
theorem d_Mo_take_423 : decode b_Mo_take 423 = .ok (.aload_n 0, 1) := by decide +kernel
theorem d_Mo_take_424 : decode b_Mo_take 424 = .ok (.getfield 25, 3) := by decide +kernel
theorem d_Mo_take_427 : decode b_Mo_take 427 = .ok (.iload 10, 2) := by decide +kernel
theorem d_Mo_take_429 : decode b_Mo_take 429 = .ok (.iconst 3, 1) := by decide +kernel
theorem d_Mo_take_430 : decode b_Mo_take 430 = .ok (.iadd, 1) := by decide +kernel
theorem d_Mo_take_431 : decode b_Mo_take 431 = .ok (.iaload, 1) := by decide +kernel
theorem d_Mo_take_432 : decode b_Mo_take 432 = .ok (.invokevirtual 80, 3) := by decide +kernel
theorem d_Mo_take_435 : decode b_Mo_take 435 = .ok (.iinc 9 1, 3) := by decide +kernel
theorem d_Mo_take_438 : decode b_Mo_take 438 = .ok (.goto (-65), 3) := by decide +kernel
theorem d_Mo_take_441 : decode b_Mo_take 441 = .ok (.goto (-396), 3) := by decide +kernel
theorem d_Mo_take_444 : decode b_Mo_take 444 = .ok (.iconst 0, 1) := by decide +kernel
theorem d_Mo_take_445 : decode b_Mo_take 445 = .ok (.istore_n 3, 1) := by decide +kernel
theorem d_Mo_take_446 : decode b_Mo_take 446 = .ok (.iconst 0, 1) := by decide +kernel
theorem d_Mo_take_447 : decode b_Mo_take 447 = .ok (.istore 4, 2) := by decide +kernel
theorem d_Mo_take_449 : decode b_Mo_take 449 = .ok (.iload 4, 2) := by decide +kernel
theorem d_Mo_take_451 : decode b_Mo_take 451 = .ok (.aload_n 0, 1) := by decide +kernel
theorem d_Mo_take_452 : decode b_Mo_take 452 = .ok (.getfield 75, 3) := by decide +kernel
theorem d_Mo_take_455 : decode b_Mo_take 455 = .ok (.if_icmp .ge 170, 3) := by decide +kernel
theorem d_Mo_take_458 : decode b_Mo_take 458 = .ok (.aload_n 0, 1) := by decide +kernel
theorem d_Mo_take_459 : decode b_Mo_take 459 = .ok (.getfield 43, 3) := by decide +kernel
theorem d_Mo_take_462 : decode b_Mo_take 462 = .ok (.iconst 4, 1) := by decide +kernel
theorem d_Mo_take_463 : decode b_Mo_take 463 = .ok (.iload 4, 2) := by decide +kernel
theorem d_Mo_take_465 : decode b_Mo_take 465 = .ok (.imul, 1) := by decide +kernel
theorem d_Mo_take_466 : decode b_Mo_take 466 = .ok (.iaload, 1) := by decide +kernel
theorem d_Mo_take_467 : decode b_Mo_take 467 = .ok (.istore 5, 2) := by decide +kernel
theorem d_Mo_take_469 : decode b_Mo_take 469 = .ok (.iload 5, 2) := by decide +kernel
theorem d_Mo_take_471 : decode b_Mo_take 471 = .ok (.ifCond .le 24, 3) := by decide +kernel
theorem d_Mo_take_474 : decode b_Mo_take 474 = .ok (.aload_n 0, 1) := by decide +kernel
theorem d_Mo_take_475 : decode b_Mo_take 475 = .ok (.getfield 43, 3) := by decide +kernel
theorem d_Mo_take_478 : decode b_Mo_take 478 = .ok (.iconst 4, 1) := by decide +kernel
theorem d_Mo_take_479 : decode b_Mo_take 479 = .ok (.iload 4, 2) := by decide +kernel
theorem d_Mo_take_481 : decode b_Mo_take 481 = .ok (.imul, 1) := by decide +kernel
theorem d_Mo_take_482 : decode b_Mo_take 482 = .ok (.iconst 3, 1) := by decide +kernel
theorem d_Mo_take_483 : decode b_Mo_take 483 = .ok (.iadd, 1) := by decide +kernel
theorem d_Mo_take_484 : decode b_Mo_take 484 = .ok (.iaload, 1) := by decide +kernel
theorem d_Mo_take_485 : decode b_Mo_take 485 = .ok (.iconst 1, 1) := by decide +kernel
theorem d_Mo_take_486 : decode b_Mo_take 486 = .ok (.if_icmp .ne 7, 3) := by decide +kernel
theorem d_Mo_take_489 : decode b_Mo_take 489 = .ok (.iconst 1, 1) := by decide +kernel
theorem d_Mo_take_490 : decode b_Mo_take 490 = .ok (.goto 4, 3) := by decide +kernel
theorem d_Mo_take_493 : decode b_Mo_take 493 = .ok (.iconst 0, 1) := by decide +kernel
theorem d_Mo_take_494 : decode b_Mo_take 494 = .ok (.istore_n 3, 1) := by decide +kernel
theorem d_Mo_take_495 : decode b_Mo_take 495 = .ok (.iload 5, 2) := by decide +kernel
theorem d_Mo_take_497 : decode b_Mo_take 497 = .ok (.ifCond .ne 35, 3) := by decide +kernel
theorem d_Mo_take_500 : decode b_Mo_take 500 = .ok (.aload_n 0, 1) := by decide +kernel
theorem d_Mo_take_501 : decode b_Mo_take 501 = .ok (.getfield 43, 3) := by decide +kernel
theorem d_Mo_take_504 : decode b_Mo_take 504 = .ok (.iconst 4, 1) := by decide +kernel
theorem d_Mo_take_505 : decode b_Mo_take 505 = .ok (.iload 4, 2) := by decide +kernel
theorem d_Mo_take_507 : decode b_Mo_take 507 = .ok (.imul, 1) := by decide +kernel
theorem d_Mo_take_508 : decode b_Mo_take 508 = .ok (.iconst 1, 1) := by decide +kernel
theorem d_Mo_take_509 : decode b_Mo_take 509 = .ok (.iadd, 1) := by decide +kernel
theorem d_Mo_take_510 : decode b_Mo_take 510 = .ok (.iaload, 1) := by decide +kernel
theorem d_Mo_take_511 : decode b_Mo_take 511 = .ok (.ifCond .ne 21, 3) := by decide +kernel
theorem d_Mo_take_514 : decode b_Mo_take 514 = .ok (.aload_n 0, 1) := by decide +kernel
theorem d_Mo_take_515 : decode b_Mo_take 515 = .ok (.getfield 43, 3) := by decide +kernel
theorem d_Mo_take_518 : decode b_Mo_take 518 = .ok (.iconst 4, 1) := by decide +kernel
theorem d_Mo_take_519 : decode b_Mo_take 519 = .ok (.iload 4, 2) := by decide +kernel
theorem d_Mo_take_521 : decode b_Mo_take 521 = .ok (.imul, 1) := by decide +kernel
theorem d_Mo_take_522 : decode b_Mo_take 522 = .ok (.iconst 2, 1) := by decide +kernel
theorem d_Mo_take_523 : decode b_Mo_take 523 = .ok (.iadd, 1) := by decide +kernel
theorem d_Mo_take_524 : decode b_Mo_take 524 = .ok (.iaload, 1) := by decide +kernel
theorem d_Mo_take_525 : decode b_Mo_take 525 = .ok (.ifCond .ne 7, 3) := by decide +kernel
theorem d_Mo_take_528 : decode b_Mo_take 528 = .ok (.iconst 1, 1) := by decide +kernel
theorem d_Mo_take_529 : decode b_Mo_take 529 = .ok (.goto 4, 3) := by decide +kernel
theorem d_Mo_take_532 : decode b_Mo_take 532 = .ok (.iconst 0, 1) := by decide +kernel
theorem d_Mo_take_533 : decode b_Mo_take 533 = .ok (.istore 6, 2) := by decide +kernel
theorem d_Mo_take_535 : decode b_Mo_take 535 = .ok (.aload_n 0, 1) := by decide +kernel
theorem d_Mo_take_536 : decode b_Mo_take 536 = .ok (.getfield 43, 3) := by decide +kernel
theorem d_Mo_take_539 : decode b_Mo_take 539 = .ok (.iconst 4, 1) := by decide +kernel
theorem d_Mo_take_540 : decode b_Mo_take 540 = .ok (.iload 4, 2) := by decide +kernel
theorem d_Mo_take_542 : decode b_Mo_take 542 = .ok (.imul, 1) := by decide +kernel
theorem d_Mo_take_543 : decode b_Mo_take 543 = .ok (.iconst 3, 1) := by decide +kernel
theorem d_Mo_take_544 : decode b_Mo_take 544 = .ok (.iadd, 1) := by decide +kernel
theorem d_Mo_take_545 : decode b_Mo_take 545 = .ok (.iload_n 2, 1) := by decide +kernel
theorem d_Mo_take_546 : decode b_Mo_take 546 = .ok (.ifCond .ne 7, 3) := by decide +kernel
theorem d_Mo_take_549 : decode b_Mo_take 549 = .ok (.iconst 0, 1) := by decide +kernel
theorem d_Mo_take_550 : decode b_Mo_take 550 = .ok (.goto 23, 3) := by decide +kernel
theorem d_Mo_take_553 : decode b_Mo_take 553 = .ok (.iload_n 3, 1) := by decide +kernel
theorem d_Mo_take_554 : decode b_Mo_take 554 = .ok (.ifCond .eq 8, 3) := by decide +kernel
theorem d_Mo_take_557 : decode b_Mo_take 557 = .ok (.iload 5, 2) := by decide +kernel
theorem d_Mo_take_559 : decode b_Mo_take 559 = .ok (.goto 14, 3) := by decide +kernel
theorem d_Mo_take_562 : decode b_Mo_take 562 = .ok (.iload 6, 2) := by decide +kernel
theorem d_Mo_take_564 : decode b_Mo_take 564 = .ok (.ifCond .eq 7, 3) := by decide +kernel
theorem d_Mo_take_567 : decode b_Mo_take 567 = .ok (.iconst 0, 1) := by decide +kernel
theorem d_Mo_take_568 : decode b_Mo_take 568 = .ok (.goto 5, 3) := by decide +kernel
theorem d_Mo_take_571 : decode b_Mo_take 571 = .ok (.ldc 71, 2) := by decide +kernel
theorem d_Mo_take_573 : decode b_Mo_take 573 = .ok (.iastore, 1) := by decide +kernel
theorem d_Mo_take_574 : decode b_Mo_take 574 = .ok (.iload_n 2, 1) := by decide +kernel
theorem d_Mo_take_575 : decode b_Mo_take 575 = .ok (.ifCond .eq 44, 3) := by decide +kernel
theorem d_Mo_take_578 : decode b_Mo_take 578 = .ok (.iload_n 3, 1) := by decide +kernel
theorem d_Mo_take_579 : decode b_Mo_take 579 = .ok (.ifCond .ne 6, 3) := by decide +kernel
theorem d_Mo_take_582 : decode b_Mo_take 582 = .ok (.goto 37, 3) := by decide +kernel
theorem d_Mo_take_585 : decode b_Mo_take 585 = .ok (.aload_n 0, 1) := by decide +kernel
theorem d_Mo_take_586 : decode b_Mo_take 586 = .ok (.getfield 43, 3) := by decide +kernel
theorem d_Mo_take_589 : decode b_Mo_take 589 = .ok (.iconst 4, 1) := by decide +kernel
theorem d_Mo_take_590 : decode b_Mo_take 590 = .ok (.iload 4, 2) := by decide +kernel
theorem d_Mo_take_592 : decode b_Mo_take 592 = .ok (.imul, 1) := by decide +kernel
theorem d_Mo_take_593 : decode b_Mo_take 593 = .ok (.iconst 0, 1) := by decide +kernel
theorem d_Mo_take_594 : decode b_Mo_take 594 = .ok (.iastore, 1) := by decide +kernel
theorem d_Mo_take_595 : decode b_Mo_take 595 = .ok (.aload_n 0, 1) := by decide +kernel
theorem d_Mo_take_596 : decode b_Mo_take 596 = .ok (.getfield 43, 3) := by decide +kernel
theorem d_Mo_take_599 : decode b_Mo_take 599 = .ok (.iconst 4, 1) := by decide +kernel
theorem d_Mo_take_600 : decode b_Mo_take 600 = .ok (.iload 4, 2) := by decide +kernel
theorem d_Mo_take_602 : decode b_Mo_take 602 = .ok (.imul, 1) := by decide +kernel
theorem d_Mo_take_603 : decode b_Mo_take 603 = .ok (.iconst 1, 1) := by decide +kernel
theorem d_Mo_take_604 : decode b_Mo_take 604 = .ok (.iadd, 1) := by decide +kernel
theorem d_Mo_take_605 : decode b_Mo_take 605 = .ok (.iconst 0, 1) := by decide +kernel
theorem d_Mo_take_606 : decode b_Mo_take 606 = .ok (.iastore, 1) := by decide +kernel
theorem d_Mo_take_607 : decode b_Mo_take 607 = .ok (.aload_n 0, 1) := by decide +kernel
theorem d_Mo_take_608 : decode b_Mo_take 608 = .ok (.getfield 43, 3) := by decide +kernel
theorem d_Mo_take_611 : decode b_Mo_take 611 = .ok (.iconst 4, 1) := by decide +kernel
theorem d_Mo_take_612 : decode b_Mo_take 612 = .ok (.iload 4, 2) := by decide +kernel
theorem d_Mo_take_614 : decode b_Mo_take 614 = .ok (.imul, 1) := by decide +kernel
theorem d_Mo_take_615 : decode b_Mo_take 615 = .ok (.iconst 2, 1) := by decide +kernel
theorem d_Mo_take_616 : decode b_Mo_take 616 = .ok (.iadd, 1) := by decide +kernel
theorem d_Mo_take_617 : decode b_Mo_take 617 = .ok (.iconst 0, 1) := by decide +kernel
theorem d_Mo_take_618 : decode b_Mo_take 618 = .ok (.iastore, 1) := by decide +kernel
theorem d_Mo_take_619 : decode b_Mo_take 619 = .ok (.iinc 4 1, 3) := by decide +kernel
theorem d_Mo_take_622 : decode b_Mo_take 622 = .ok (.goto (-173), 3) := by decide +kernel
theorem d_Mo_take_625 : decode b_Mo_take 625 = .ok (.return_, 1) := by decide +kernel
theorem d_Mo_give_0 : decode b_Mo_give 0 = .ok (.aload_n 0, 1) := by decide +kernel
theorem d_Mo_give_1 : decode b_Mo_give 1 = .ok (.getfield 43, 3) := by decide +kernel
theorem d_Mo_give_4 : decode b_Mo_give 4 = .ok (.iconst 4, 1) := by decide +kernel
theorem d_Mo_give_5 : decode b_Mo_give 5 = .ok (.aload_n 0, 1) := by decide +kernel
theorem d_Mo_give_6 : decode b_Mo_give 6 = .ok (.getfield 75, 3) := by decide +kernel
theorem d_Mo_give_9 : decode b_Mo_give 9 = .ok (.imul, 1) := by decide +kernel
theorem d_Mo_give_10 : decode b_Mo_give 10 = .ok (.iload_n 1, 1) := by decide +kernel
theorem d_Mo_give_11 : decode b_Mo_give 11 = .ok (.iastore, 1) := by decide +kernel
theorem d_Mo_give_12 : decode b_Mo_give 12 = .ok (.aload_n 0, 1) := by decide +kernel
theorem d_Mo_give_13 : decode b_Mo_give 13 = .ok (.getfield 43, 3) := by decide +kernel
theorem d_Mo_give_16 : decode b_Mo_give 16 = .ok (.iconst 4, 1) := by decide +kernel
theorem d_Mo_give_17 : decode b_Mo_give 17 = .ok (.aload_n 0, 1) := by decide +kernel
theorem d_Mo_give_18 : decode b_Mo_give 18 = .ok (.getfield 75, 3) := by decide +kernel
theorem d_Mo_give_21 : decode b_Mo_give 21 = .ok (.imul, 1) := by decide +kernel
theorem d_Mo_give_22 : decode b_Mo_give 22 = .ok (.iconst 1, 1) := by decide +kernel
theorem d_Mo_give_23 : decode b_Mo_give 23 = .ok (.iadd, 1) := by decide +kernel
theorem d_Mo_give_24 : decode b_Mo_give 24 = .ok (.iload_n 2, 1) := by decide +kernel
theorem d_Mo_give_25 : decode b_Mo_give 25 = .ok (.iastore, 1) := by decide +kernel
theorem d_Mo_give_26 : decode b_Mo_give 26 = .ok (.aload_n 0, 1) := by decide +kernel
theorem d_Mo_give_27 : decode b_Mo_give 27 = .ok (.getfield 43, 3) := by decide +kernel
theorem d_Mo_give_30 : decode b_Mo_give 30 = .ok (.iconst 4, 1) := by decide +kernel
theorem d_Mo_give_31 : decode b_Mo_give 31 = .ok (.aload_n 0, 1) := by decide +kernel
theorem d_Mo_give_32 : decode b_Mo_give 32 = .ok (.getfield 75, 3) := by decide +kernel
theorem d_Mo_give_35 : decode b_Mo_give 35 = .ok (.imul, 1) := by decide +kernel
theorem d_Mo_give_36 : decode b_Mo_give 36 = .ok (.iconst 2, 1) := by decide +kernel
theorem d_Mo_give_37 : decode b_Mo_give 37 = .ok (.iadd, 1) := by decide +kernel
theorem d_Mo_give_38 : decode b_Mo_give 38 = .ok (.iload_n 3, 1) := by decide +kernel
theorem d_Mo_give_39 : decode b_Mo_give 39 = .ok (.iastore, 1) := by decide +kernel
theorem d_Mo_give_40 : decode b_Mo_give 40 = .ok (.aload_n 0, 1) := by decide +kernel
theorem d_Mo_give_41 : decode b_Mo_give 41 = .ok (.getfield 43, 3) := by decide +kernel
theorem d_Mo_give_44 : decode b_Mo_give 44 = .ok (.iconst 4, 1) := by decide +kernel
theorem d_Mo_give_45 : decode b_Mo_give 45 = .ok (.aload_n 0, 1) := by decide +kernel
theorem d_Mo_give_46 : decode b_Mo_give 46 = .ok (.getfield 75, 3) := by decide +kernel
theorem d_Mo_give_49 : decode b_Mo_give 49 = .ok (.imul, 1) := by decide +kernel
theorem d_Mo_give_50 : decode b_Mo_give 50 = .ok (.iconst 3, 1) := by decide +kernel
theorem d_Mo_give_51 : decode b_Mo_give 51 = .ok (.iadd, 1) := by decide +kernel
theorem d_Mo_give_52 : decode b_Mo_give 52 = .ok (.iload 4, 2) := by decide +kernel
theorem d_Mo_give_54 : decode b_Mo_give 54 = .ok (.iastore, 1) := by decide +kernel
theorem d_Mo_give_55 : decode b_Mo_give 55 = .ok (.aload_n 0, 1) := by decide +kernel
theorem d_Mo_give_56 : decode b_Mo_give 56 = .ok (.dup, 1) := by decide +kernel
theorem d_Mo_give_57 : decode b_Mo_give 57 = .ok (.getfield 75, 3) := by decide +kernel
theorem d_Mo_give_60 : decode b_Mo_give 60 = .ok (.iconst 1, 1) := by decide +kernel
theorem d_Mo_give_61 : decode b_Mo_give 61 = .ok (.iadd, 1) := by decide +kernel
theorem d_Mo_give_62 : decode b_Mo_give 62 = .ok (.putfield 75, 3) := by decide +kernel
theorem d_Mo_give_65 : decode b_Mo_give 65 = .ok (.return_, 1) := by decide +kernel
theorem d_Mo_drop_0 : decode b_Mo_drop 0 = .ok (.aload_n 0, 1) := by decide +kernel
theorem d_Mo_drop_1 : decode b_Mo_drop 1 = .ok (.dup, 1) := by decide +kernel
theorem d_Mo_drop_2 : decode b_Mo_drop 2 = .ok (.getfield 72, 3) := by decide +kernel
theorem d_Mo_drop_5 : decode b_Mo_drop 5 = .ok (.iload_n 2, 1) := by decide +kernel
theorem d_Mo_drop_6 : decode b_Mo_drop 6 = .ok (.isub, 1) := by decide +kernel
theorem d_Mo_drop_7 : decode b_Mo_drop 7 = .ok (.putfield 72, 3) := by decide +kernel
theorem d_Mo_drop_10 : decode b_Mo_drop 10 = .ok (.iload_n 1, 1) := by decide +kernel
theorem d_Mo_drop_11 : decode b_Mo_drop 11 = .ok (.istore_n 3, 1) := by decide +kernel
theorem d_Mo_drop_12 : decode b_Mo_drop 12 = .ok (.iload_n 3, 1) := by decide +kernel
theorem d_Mo_drop_13 : decode b_Mo_drop 13 = .ok (.aload_n 0, 1) := by decide +kernel
theorem d_Mo_drop_14 : decode b_Mo_drop 14 = .ok (.getfield 72, 3) := by decide +kernel
theorem d_Mo_drop_17 : decode b_Mo_drop 17 = .ok (.if_icmp .ge 23, 3) := by decide +kernel
theorem d_Mo_drop_20 : decode b_Mo_drop 20 = .ok (.aload_n 0, 1) := by decide +kernel
theorem d_Mo_drop_21 : decode b_Mo_drop 21 = .ok (.getfield 40, 3) := by decide +kernel
theorem d_Mo_drop_24 : decode b_Mo_drop 24 = .ok (.iload_n 3, 1) := by decide +kernel
theorem d_Mo_drop_25 : decode b_Mo_drop 25 = .ok (.aload_n 0, 1) := by decide +kernel
theorem d_Mo_drop_26 : decode b_Mo_drop 26 = .ok (.getfield 40, 3) := by decide +kernel
theorem d_Mo_drop_29 : decode b_Mo_drop 29 = .ok (.iload_n 3, 1) := by decide +kernel
theorem d_Mo_drop_30 : decode b_Mo_drop 30 = .ok (.iload_n 2, 1) := by decide +kernel
theorem d_Mo_drop_31 : decode b_Mo_drop 31 = .ok (.iadd, 1) := by decide +kernel
theorem d_Mo_drop_32 : decode b_Mo_drop 32 = .ok (.iaload, 1) := by decide +kernel
theorem d_Mo_drop_33 : decode b_Mo_drop 33 = .ok (.iastore, 1) := by decide +kernel
theorem d_Mo_drop_34 : decode b_Mo_drop 34 = .ok (.iinc 3 1, 3) := by decide +kernel
theorem d_Mo_drop_37 : decode b_Mo_drop 37 = .ok (.goto (-25), 3) := by decide +kernel
theorem d_Mo_drop_40 : decode b_Mo_drop 40 = .ok (.return_, 1) := by decide +kernel
theorem d_Mo_classOf_0 : decode b_Mo_classOf 0 = .ok (.iconst 0, 1) := by decide +kernel
theorem d_Mo_classOf_1 : decode b_Mo_classOf 1 = .ok (.istore_n 2, 1) := by decide +kernel
theorem d_Mo_classOf_2 : decode b_Mo_classOf 2 = .ok (.iload_n 2, 1) := by decide +kernel
theorem d_Mo_classOf_3 : decode b_Mo_classOf 3 = .ok (.aload_n 0, 1) := by decide +kernel
theorem d_Mo_classOf_4 : decode b_Mo_classOf 4 = .ok (.getfield 57, 3) := by decide +kernel
theorem d_Mo_classOf_7 : decode b_Mo_classOf 7 = .ok (.if_icmp .ge 26, 3) := by decide +kernel
theorem d_Mo_classOf_10 : decode b_Mo_classOf 10 = .ok (.aload_n 0, 1) := by decide +kernel
theorem d_Mo_classOf_11 : decode b_Mo_classOf 11 = .ok (.getfield 7, 3) := by decide +kernel
theorem d_Mo_classOf_14 : decode b_Mo_classOf 14 = .ok (.iload_n 2, 1) := by decide +kernel
theorem d_Mo_classOf_15 : decode b_Mo_classOf 15 = .ok (.iaload, 1) := by decide +kernel
theorem d_Mo_classOf_16 : decode b_Mo_classOf 16 = .ok (.iload_n 1, 1) := by decide +kernel
theorem d_Mo_classOf_17 : decode b_Mo_classOf 17 = .ok (.if_icmp .ne 10, 3) := by decide +kernel
theorem d_Mo_classOf_20 : decode b_Mo_classOf 20 = .ok (.aload_n 0, 1) := by decide +kernel
theorem d_Mo_classOf_21 : decode b_Mo_classOf 21 = .ok (.getfield 13, 3) := by decide +kernel
theorem d_Mo_classOf_24 : decode b_Mo_classOf 24 = .ok (.iload_n 2, 1) := by decide +kernel
theorem d_Mo_classOf_25 : decode b_Mo_classOf 25 = .ok (.iaload, 1) := by decide +kernel
theorem d_Mo_classOf_26 : decode b_Mo_classOf 26 = .ok (.ireturn, 1) := by decide +kernel
theorem d_Mo_classOf_27 : decode b_Mo_classOf 27 = .ok (.iinc 2 1, 3) := by decide +kernel
theorem d_Mo_classOf_30 : decode b_Mo_classOf 30 = .ok (.goto (-28), 3) := by decide +kernel
theorem d_Mo_classOf_33 : decode b_Mo_classOf 33 = .ok (.iconst 0, 1) := by decide +kernel
theorem d_Mo_classOf_34 : decode b_Mo_classOf 34 = .ok (.ireturn, 1) := by decide +kernel
theorem d_Mo_weight_0 : decode b_Mo_weight 0 = .ok (.aload_n 0, 1) := by decide +kernel
theorem d_Mo_weight_1 : decode b_Mo_weight 1 = .ok (.iconst 0, 1) := by decide +kernel
theorem d_Mo_weight_2 : decode b_Mo_weight 2 = .ok (.putfield 49, 3) := by decide +kernel
theorem d_Mo_weight_5 : decode b_Mo_weight 5 = .ok (.iload_n 1, 1) := by decide +kernel
theorem d_Mo_weight_6 : decode b_Mo_weight 6 = .ok (.ifCond .lt 19, 3) := by decide +kernel
theorem d_Mo_weight_9 : decode b_Mo_weight 9 = .ok (.iload_n 1, 1) := by decide +kernel
theorem d_Mo_weight_10 : decode b_Mo_weight 10 = .ok (.iconst 3, 1) := by decide +kernel
theorem d_Mo_weight_11 : decode b_Mo_weight 11 = .ok (.if_icmp .gt 14, 3) := by decide +kernel
theorem d_Mo_weight_14 : decode b_Mo_weight 14 = .ok (.iload 4, 2) := by decide +kernel
theorem d_Mo_weight_16 : decode b_Mo_weight 16 = .ok (.ifCond .lt 9, 3) := by decide +kernel
theorem d_Mo_weight_19 : decode b_Mo_weight 19 = .ok (.iload 4, 2) := by decide +kernel
theorem d_Mo_weight_21 : decode b_Mo_weight 21 = .ok (.iconst 3, 1) := by decide +kernel
theorem d_Mo_weight_22 : decode b_Mo_weight 22 = .ok (.if_icmp .le 9, 3) := by decide +kernel
theorem d_Mo_weight_25 : decode b_Mo_weight 25 = .ok (.aload_n 0, 1) := by decide +kernel
theorem d_Mo_weight_26 : decode b_Mo_weight 26 = .ok (.iconst 1, 1) := by decide +kernel
theorem d_Mo_weight_27 : decode b_Mo_weight 27 = .ok (.invokevirtual 63, 3) := by decide +kernel
theorem d_Mo_weight_30 : decode b_Mo_weight 30 = .ok (.ireturn, 1) := by decide +kernel
theorem d_Mo_weight_31 : decode b_Mo_weight 31 = .ok (.aload_n 0, 1) := by decide +kernel
theorem d_Mo_weight_32 : decode b_Mo_weight 32 = .ok (.iload_n 1, 1) := by decide +kernel
theorem d_Mo_weight_33 : decode b_Mo_weight 33 = .ok (.iload_n 2, 1) := by decide +kernel
theorem d_Mo_weight_34 : decode b_Mo_weight 34 = .ok (.invokevirtual 97, 3) := by decide +kernel
theorem d_Mo_weight_37 : decode b_Mo_weight 37 = .ok (.iload_n 3, 1) := by decide +kernel
theorem d_Mo_weight_38 : decode b_Mo_weight 38 = .ok (.ifCond .lt 11, 3) := by decide +kernel
theorem d_Mo_weight_41 : decode b_Mo_weight 41 = .ok (.iload_n 3, 1) := by decide +kernel
theorem d_Mo_weight_42 : decode b_Mo_weight 42 = .ok (.aload_n 0, 1) := by decide +kernel
theorem d_Mo_weight_43 : decode b_Mo_weight 43 = .ok (.getfield 75, 3) := by decide +kernel
theorem d_Mo_weight_46 : decode b_Mo_weight 46 = .ok (.if_icmp .lt 11, 3) := by decide +kernel
theorem d_Mo_weight_49 : decode b_Mo_weight 49 = .ok (.aload_n 0, 1) := by decide +kernel
theorem d_Mo_weight_50 : decode b_Mo_weight 50 = .ok (.iconst 1, 1) := by decide +kernel
theorem d_Mo_weight_51 : decode b_Mo_weight 51 = .ok (.invokevirtual 63, 3) := by decide +kernel
theorem d_Mo_weight_54 : decode b_Mo_weight 54 = .ok (.goto 14, 3) := by decide +kernel
theorem d_Mo_weight_57 : decode b_Mo_weight 57 = .ok (.aload_n 0, 1) := by decide +kernel
theorem d_Mo_weight_58 : decode b_Mo_weight 58 = .ok (.getfield 43, 3) := by decide +kernel
theorem d_Mo_weight_61 : decode b_Mo_weight 61 = .ok (.iconst 4, 1) := by decide +kernel
theorem d_Mo_weight_62 : decode b_Mo_weight 62 = .ok (.iload_n 3, 1) := by decide +kernel
theorem d_Mo_weight_63 : decode b_Mo_weight 63 = .ok (.imul, 1) := by decide +kernel
theorem d_Mo_weight_64 : decode b_Mo_weight 64 = .ok (.iload 4, 2) := by decide +kernel
theorem d_Mo_weight_66 : decode b_Mo_weight 66 = .ok (.iadd, 1) := by decide +kernel
theorem d_Mo_weight_67 : decode b_Mo_weight 67 = .ok (.iaload, 1) := by decide +kernel
theorem d_Mo_weight_68 : decode b_Mo_weight 68 = .ok (.ireturn, 1) := by decide +kernel
theorem d_Mo_compare_0 : decode b_Mo_compare 0 = .ok (.aload_n 0, 1) := by decide +kernel
theorem d_Mo_compare_1 : decode b_Mo_compare 1 = .ok (.iconst 0, 1) := by decide +kernel
theorem d_Mo_compare_2 : decode b_Mo_compare 2 = .ok (.putfield 49, 3) := by decide +kernel
theorem d_Mo_compare_5 : decode b_Mo_compare 5 = .ok (.iload_n 1, 1) := by decide +kernel
theorem d_Mo_compare_6 : decode b_Mo_compare 6 = .ok (.ifCond .lt 27, 3) := by decide +kernel
theorem d_Mo_compare_9 : decode b_Mo_compare 9 = .ok (.iload_n 1, 1) := by decide +kernel
theorem d_Mo_compare_10 : decode b_Mo_compare 10 = .ok (.iconst 3, 1) := by decide +kernel
theorem d_Mo_compare_11 : decode b_Mo_compare 11 = .ok (.if_icmp .gt 22, 3) := by decide +kernel
theorem d_Mo_compare_14 : decode b_Mo_compare 14 = .ok (.iload_n 2, 1) := by decide +kernel
theorem d_Mo_compare_15 : decode b_Mo_compare 15 = .ok (.ifCond .lt 18, 3) := by decide +kernel
theorem d_Mo_compare_18 : decode b_Mo_compare 18 = .ok (.iload_n 2, 1) := by decide +kernel
theorem d_Mo_compare_19 : decode b_Mo_compare 19 = .ok (.iconst 3, 1) := by decide +kernel
theorem d_Mo_compare_20 : decode b_Mo_compare 20 = .ok (.if_icmp .gt 13, 3) := by decide +kernel
theorem d_Mo_compare_23 : decode b_Mo_compare 23 = .ok (.iload_n 3, 1) := by decide +kernel
theorem d_Mo_compare_24 : decode b_Mo_compare 24 = .ok (.iconst 1, 1) := by decide +kernel
theorem d_Mo_compare_25 : decode b_Mo_compare 25 = .ok (.if_icmp .lt 8, 3) := by decide +kernel
theorem d_Mo_compare_28 : decode b_Mo_compare 28 = .ok (.iload_n 3, 1) := by decide +kernel
theorem d_Mo_compare_29 : decode b_Mo_compare 29 = .ok (.iconst 4, 1) := by decide +kernel
theorem d_Mo_compare_30 : decode b_Mo_compare 30 = .ok (.if_icmp .le 9, 3) := by decide +kernel
theorem d_Mo_compare_33 : decode b_Mo_compare 33 = .ok (.aload_n 0, 1) := by decide +kernel
theorem d_Mo_compare_34 : decode b_Mo_compare 34 = .ok (.iconst 1, 1) := by decide +kernel
theorem d_Mo_compare_35 : decode b_Mo_compare 35 = .ok (.invokevirtual 63, 3) := by decide +kernel
theorem d_Mo_compare_38 : decode b_Mo_compare 38 = .ok (.ireturn, 1) := by decide +kernel
theorem d_Mo_compare_39 : decode b_Mo_compare 39 = .ok (.aload_n 0, 1) := by decide +kernel
theorem d_Mo_compare_40 : decode b_Mo_compare 40 = .ok (.iload_n 1, 1) := by decide +kernel
theorem d_Mo_compare_41 : decode b_Mo_compare 41 = .ok (.iload 4, 2) := by decide +kernel
theorem d_Mo_compare_43 : decode b_Mo_compare 43 = .ok (.invokevirtual 97, 3) := by decide +kernel
theorem d_Mo_compare_46 : decode b_Mo_compare 46 = .ok (.aload_n 0, 1) := by decide +kernel
theorem d_Mo_compare_47 : decode b_Mo_compare 47 = .ok (.getfield 75, 3) := by decide +kernel
theorem d_Mo_compare_50 : decode b_Mo_compare 50 = .ok (.istore 5, 2) := by decide +kernel
theorem d_Mo_compare_52 : decode b_Mo_compare 52 = .ok (.iconst 0, 1) := by decide +kernel
theorem d_Mo_compare_53 : decode b_Mo_compare 53 = .ok (.istore 6, 2) := by decide +kernel
theorem d_Mo_compare_55 : decode b_Mo_compare 55 = .ok (.iload 6, 2) := by decide +kernel
theorem d_Mo_compare_57 : decode b_Mo_compare 57 = .ok (.iconst 4, 1) := by decide +kernel
theorem d_Mo_compare_58 : decode b_Mo_compare 58 = .ok (.iload 5, 2) := by decide +kernel
theorem d_Mo_compare_60 : decode b_Mo_compare 60 = .ok (.imul, 1) := by decide +kernel
theorem d_Mo_compare_61 : decode b_Mo_compare 61 = .ok (.if_icmp .ge 23, 3) := by decide +kernel
theorem d_Mo_compare_64 : decode b_Mo_compare 64 = .ok (.aload_n 0, 1) := by decide +kernel
theorem d_Mo_compare_65 : decode b_Mo_compare 65 = .ok (.getfield 46, 3) := by decide +kernel
theorem d_Mo_compare_68 : decode b_Mo_compare 68 = .ok (.iload 6, 2) := by decide +kernel
theorem d_Mo_compare_70 : decode b_Mo_compare 70 = .ok (.aload_n 0, 1) := by decide +kernel
theorem d_Mo_compare_71 : decode b_Mo_compare 71 = .ok (.getfield 43, 3) := by decide +kernel
theorem d_Mo_compare_74 : decode b_Mo_compare 74 = .ok (.iload 6, 2) := by decide +kernel
theorem d_Mo_compare_76 : decode b_Mo_compare 76 = .ok (.iaload, 1) := by decide +kernel
theorem d_Mo_compare_77 : decode b_Mo_compare 77 = .ok (.iastore, 1) := by decide +kernel
theorem d_Mo_compare_78 : decode b_Mo_compare 78 = .ok (.iinc 6 1, 3) := by decide +kernel
theorem d_Mo_compare_81 : decode b_Mo_compare 81 = .ok (.goto (-26), 3) := by decide +kernel
theorem d_Mo_compare_84 : decode b_Mo_compare 84 = .ok (.aload_n 0, 1) := by decide +kernel
theorem d_Mo_compare_85 : decode b_Mo_compare 85 = .ok (.iload_n 2, 1) := by decide +kernel
theorem d_Mo_compare_86 : decode b_Mo_compare 86 = .ok (.iload 4, 2) := by decide +kernel
theorem d_Mo_compare_88 : decode b_Mo_compare 88 = .ok (.invokevirtual 97, 3) := by decide +kernel
theorem d_Mo_compare_91 : decode b_Mo_compare 91 = .ok (.iconst 0, 1) := by decide +kernel
theorem d_Mo_compare_92 : decode b_Mo_compare 92 = .ok (.istore 6, 2) := by decide +kernel
theorem d_Mo_compare_94 : decode b_Mo_compare 94 = .ok (.iload 6, 2) := by decide +kernel
theorem d_Mo_compare_96 : decode b_Mo_compare 96 = .ok (.iload_n 3, 1) := by decide +kernel
theorem d_Mo_compare_97 : decode b_Mo_compare 97 = .ok (.if_icmp .ge 201, 3) := by decide +kernel
theorem d_Mo_compare_100 : decode b_Mo_compare 100 = .ok (.iload 6, 2) := by decide +kernel
theorem d_Mo_compare_102 : decode b_Mo_compare 102 = .ok (.iconst 3, 1) := by decide +kernel
theorem d_Mo_compare_103 : decode b_Mo_compare 103 = .ok (.if_icmp .lt 8, 3) := by decide +kernel
theorem d_Mo_compare_106 : decode b_Mo_compare 106 = .ok (.iload 4, 2) := by decide +kernel
theorem d_Mo_compare_108 : decode b_Mo_compare 108 = .ok (.ifCond .eq 190, 3) := by decide +kernel
theorem d_Mo_compare_111 : decode b_Mo_compare 111 = .ok (.iconst 0, 1) := by decide +kernel
theorem d_Mo_compare_112 : decode b_Mo_compare 112 = .ok (.istore 7, 2) := by decide +kernel
theorem d_Mo_compare_114 : decode b_Mo_compare 114 = .ok (.iconst 0, 1) := by decide +kernel
theorem d_Mo_compare_115 : decode b_Mo_compare 115 = .ok (.istore 8, 2) := by decide +kernel
theorem d_Mo_compare_117 : decode b_Mo_compare 117 = .ok (.iload 7, 2) := by decide +kernel
theorem d_Mo_compare_119 : decode b_Mo_compare 119 = .ok (.iload 5, 2) := by decide +kernel
theorem d_Mo_compare_121 : decode b_Mo_compare 121 = .ok (.if_icmp .ge 24, 3) := by decide +kernel
theorem d_Mo_compare_124 : decode b_Mo_compare 124 = .ok (.aload_n 0, 1) := by decide +kernel
theorem d_Mo_compare_125 : decode b_Mo_compare 125 = .ok (.getfield 46, 3) := by decide +kernel
theorem d_Mo_compare_128 : decode b_Mo_compare 128 = .ok (.iconst 4, 1) := by decide +kernel
theorem d_Mo_compare_129 : decode b_Mo_compare 129 = .ok (.iload 7, 2) := by decide +kernel
theorem d_Mo_compare_131 : decode b_Mo_compare 131 = .ok (.imul, 1) := by decide +kernel
theorem d_Mo_compare_132 : decode b_Mo_compare 132 = .ok (.iload 6, 2) := by decide +kernel
theorem d_Mo_compare_134 : decode b_Mo_compare 134 = .ok (.iadd, 1) := by decide +kernel
theorem d_Mo_compare_135 : decode b_Mo_compare 135 = .ok (.iaload, 1) := by decide +kernel
theorem d_Mo_compare_136 : decode b_Mo_compare 136 = .ok (.ifCond .ne 9, 3) := by decide +kernel
theorem d_Mo_compare_139 : decode b_Mo_compare 139 = .ok (.iinc 7 1, 3) := by decide +kernel
theorem d_Mo_compare_142 : decode b_Mo_compare 142 = .ok (.goto (-25), 3) := by decide +kernel
theorem d_Mo_compare_145 : decode b_Mo_compare 145 = .ok (.iload 8, 2) := by decide +kernel
theorem d_Mo_compare_147 : decode b_Mo_compare 147 = .ok (.aload_n 0, 1) := by decide +kernel
theorem d_Mo_compare_148 : decode b_Mo_compare 148 = .ok (.getfield 75, 3) := by decide +kernel
theorem d_Mo_compare_151 : decode b_Mo_compare 151 = .ok (.if_icmp .ge 24, 3) := by decide +kernel
theorem d_Mo_compare_154 : decode b_Mo_compare 154 = .ok (.aload_n 0, 1) := by decide +kernel
theorem d_Mo_compare_155 : decode b_Mo_compare 155 = .ok (.getfield 43, 3) := by decide +kernel
theorem d_Mo_compare_158 : decode b_Mo_compare 158 = .ok (.iconst 4, 1) := by decide +kernel
theorem d_Mo_compare_159 : decode b_Mo_compare 159 = .ok (.iload 8, 2) := by decide +kernel
theorem d_Mo_compare_161 : decode b_Mo_compare 161 = .ok (.imul, 1) := by decide +kernel
theorem d_Mo_compare_162 : decode b_Mo_compare 162 = .ok (.iload 6, 2) := by decide +kernel
theorem d_Mo_compare_164 : decode b_Mo_compare 164 = .ok (.iadd, 1) := by decide +kernel
theorem d_Mo_compare_165 : decode b_Mo_compare 165 = .ok (.iaload, 1) := by decide +kernel
theorem d_Mo_compare_166 : decode b_Mo_compare 166 = .ok (.ifCond .ne 9, 3) := by decide +kernel
theorem d_Mo_compare_169 : decode b_Mo_compare 169 = .ok (.iinc 8 1, 3) := by decide +kernel
theorem d_Mo_compare_172 : decode b_Mo_compare 172 = .ok (.goto (-27), 3) := by decide +kernel
theorem d_Mo_compare_175 : decode b_Mo_compare 175 = .ok (.iload 7, 2) := by decide +kernel
theorem d_Mo_compare_177 : decode b_Mo_compare 177 = .ok (.iload 5, 2) := by decide +kernel
theorem d_Mo_compare_179 : decode b_Mo_compare 179 = .ok (.if_icmp .eq 84, 3) := by decide +kernel
theorem d_Mo_compare_182 : decode b_Mo_compare 182 = .ok (.iload 8, 2) := by decide +kernel
theorem d_Mo_compare_184 : decode b_Mo_compare 184 = .ok (.aload_n 0, 1) := by decide +kernel
theorem d_Mo_compare_185 : decode b_Mo_compare 185 = .ok (.getfield 75, 3) := by decide +kernel
theorem d_Mo_compare_188 : decode b_Mo_compare 188 = .ok (.if_icmp .ne 6, 3) := by decide +kernel
theorem d_Mo_compare_191 : decode b_Mo_compare 191 = .ok (.goto 72, 3) := by decide +kernel
theorem d_Mo_compare_194 : decode b_Mo_compare 194 = .ok (.aload_n 0, 1) := by decide +kernel
theorem d_Mo_compare_195 : decode b_Mo_compare 195 = .ok (.getfield 46, 3) := by decide +kernel
theorem d_Mo_compare_198 : decode b_Mo_compare 198 = .ok (.iconst 4, 1) := by decide +kernel
theorem d_Mo_compare_199 : decode b_Mo_compare 199 = .ok (.iload 7, 2) := by decide +kernel
theorem d_Mo_compare_201 : decode b_Mo_compare 201 = .ok (.imul, 1) := by decide +kernel
theorem d_Mo_compare_202 : decode b_Mo_compare 202 = .ok (.iload 6, 2) := by decide +kernel
theorem d_Mo_compare_204 : decode b_Mo_compare 204 = .ok (.iadd, 1) := by decide +kernel
theorem d_Mo_compare_205 : decode b_Mo_compare 205 = .ok (.iaload, 1) := by decide +kernel
theorem d_Mo_compare_206 : decode b_Mo_compare 206 = .ok (.aload_n 0, 1) := by decide +kernel
theorem d_Mo_compare_207 : decode b_Mo_compare 207 = .ok (.getfield 43, 3) := by decide +kernel
theorem d_Mo_compare_210 : decode b_Mo_compare 210 = .ok (.iconst 4, 1) := by decide +kernel
theorem d_Mo_compare_211 : decode b_Mo_compare 211 = .ok (.iload 8, 2) := by decide +kernel
theorem d_Mo_compare_213 : decode b_Mo_compare 213 = .ok (.imul, 1) := by decide +kernel
theorem d_Mo_compare_214 : decode b_Mo_compare 214 = .ok (.iload 6, 2) := by decide +kernel
theorem d_Mo_compare_216 : decode b_Mo_compare 216 = .ok (.iadd, 1) := by decide +kernel
theorem d_Mo_compare_217 : decode b_Mo_compare 217 = .ok (.iaload, 1) := by decide +kernel
theorem d_Mo_compare_218 : decode b_Mo_compare 218 = .ok (.if_icmp .eq 36, 3) := by decide +kernel
theorem d_Mo_compare_221 : decode b_Mo_compare 221 = .ok (.aload_n 0, 1) := by decide +kernel
theorem d_Mo_compare_222 : decode b_Mo_compare 222 = .ok (.getfield 46, 3) := by decide +kernel
theorem d_Mo_compare_225 : decode b_Mo_compare 225 = .ok (.iconst 4, 1) := by decide +kernel
theorem d_Mo_compare_226 : decode b_Mo_compare 226 = .ok (.iload 7, 2) := by decide +kernel
theorem d_Mo_compare_228 : decode b_Mo_compare 228 = .ok (.imul, 1) := by decide +kernel
theorem d_Mo_compare_229 : decode b_Mo_compare 229 = .ok (.iload 6, 2) := by decide +kernel
theorem d_Mo_compare_231 : decode b_Mo_compare 231 = .ok (.iadd, 1) := by decide +kernel
theorem d_Mo_compare_232 : decode b_Mo_compare 232 = .ok (.iaload, 1) := by decide +kernel
theorem d_Mo_compare_233 : decode b_Mo_compare 233 = .ok (.aload_n 0, 1) := by decide +kernel
theorem d_Mo_compare_234 : decode b_Mo_compare 234 = .ok (.getfield 43, 3) := by decide +kernel
theorem d_Mo_compare_237 : decode b_Mo_compare 237 = .ok (.iconst 4, 1) := by decide +kernel
theorem d_Mo_compare_238 : decode b_Mo_compare 238 = .ok (.iload 8, 2) := by decide +kernel
theorem d_Mo_compare_240 : decode b_Mo_compare 240 = .ok (.imul, 1) := by decide +kernel
theorem d_Mo_compare_241 : decode b_Mo_compare 241 = .ok (.iload 6, 2) := by decide +kernel
theorem d_Mo_compare_243 : decode b_Mo_compare 243 = .ok (.iadd, 1) := by decide +kernel
theorem d_Mo_compare_244 : decode b_Mo_compare 244 = .ok (.iaload, 1) := by decide +kernel
theorem d_Mo_compare_245 : decode b_Mo_compare 245 = .ok (.if_icmp .ge 7, 3) := by decide +kernel
theorem d_Mo_compare_248 : decode b_Mo_compare 248 = .ok (.iconst (-1), 1) := by decide +kernel
theorem d_Mo_compare_249 : decode b_Mo_compare 249 = .ok (.goto 4, 3) := by decide +kernel
theorem d_Mo_compare_252 : decode b_Mo_compare 252 = .ok (.iconst 1, 1) := by decide +kernel
theorem d_Mo_compare_253 : decode b_Mo_compare 253 = .ok (.ireturn, 1) := by decide +kernel
theorem d_Mo_compare_254 : decode b_Mo_compare 254 = .ok (.iinc 7 1, 3) := by decide +kernel
theorem d_Mo_compare_257 : decode b_Mo_compare 257 = .ok (.iinc 8 1, 3) := by decide +kernel
theorem d_Mo_compare_260 : decode b_Mo_compare 260 = .ok (.goto (-143), 3) := by decide +kernel
theorem d_Mo_compare_263 : decode b_Mo_compare 263 = .ok (.iload 7, 2) := by decide +kernel
theorem d_Mo_compare_265 : decode b_Mo_compare 265 = .ok (.iload 5, 2) := by decide +kernel
theorem d_Mo_compare_267 : decode b_Mo_compare 267 = .ok (.if_icmp .lt 12, 3) := by decide +kernel
theorem d_Mo_compare_270 : decode b_Mo_compare 270 = .ok (.iload 8, 2) := by decide +kernel
theorem d_Mo_compare_272 : decode b_Mo_compare 272 = .ok (.aload_n 0, 1) := by decide +kernel
theorem d_Mo_compare_273 : decode b_Mo_compare 273 = .ok (.getfield 75, 3) := by decide +kernel
theorem d_Mo_compare_276 : decode b_Mo_compare 276 = .ok (.if_icmp .ge 16, 3) := by decide +kernel
theorem d_Mo_compare_279 : decode b_Mo_compare 279 = .ok (.iload 7, 2) := by decide +kernel
theorem d_Mo_compare_281 : decode b_Mo_compare 281 = .ok (.iload 5, 2) := by decide +kernel
theorem d_Mo_compare_283 : decode b_Mo_compare 283 = .ok (.if_icmp .ge 7, 3) := by decide +kernel
theorem d_Mo_compare_286 : decode b_Mo_compare 286 = .ok (.iconst 1, 1) := by decide +kernel
theorem d_Mo_compare_287 : decode b_Mo_compare 287 = .ok (.goto 4, 3) := by decide +kernel
theorem d_Mo_compare_290 : decode b_Mo_compare 290 = .ok (.iconst (-1), 1) := by decide +kernel
theorem d_Mo_compare_291 : decode b_Mo_compare 291 = .ok (.ireturn, 1) := by decide +kernel
theorem d_Mo_compare_292 : decode b_Mo_compare 292 = .ok (.iinc 6 1, 3) := by decide +kernel
theorem d_Mo_compare_295 : decode b_Mo_compare 295 = .ok (.goto (-201), 3) := by decide +kernel
theorem d_Mo_compare_298 : decode b_Mo_compare 298 = .ok (.iconst 0, 1) := by decide +kernel
theorem d_Mo_compare_299 : decode b_Mo_compare 299 = .ok (.ireturn, 1) := by decide +kernel
