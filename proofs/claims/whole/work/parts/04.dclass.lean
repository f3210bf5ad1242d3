/-! each instruction, decoded -/
theorem d_Wo_init_0 : decode b_Wo_init 0 = .ok (.aload_n 0, 1) := by decide +kernel
theorem d_Wo_init_1 : decode b_Wo_init 1 = .ok (.invokespecial 3, 3) := by decide +kernel
theorem d_Wo_init_4 : decode b_Wo_init 4 = .ok (.aload_n 0, 1) := by decide +kernel
theorem d_Wo_init_5 : decode b_Wo_init 5 = .ok (.new 9, 3) := by decide +kernel
theorem d_Wo_init_8 : decode b_Wo_init 8 = .ok (.dup, 1) := by decide +kernel
theorem d_Wo_init_9 : decode b_Wo_init 9 = .ok (.sipush 512, 3) := by decide +kernel
theorem d_Wo_init_12 : decode b_Wo_init 12 = .ok (.invokespecial 11, 3) := by decide +kernel
theorem d_Wo_init_15 : decode b_Wo_init 15 = .ok (.putfield 14, 3) := by decide +kernel
theorem d_Wo_init_18 : decode b_Wo_init 18 = .ok (.aload_n 0, 1) := by decide +kernel
theorem d_Wo_init_19 : decode b_Wo_init 19 = .ok (.new 18, 3) := by decide +kernel
theorem d_Wo_init_22 : decode b_Wo_init 22 = .ok (.dup, 1) := by decide +kernel
theorem d_Wo_init_23 : decode b_Wo_init 23 = .ok (.invokespecial 20, 3) := by decide +kernel
theorem d_Wo_init_26 : decode b_Wo_init 26 = .ok (.putfield 21, 3) := by decide +kernel
theorem d_Wo_init_29 : decode b_Wo_init 29 = .ok (.aload_n 0, 1) := by decide +kernel
theorem d_Wo_init_30 : decode b_Wo_init 30 = .ok (.iconst 4, 1) := by decide +kernel
theorem d_Wo_init_31 : decode b_Wo_init 31 = .ok (.anewarray 25, 3) := by decide +kernel
theorem d_Wo_init_34 : decode b_Wo_init 34 = .ok (.dup, 1) := by decide +kernel
theorem d_Wo_init_35 : decode b_Wo_init 35 = .ok (.iconst 0, 1) := by decide +kernel
theorem d_Wo_init_36 : decode b_Wo_init 36 = .ok (.new 25, 3) := by decide +kernel
theorem d_Wo_init_39 : decode b_Wo_init 39 = .ok (.dup, 1) := by decide +kernel
theorem d_Wo_init_40 : decode b_Wo_init 40 = .ok (.invokespecial 27, 3) := by decide +kernel
theorem d_Wo_init_43 : decode b_Wo_init 43 = .ok (.aastore, 1) := by decide +kernel
theorem d_Wo_init_44 : decode b_Wo_init 44 = .ok (.dup, 1) := by decide +kernel
theorem d_Wo_init_45 : decode b_Wo_init 45 = .ok (.iconst 1, 1) := by decide +kernel
theorem d_Wo_init_46 : decode b_Wo_init 46 = .ok (.new 25, 3) := by decide +kernel
theorem d_Wo_init_49 : decode b_Wo_init 49 = .ok (.dup, 1) := by decide +kernel
theorem d_Wo_init_50 : decode b_Wo_init 50 = .ok (.invokespecial 27, 3) := by decide +kernel
theorem d_Wo_init_53 : decode b_Wo_init 53 = .ok (.aastore, 1) := by decide +kernel
theorem d_Wo_init_54 : decode b_Wo_init 54 = .ok (.dup, 1) := by decide +kernel
theorem d_Wo_init_55 : decode b_Wo_init 55 = .ok (.iconst 2, 1) := by decide +kernel
theorem d_Wo_init_56 : decode b_Wo_init 56 = .ok (.new 25, 3) := by decide +kernel
theorem d_Wo_init_59 : decode b_Wo_init 59 = .ok (.dup, 1) := by decide +kernel
theorem d_Wo_init_60 : decode b_Wo_init 60 = .ok (.invokespecial 27, 3) := by decide +kernel
theorem d_Wo_init_63 : decode b_Wo_init 63 = .ok (.aastore, 1) := by decide +kernel
theorem d_Wo_init_64 : decode b_Wo_init 64 = .ok (.dup, 1) := by decide +kernel
theorem d_Wo_init_65 : decode b_Wo_init 65 = .ok (.iconst 3, 1) := by decide +kernel
theorem d_Wo_init_66 : decode b_Wo_init 66 = .ok (.new 25, 3) := by decide +kernel
theorem d_Wo_init_69 : decode b_Wo_init 69 = .ok (.dup, 1) := by decide +kernel
theorem d_Wo_init_70 : decode b_Wo_init 70 = .ok (.invokespecial 27, 3) := by decide +kernel
theorem d_Wo_init_73 : decode b_Wo_init 73 = .ok (.aastore, 1) := by decide +kernel
theorem d_Wo_init_74 : decode b_Wo_init 74 = .ok (.putfield 28, 3) := by decide +kernel
theorem d_Wo_init_77 : decode b_Wo_init 77 = .ok (.aload_n 0, 1) := by decide +kernel
theorem d_Wo_init_78 : decode b_Wo_init 78 = .ok (.new 32, 3) := by decide +kernel
theorem d_Wo_init_81 : decode b_Wo_init 81 = .ok (.dup, 1) := by decide +kernel
theorem d_Wo_init_82 : decode b_Wo_init 82 = .ok (.aload_n 0, 1) := by decide +kernel
theorem d_Wo_init_83 : decode b_Wo_init 83 = .ok (.getfield 14, 3) := by decide +kernel
theorem d_Wo_init_86 : decode b_Wo_init 86 = .ok (.aload_n 0, 1) := by decide +kernel
theorem d_Wo_init_87 : decode b_Wo_init 87 = .ok (.getfield 21, 3) := by decide +kernel
theorem d_Wo_init_90 : decode b_Wo_init 90 = .ok (.invokespecial 34, 3) := by decide +kernel
theorem d_Wo_init_93 : decode b_Wo_init 93 = .ok (.putfield 37, 3) := by decide +kernel
theorem d_Wo_init_96 : decode b_Wo_init 96 = .ok (.aload_n 0, 1) := by decide +kernel
theorem d_Wo_init_97 : decode b_Wo_init 97 = .ok (.new 41, 3) := by decide +kernel
theorem d_Wo_init_100 : decode b_Wo_init 100 = .ok (.dup, 1) := by decide +kernel
theorem d_Wo_init_101 : decode b_Wo_init 101 = .ok (.invokespecial 43, 3) := by decide +kernel
theorem d_Wo_init_104 : decode b_Wo_init 104 = .ok (.putfield 44, 3) := by decide +kernel
theorem d_Wo_init_107 : decode b_Wo_init 107 = .ok (.aload_n 0, 1) := by decide +kernel
theorem d_Wo_init_108 : decode b_Wo_init 108 = .ok (.new 41, 3) := by decide +kernel
theorem d_Wo_init_111 : decode b_Wo_init 111 = .ok (.dup, 1) := by decide +kernel
theorem d_Wo_init_112 : decode b_Wo_init 112 = .ok (.invokespecial 43, 3) := by decide +kernel
theorem d_Wo_init_115 : decode b_Wo_init 115 = .ok (.putfield 48, 3) := by decide +kernel
theorem d_Wo_init_118 : decode b_Wo_init 118 = .ok (.return_, 1) := by decide +kernel
theorem d_Ta_init_0 : decode b_Ta_init 0 = .ok (.aload_n 0, 1) := by decide +kernel
theorem d_Ta_init_1 : decode b_Ta_init 1 = .ok (.invokespecial 1, 3) := by decide +kernel
theorem d_Ta_init_4 : decode b_Ta_init 4 = .ok (.aload_n 0, 1) := by decide +kernel
theorem d_Ta_init_5 : decode b_Ta_init 5 = .ok (.iload_n 1, 1) := by decide +kernel
theorem d_Ta_init_6 : decode b_Ta_init 6 = .ok (.newarray .long, 2) := by decide +kernel
theorem d_Ta_init_8 : decode b_Ta_init 8 = .ok (.putfield 7, 3) := by decide +kernel
theorem d_Ta_init_11 : decode b_Ta_init 11 = .ok (.aload_n 0, 1) := by decide +kernel
theorem d_Ta_init_12 : decode b_Ta_init 12 = .ok (.iload_n 1, 1) := by decide +kernel
theorem d_Ta_init_13 : decode b_Ta_init 13 = .ok (.newarray .int, 2) := by decide +kernel
theorem d_Ta_init_15 : decode b_Ta_init 15 = .ok (.putfield 13, 3) := by decide +kernel
theorem d_Ta_init_18 : decode b_Ta_init 18 = .ok (.return_, 1) := by decide +kernel
theorem d_Ls_init_0 : decode b_Ls_init 0 = .ok (.aload_n 0, 1) := by decide +kernel
theorem d_Ls_init_1 : decode b_Ls_init 1 = .ok (.invokespecial 3, 3) := by decide +kernel
theorem d_Ls_init_4 : decode b_Ls_init 4 = .ok (.aload_n 0, 1) := by decide +kernel
theorem d_Ls_init_5 : decode b_Ls_init 5 = .ok (.new 9, 3) := by decide +kernel
theorem d_Ls_init_8 : decode b_Ls_init 8 = .ok (.dup, 1) := by decide +kernel
theorem d_Ls_init_9 : decode b_Ls_init 9 = .ok (.sipush 500, 3) := by decide +kernel
theorem d_Ls_init_12 : decode b_Ls_init 12 = .ok (.invokespecial 11, 3) := by decide +kernel
theorem d_Ls_init_15 : decode b_Ls_init 15 = .ok (.putfield 14, 3) := by decide +kernel
theorem d_Ls_init_18 : decode b_Ls_init 18 = .ok (.aload_n 0, 1) := by decide +kernel
theorem d_Ls_init_19 : decode b_Ls_init 19 = .ok (.sipush 500, 3) := by decide +kernel
theorem d_Ls_init_22 : decode b_Ls_init 22 = .ok (.anewarray 20, 3) := by decide +kernel
theorem d_Ls_init_25 : decode b_Ls_init 25 = .ok (.putfield 22, 3) := by decide +kernel
theorem d_Ls_init_28 : decode b_Ls_init 28 = .ok (.return_, 1) := by decide +kernel
theorem d_Ro_init_0 : decode b_Ro_init 0 = .ok (.aload_n 0, 1) := by decide +kernel
theorem d_Ro_init_1 : decode b_Ro_init 1 = .ok (.invokespecial 3, 3) := by decide +kernel
theorem d_Ro_init_4 : decode b_Ro_init 4 = .ok (.aload_n 0, 1) := by decide +kernel
theorem d_Ro_init_5 : decode b_Ro_init 5 = .ok (.sipush 200, 3) := by decide +kernel
theorem d_Ro_init_8 : decode b_Ro_init 8 = .ok (.newarray .int, 2) := by decide +kernel
theorem d_Ro_init_10 : decode b_Ro_init 10 = .ok (.putfield 9, 3) := by decide +kernel
theorem d_Ro_init_13 : decode b_Ro_init 13 = .ok (.return_, 1) := by decide +kernel
theorem d_Fi_init_0 : decode b_Fi_init 0 = .ok (.aload_n 0, 1) := by decide +kernel
theorem d_Fi_init_1 : decode b_Fi_init 1 = .ok (.invokespecial 3, 3) := by decide +kernel
theorem d_Fi_init_4 : decode b_Fi_init 4 = .ok (.aload_n 0, 1) := by decide +kernel
theorem d_Fi_init_5 : decode b_Fi_init 5 = .ok (.sipush 200, 3) := by decide +kernel
theorem d_Fi_init_8 : decode b_Fi_init 8 = .ok (.newarray .int, 2) := by decide +kernel
theorem d_Fi_init_10 : decode b_Fi_init 10 = .ok (.putfield 9, 3) := by decide +kernel
theorem d_Fi_init_13 : decode b_Fi_init 13 = .ok (.aload_n 0, 1) := by decide +kernel
theorem d_Fi_init_14 : decode b_Fi_init 14 = .ok (.sipush 200, 3) := by decide +kernel
theorem d_Fi_init_17 : decode b_Fi_init 17 = .ok (.newarray .int, 2) := by decide +kernel
theorem d_Fi_init_19 : decode b_Fi_init 19 = .ok (.putfield 15, 3) := by decide +kernel
theorem d_Fi_init_22 : decode b_Fi_init 22 = .ok (.aload_n 0, 1) := by decide +kernel
theorem d_Fi_init_23 : decode b_Fi_init 23 = .ok (.aload_n 1, 1) := by decide +kernel
theorem d_Fi_init_24 : decode b_Fi_init 24 = .ok (.putfield 18, 3) := by decide +kernel
theorem d_Fi_init_27 : decode b_Fi_init 27 = .ok (.aload_n 0, 1) := by decide +kernel
theorem d_Fi_init_28 : decode b_Fi_init 28 = .ok (.aload_n 2, 1) := by decide +kernel
theorem d_Fi_init_29 : decode b_Fi_init 29 = .ok (.putfield 22, 3) := by decide +kernel
theorem d_Fi_init_32 : decode b_Fi_init 32 = .ok (.return_, 1) := by decide +kernel
theorem d_El_init_0 : decode b_El_init 0 = .ok (.aload_n 0, 1) := by decide +kernel
theorem d_El_init_1 : decode b_El_init 1 = .ok (.invokespecial 3, 3) := by decide +kernel
theorem d_El_init_4 : decode b_El_init 4 = .ok (.aload_n 0, 1) := by decide +kernel
theorem d_El_init_5 : decode b_El_init 5 = .ok (.sipush 1600, 3) := by decide +kernel
theorem d_El_init_8 : decode b_El_init 8 = .ok (.newarray .long, 2) := by decide +kernel
theorem d_El_init_10 : decode b_El_init 10 = .ok (.putfield 9, 3) := by decide +kernel
theorem d_El_init_13 : decode b_El_init 13 = .ok (.return_, 1) := by decide +kernel
theorem d_Wo_order_0 : decode b_Wo_order 0 = .ok (.iload_n 1, 1) := by decide +kernel
theorem d_Wo_order_1 : decode b_Wo_order 1 = .ok (.ldc 51, 2) := by decide +kernel
theorem d_Wo_order_3 : decode b_Wo_order 3 = .ok (.invokestatic 52, 3) := by decide +kernel
theorem d_Wo_order_6 : decode b_Wo_order 6 = .ok (.ifCond .eq 13, 3) := by decide +kernel
theorem d_Wo_order_9 : decode b_Wo_order 9 = .ok (.iload_n 2, 1) := by decide +kernel
theorem d_Wo_order_10 : decode b_Wo_order 10 = .ok (.sipush 254, 3) := by decide +kernel
theorem d_Wo_order_13 : decode b_Wo_order 13 = .ok (.invokestatic 52, 3) := by decide +kernel
theorem d_Wo_order_16 : decode b_Wo_order 16 = .ok (.ifCond .ne 11, 3) := by decide +kernel
theorem d_Wo_order_19 : decode b_Wo_order 19 = .ok (.new 56, 3) := by decide +kernel
theorem d_Wo_order_22 : decode b_Wo_order 22 = .ok (.dup, 1) := by decide +kernel
theorem d_Wo_order_23 : decode b_Wo_order 23 = .ok (.invokespecial 58, 3) := by decide +kernel
theorem d_Wo_order_26 : decode b_Wo_order 26 = .ok (.athrow, 1) := by decide +kernel
theorem d_Wo_order_27 : decode b_Wo_order 27 = .ok (.aload_n 0, 1) := by decide +kernel
theorem d_Wo_order_28 : decode b_Wo_order 28 = .ok (.getfield 14, 3) := by decide +kernel
theorem d_Wo_order_31 : decode b_Wo_order 31 = .ok (.iload_n 1, 1) := by decide +kernel
theorem d_Wo_order_32 : decode b_Wo_order 32 = .ok (.i2l, 1) := by decide +kernel
theorem d_Wo_order_33 : decode b_Wo_order 33 = .ok (.iload_n 2, 1) := by decide +kernel
theorem d_Wo_order_34 : decode b_Wo_order 34 = .ok (.invokevirtual 59, 3) := by decide +kernel
theorem d_Wo_order_37 : decode b_Wo_order 37 = .ok (.return_, 1) := by decide +kernel
theorem d_Wo_isWithin_0 : decode b_Wo_isWithin 0 = .ok (.iload_n 0, 1) := by decide +kernel
theorem d_Wo_isWithin_1 : decode b_Wo_isWithin 1 = .ok (.ifCond .lt 12, 3) := by decide +kernel
theorem d_Wo_isWithin_4 : decode b_Wo_isWithin 4 = .ok (.iload_n 0, 1) := by decide +kernel
theorem d_Wo_isWithin_5 : decode b_Wo_isWithin 5 = .ok (.iload_n 1, 1) := by decide +kernel
theorem d_Wo_isWithin_6 : decode b_Wo_isWithin 6 = .ok (.if_icmp .gt 7, 3) := by decide +kernel
theorem d_Wo_isWithin_9 : decode b_Wo_isWithin 9 = .ok (.iconst 1, 1) := by decide +kernel
theorem d_Wo_isWithin_10 : decode b_Wo_isWithin 10 = .ok (.goto 4, 3) := by decide +kernel
theorem d_Wo_isWithin_13 : decode b_Wo_isWithin 13 = .ok (.iconst 0, 1) := by decide +kernel
theorem d_Wo_isWithin_14 : decode b_Wo_isWithin 14 = .ok (.ireturn, 1) := by decide +kernel
theorem d_Ta_put_0 : decode b_Ta_put 0 = .ok (.aload_n 0, 1) := by decide +kernel
theorem d_Ta_put_1 : decode b_Ta_put 1 = .ok (.lload_n 1, 1) := by decide +kernel
theorem d_Ta_put_2 : decode b_Ta_put 2 = .ok (.invokevirtual 17, 3) := by decide +kernel
theorem d_Ta_put_5 : decode b_Ta_put 5 = .ok (.istore 4, 2) := by decide +kernel
theorem d_Ta_put_7 : decode b_Ta_put 7 = .ok (.iload 4, 2) := by decide +kernel
theorem d_Ta_put_9 : decode b_Ta_put 9 = .ok (.aload_n 0, 1) := by decide +kernel
theorem d_Ta_put_10 : decode b_Ta_put 10 = .ok (.getfield 21, 3) := by decide +kernel
theorem d_Ta_put_13 : decode b_Ta_put 13 = .ok (.if_icmp .ge 26, 3) := by decide +kernel
theorem d_Ta_put_16 : decode b_Ta_put 16 = .ok (.aload_n 0, 1) := by decide +kernel
theorem d_Ta_put_17 : decode b_Ta_put 17 = .ok (.getfield 7, 3) := by decide +kernel
theorem d_Ta_put_20 : decode b_Ta_put 20 = .ok (.iload 4, 2) := by decide +kernel
theorem d_Ta_put_22 : decode b_Ta_put 22 = .ok (.laload, 1) := by decide +kernel
theorem d_Ta_put_23 : decode b_Ta_put 23 = .ok (.lload_n 1, 1) := by decide +kernel
theorem d_Ta_put_24 : decode b_Ta_put 24 = .ok (.lcmp, 1) := by decide +kernel
theorem d_Ta_put_25 : decode b_Ta_put 25 = .ok (.ifCond .ne 14, 3) := by decide +kernel
theorem d_Ta_put_28 : decode b_Ta_put 28 = .ok (.aload_n 0, 1) := by decide +kernel
theorem d_Ta_put_29 : decode b_Ta_put 29 = .ok (.getfield 13, 3) := by decide +kernel
theorem d_Ta_put_32 : decode b_Ta_put 32 = .ok (.iload 4, 2) := by decide +kernel
theorem d_Ta_put_34 : decode b_Ta_put 34 = .ok (.iload_n 3, 1) := by decide +kernel
theorem d_Ta_put_35 : decode b_Ta_put 35 = .ok (.iastore, 1) := by decide +kernel
theorem d_Ta_put_36 : decode b_Ta_put 36 = .ok (.goto 23, 3) := by decide +kernel
theorem d_Ta_put_39 : decode b_Ta_put 39 = .ok (.aload_n 0, 1) := by decide +kernel
theorem d_Ta_put_40 : decode b_Ta_put 40 = .ok (.getfield 21, 3) := by decide +kernel
theorem d_Ta_put_43 : decode b_Ta_put 43 = .ok (.aload_n 0, 1) := by decide +kernel
theorem d_Ta_put_44 : decode b_Ta_put 44 = .ok (.getfield 7, 3) := by decide +kernel
theorem d_Ta_put_47 : decode b_Ta_put 47 = .ok (.arraylength, 1) := by decide +kernel
theorem d_Ta_put_48 : decode b_Ta_put 48 = .ok (.if_icmp .ge 11, 3) := by decide +kernel
theorem d_Ta_put_51 : decode b_Ta_put 51 = .ok (.aload_n 0, 1) := by decide +kernel
theorem d_Ta_put_52 : decode b_Ta_put 52 = .ok (.iload 4, 2) := by decide +kernel
theorem d_Ta_put_54 : decode b_Ta_put 54 = .ok (.lload_n 1, 1) := by decide +kernel
theorem d_Ta_put_55 : decode b_Ta_put 55 = .ok (.iload_n 3, 1) := by decide +kernel
theorem d_Ta_put_56 : decode b_Ta_put 56 = .ok (.invokevirtual 25, 3) := by decide +kernel
theorem d_Ta_put_59 : decode b_Ta_put 59 = .ok (.return_, 1) := by decide +kernel
theorem d_Ta_placeOf_0 : decode b_Ta_placeOf 0 = .ok (.iconst 0, 1) := by decide +kernel
theorem d_Ta_placeOf_1 : decode b_Ta_placeOf 1 = .ok (.istore_n 3, 1) := by decide +kernel
theorem d_Ta_placeOf_2 : decode b_Ta_placeOf 2 = .ok (.aload_n 0, 1) := by decide +kernel
theorem d_Ta_placeOf_3 : decode b_Ta_placeOf 3 = .ok (.getfield 21, 3) := by decide +kernel
theorem d_Ta_placeOf_6 : decode b_Ta_placeOf 6 = .ok (.istore 4, 2) := by decide +kernel
theorem d_Ta_placeOf_8 : decode b_Ta_placeOf 8 = .ok (.iload_n 3, 1) := by decide +kernel
theorem d_Ta_placeOf_9 : decode b_Ta_placeOf 9 = .ok (.iload 4, 2) := by decide +kernel
theorem d_Ta_placeOf_11 : decode b_Ta_placeOf 11 = .ok (.if_icmp .ge 38, 3) := by decide +kernel
theorem d_Ta_placeOf_14 : decode b_Ta_placeOf 14 = .ok (.iload_n 3, 1) := by decide +kernel
theorem d_Ta_placeOf_15 : decode b_Ta_placeOf 15 = .ok (.iload 4, 2) := by decide +kernel
theorem d_Ta_placeOf_17 : decode b_Ta_placeOf 17 = .ok (.iadd, 1) := by decide +kernel
theorem d_Ta_placeOf_18 : decode b_Ta_placeOf 18 = .ok (.iconst 1, 1) := by decide +kernel
theorem d_Ta_placeOf_19 : decode b_Ta_placeOf 19 = .ok (.iushr, 1) := by decide +kernel
theorem d_Ta_placeOf_20 : decode b_Ta_placeOf 20 = .ok (.istore 5, 2) := by decide +kernel
theorem d_Ta_placeOf_22 : decode b_Ta_placeOf 22 = .ok (.aload_n 0, 1) := by decide +kernel
theorem d_Ta_placeOf_23 : decode b_Ta_placeOf 23 = .ok (.getfield 7, 3) := by decide +kernel
theorem d_Ta_placeOf_26 : decode b_Ta_placeOf 26 = .ok (.iload 5, 2) := by decide +kernel
theorem d_Ta_placeOf_28 : decode b_Ta_placeOf 28 = .ok (.laload, 1) := by decide +kernel
theorem d_Ta_placeOf_29 : decode b_Ta_placeOf 29 = .ok (.lload_n 1, 1) := by decide +kernel
theorem d_Ta_placeOf_30 : decode b_Ta_placeOf 30 = .ok (.lcmp, 1) := by decide +kernel
theorem d_Ta_placeOf_31 : decode b_Ta_placeOf 31 = .ok (.ifCond .ge 11, 3) := by decide +kernel
theorem d_Ta_placeOf_34 : decode b_Ta_placeOf 34 = .ok (.iload 5, 2) := by decide +kernel
theorem d_Ta_placeOf_36 : decode b_Ta_placeOf 36 = .ok (.iconst 1, 1) := by decide +kernel
theorem d_Ta_placeOf_37 : decode b_Ta_placeOf 37 = .ok (.iadd, 1) := by decide +kernel
theorem d_Ta_placeOf_38 : decode b_Ta_placeOf 38 = .ok (.istore_n 3, 1) := by decide +kernel
theorem d_Ta_placeOf_39 : decode b_Ta_placeOf 39 = .ok (.goto 7, 3) := by decide +kernel
theorem d_Ta_placeOf_42 : decode b_Ta_placeOf 42 = .ok (.iload 5, 2) := by decide +kernel
theorem d_Ta_placeOf_44 : decode b_Ta_placeOf 44 = .ok (.istore 4, 2) := by decide +kernel
theorem d_Ta_placeOf_46 : decode b_Ta_placeOf 46 = .ok (.goto (-38), 3) := by decide +kernel
theorem d_Ta_placeOf_49 : decode b_Ta_placeOf 49 = .ok (.iload_n 3, 1) := by decide +kernel
theorem d_Ta_placeOf_50 : decode b_Ta_placeOf 50 = .ok (.ireturn, 1) := by decide +kernel
theorem d_Ta_insert_0 : decode b_Ta_insert 0 = .ok (.aload_n 0, 1) := by decide +kernel
theorem d_Ta_insert_1 : decode b_Ta_insert 1 = .ok (.getfield 7, 3) := by decide +kernel
theorem d_Ta_insert_4 : decode b_Ta_insert 4 = .ok (.iload_n 1, 1) := by decide +kernel
theorem d_Ta_insert_5 : decode b_Ta_insert 5 = .ok (.aload_n 0, 1) := by decide +kernel
theorem d_Ta_insert_6 : decode b_Ta_insert 6 = .ok (.getfield 7, 3) := by decide +kernel
theorem d_Ta_insert_9 : decode b_Ta_insert 9 = .ok (.iload_n 1, 1) := by decide +kernel
theorem d_Ta_insert_10 : decode b_Ta_insert 10 = .ok (.iconst 1, 1) := by decide +kernel
theorem d_Ta_insert_11 : decode b_Ta_insert 11 = .ok (.iadd, 1) := by decide +kernel
theorem d_Ta_insert_12 : decode b_Ta_insert 12 = .ok (.aload_n 0, 1) := by decide +kernel
theorem d_Ta_insert_13 : decode b_Ta_insert 13 = .ok (.getfield 21, 3) := by decide +kernel
theorem d_Ta_insert_16 : decode b_Ta_insert 16 = .ok (.iload_n 1, 1) := by decide +kernel
theorem d_Ta_insert_17 : decode b_Ta_insert 17 = .ok (.isub, 1) := by decide +kernel
theorem d_Ta_insert_18 : decode b_Ta_insert 18 = .ok (.invokestatic 29, 3) := by decide +kernel
theorem d_Ta_insert_21 : decode b_Ta_insert 21 = .ok (.aload_n 0, 1) := by decide +kernel
theorem d_Ta_insert_22 : decode b_Ta_insert 22 = .ok (.getfield 13, 3) := by decide +kernel
theorem d_Ta_insert_25 : decode b_Ta_insert 25 = .ok (.iload_n 1, 1) := by decide +kernel
theorem d_Ta_insert_26 : decode b_Ta_insert 26 = .ok (.aload_n 0, 1) := by decide +kernel
theorem d_Ta_insert_27 : decode b_Ta_insert 27 = .ok (.getfield 13, 3) := by decide +kernel
theorem d_Ta_insert_30 : decode b_Ta_insert 30 = .ok (.iload_n 1, 1) := by decide +kernel
theorem d_Ta_insert_31 : decode b_Ta_insert 31 = .ok (.iconst 1, 1) := by decide +kernel
theorem d_Ta_insert_32 : decode b_Ta_insert 32 = .ok (.iadd, 1) := by decide +kernel
theorem d_Ta_insert_33 : decode b_Ta_insert 33 = .ok (.aload_n 0, 1) := by decide +kernel
theorem d_Ta_insert_34 : decode b_Ta_insert 34 = .ok (.getfield 21, 3) := by decide +kernel
theorem d_Ta_insert_37 : decode b_Ta_insert 37 = .ok (.iload_n 1, 1) := by decide +kernel
theorem d_Ta_insert_38 : decode b_Ta_insert 38 = .ok (.isub, 1) := by decide +kernel
theorem d_Ta_insert_39 : decode b_Ta_insert 39 = .ok (.invokestatic 29, 3) := by decide +kernel
theorem d_Ta_insert_42 : decode b_Ta_insert 42 = .ok (.aload_n 0, 1) := by decide +kernel
theorem d_Ta_insert_43 : decode b_Ta_insert 43 = .ok (.getfield 7, 3) := by decide +kernel
theorem d_Ta_insert_46 : decode b_Ta_insert 46 = .ok (.iload_n 1, 1) := by decide +kernel
theorem d_Ta_insert_47 : decode b_Ta_insert 47 = .ok (.lload_n 2, 1) := by decide +kernel
theorem d_Ta_insert_48 : decode b_Ta_insert 48 = .ok (.lastore, 1) := by decide +kernel
theorem d_Ta_insert_49 : decode b_Ta_insert 49 = .ok (.aload_n 0, 1) := by decide +kernel
theorem d_Ta_insert_50 : decode b_Ta_insert 50 = .ok (.getfield 13, 3) := by decide +kernel
theorem d_Ta_insert_53 : decode b_Ta_insert 53 = .ok (.iload_n 1, 1) := by decide +kernel
theorem d_Ta_insert_54 : decode b_Ta_insert 54 = .ok (.iload 4, 2) := by decide +kernel
theorem d_Ta_insert_56 : decode b_Ta_insert 56 = .ok (.iastore, 1) := by decide +kernel
theorem d_Ta_insert_57 : decode b_Ta_insert 57 = .ok (.aload_n 0, 1) := by decide +kernel
theorem d_Ta_insert_58 : decode b_Ta_insert 58 = .ok (.dup, 1) := by decide +kernel
theorem d_Ta_insert_59 : decode b_Ta_insert 59 = .ok (.getfield 21, 3) := by decide +kernel
theorem d_Ta_insert_62 : decode b_Ta_insert 62 = .ok (.iconst 1, 1) := by decide +kernel
theorem d_Ta_insert_63 : decode b_Ta_insert 63 = .ok (.iadd, 1) := by decide +kernel
theorem d_Ta_insert_64 : decode b_Ta_insert 64 = .ok (.putfield 21, 3) := by decide +kernel
theorem d_Ta_insert_67 : decode b_Ta_insert 67 = .ok (.return_, 1) := by decide +kernel
theorem d_Wo_line_0 : decode b_Wo_line 0 = .ok (.iload_n 1, 1) := by decide +kernel
theorem d_Wo_line_1 : decode b_Wo_line 1 = .ok (.iconst 1, 1) := by decide +kernel
theorem d_Wo_line_2 : decode b_Wo_line 2 = .ok (.if_icmp .lt 18, 3) := by decide +kernel
theorem d_Wo_line_5 : decode b_Wo_line 5 = .ok (.iload_n 1, 1) := by decide +kernel
theorem d_Wo_line_6 : decode b_Wo_line 6 = .ok (.iconst 3, 1) := by decide +kernel
theorem d_Wo_line_7 : decode b_Wo_line 7 = .ok (.if_icmp .gt 13, 3) := by decide +kernel
theorem d_Wo_line_10 : decode b_Wo_line 10 = .ok (.iload_n 2, 1) := by decide +kernel
theorem d_Wo_line_11 : decode b_Wo_line 11 = .ok (.iload_n 3, 1) := by decide +kernel
theorem d_Wo_line_12 : decode b_Wo_line 12 = .ok (.iload 4, 2) := by decide +kernel
theorem d_Wo_line_14 : decode b_Wo_line 14 = .ok (.invokestatic 63, 3) := by decide +kernel
theorem d_Wo_line_17 : decode b_Wo_line 17 = .ok (.ifCond .ne 11, 3) := by decide +kernel
theorem d_Wo_line_20 : decode b_Wo_line 20 = .ok (.new 56, 3) := by decide +kernel
theorem d_Wo_line_23 : decode b_Wo_line 23 = .ok (.dup, 1) := by decide +kernel
theorem d_Wo_line_24 : decode b_Wo_line 24 = .ok (.invokespecial 58, 3) := by decide +kernel
theorem d_Wo_line_27 : decode b_Wo_line 27 = .ok (.athrow, 1) := by decide +kernel
theorem d_Wo_line_28 : decode b_Wo_line 28 = .ok (.iload_n 1, 1) := by decide +kernel
theorem d_Wo_line_29 : decode b_Wo_line 29 = .ok (.iload_n 2, 1) := by decide +kernel
theorem d_Wo_line_30 : decode b_Wo_line 30 = .ok (.iload_n 3, 1) := by decide +kernel
theorem d_Wo_line_31 : decode b_Wo_line 31 = .ok (.iload 4, 2) := by decide +kernel
theorem d_Wo_line_33 : decode b_Wo_line 33 = .ok (.invokestatic 67, 3) := by decide +kernel
theorem d_Wo_line_36 : decode b_Wo_line 36 = .ok (.lstore 5, 2) := by decide +kernel
theorem d_Wo_line_38 : decode b_Wo_line 38 = .ok (.aload_n 0, 1) := by decide +kernel
theorem d_Wo_line_39 : decode b_Wo_line 39 = .ok (.getfield 21, 3) := by decide +kernel
theorem d_Wo_line_42 : decode b_Wo_line 42 = .ok (.lload 5, 2) := by decide +kernel
theorem d_Wo_line_44 : decode b_Wo_line 44 = .ok (.invokevirtual 71, 3) := by decide +kernel
theorem d_Wo_line_47 : decode b_Wo_line 47 = .ok (.ifnonnull 21, 3) := by decide +kernel
theorem d_Wo_line_50 : decode b_Wo_line 50 = .ok (.aload_n 0, 1) := by decide +kernel
theorem d_Wo_line_51 : decode b_Wo_line 51 = .ok (.getfield 21, 3) := by decide +kernel
theorem d_Wo_line_54 : decode b_Wo_line 54 = .ok (.invokevirtual 75, 3) := by decide +kernel
theorem d_Wo_line_57 : decode b_Wo_line 57 = .ok (.ifCond .eq 11, 3) := by decide +kernel
theorem d_Wo_line_60 : decode b_Wo_line 60 = .ok (.new 79, 3) := by decide +kernel
theorem d_Wo_line_63 : decode b_Wo_line 63 = .ok (.dup, 1) := by decide +kernel
theorem d_Wo_line_64 : decode b_Wo_line 64 = .ok (.invokespecial 81, 3) := by decide +kernel
theorem d_Wo_line_67 : decode b_Wo_line 67 = .ok (.athrow, 1) := by decide +kernel
theorem d_Wo_line_68 : decode b_Wo_line 68 = .ok (.aload_n 0, 1) := by decide +kernel
theorem d_Wo_line_69 : decode b_Wo_line 69 = .ok (.getfield 21, 3) := by decide +kernel
theorem d_Wo_line_72 : decode b_Wo_line 72 = .ok (.lload 5, 2) := by decide +kernel
theorem d_Wo_line_74 : decode b_Wo_line 74 = .ok (.invokevirtual 82, 3) := by decide +kernel
theorem d_Wo_line_77 : decode b_Wo_line 77 = .ok (.aload_n 0, 1) := by decide +kernel
theorem d_Wo_line_78 : decode b_Wo_line 78 = .ok (.getfield 21, 3) := by decide +kernel
theorem d_Wo_line_81 : decode b_Wo_line 81 = .ok (.getfield 86, 3) := by decide +kernel
theorem d_Wo_line_84 : decode b_Wo_line 84 = .ok (.ireturn, 1) := by decide +kernel
theorem d_Wo_arePoints_0 : decode b_Wo_arePoints 0 = .ok (.iload_n 0, 1) := by decide +kernel
theorem d_Wo_arePoints_1 : decode b_Wo_arePoints 1 = .ok (.ldc 51, 2) := by decide +kernel
theorem d_Wo_arePoints_3 : decode b_Wo_arePoints 3 = .ok (.invokestatic 52, 3) := by decide +kernel
theorem d_Wo_arePoints_6 : decode b_Wo_arePoints 6 = .ok (.ifCond .eq 25, 3) := by decide +kernel
theorem d_Wo_arePoints_9 : decode b_Wo_arePoints 9 = .ok (.iload_n 1, 1) := by decide +kernel
theorem d_Wo_arePoints_10 : decode b_Wo_arePoints 10 = .ok (.ldc 51, 2) := by decide +kernel
theorem d_Wo_arePoints_12 : decode b_Wo_arePoints 12 = .ok (.invokestatic 52, 3) := by decide +kernel
theorem d_Wo_arePoints_15 : decode b_Wo_arePoints 15 = .ok (.ifCond .eq 16, 3) := by decide +kernel
theorem d_Wo_arePoints_18 : decode b_Wo_arePoints 18 = .ok (.iload_n 2, 1) := by decide +kernel
theorem d_Wo_arePoints_19 : decode b_Wo_arePoints 19 = .ok (.ldc 51, 2) := by decide +kernel
theorem d_Wo_arePoints_21 : decode b_Wo_arePoints 21 = .ok (.invokestatic 52, 3) := by decide +kernel
theorem d_Wo_arePoints_24 : decode b_Wo_arePoints 24 = .ok (.ifCond .eq 7, 3) := by decide +kernel
theorem d_Wo_arePoints_27 : decode b_Wo_arePoints 27 = .ok (.iconst 1, 1) := by decide +kernel
theorem d_Wo_arePoints_28 : decode b_Wo_arePoints 28 = .ok (.goto 4, 3) := by decide +kernel
theorem d_Wo_arePoints_31 : decode b_Wo_arePoints 31 = .ok (.iconst 0, 1) := by decide +kernel
theorem d_Wo_arePoints_32 : decode b_Wo_arePoints 32 = .ok (.ireturn, 1) := by decide +kernel
theorem d_Wo_keyOf_0 : decode b_Wo_keyOf 0 = .ok (.lconst 0, 1) := by decide +kernel
theorem d_Wo_keyOf_1 : decode b_Wo_keyOf 1 = .ok (.iload_n 1, 1) := by decide +kernel
theorem d_Wo_keyOf_2 : decode b_Wo_keyOf 2 = .ok (.invokestatic 128, 3) := by decide +kernel
theorem d_Wo_keyOf_5 : decode b_Wo_keyOf 5 = .ok (.lstore 4, 2) := by decide +kernel
theorem d_Wo_keyOf_7 : decode b_Wo_keyOf 7 = .ok (.iload_n 0, 1) := by decide +kernel
theorem d_Wo_keyOf_8 : decode b_Wo_keyOf 8 = .ok (.iconst 1, 1) := by decide +kernel
theorem d_Wo_keyOf_9 : decode b_Wo_keyOf 9 = .ok (.if_icmp .le 11, 3) := by decide +kernel
theorem d_Wo_keyOf_12 : decode b_Wo_keyOf 12 = .ok (.lload 4, 2) := by decide +kernel
theorem d_Wo_keyOf_14 : decode b_Wo_keyOf 14 = .ok (.iload_n 2, 1) := by decide +kernel
theorem d_Wo_keyOf_15 : decode b_Wo_keyOf 15 = .ok (.invokestatic 128, 3) := by decide +kernel
theorem d_Wo_keyOf_18 : decode b_Wo_keyOf 18 = .ok (.lstore 4, 2) := by decide +kernel
theorem d_Wo_keyOf_20 : decode b_Wo_keyOf 20 = .ok (.iload_n 0, 1) := by decide +kernel
theorem d_Wo_keyOf_21 : decode b_Wo_keyOf 21 = .ok (.iconst 2, 1) := by decide +kernel
theorem d_Wo_keyOf_22 : decode b_Wo_keyOf 22 = .ok (.if_icmp .le 11, 3) := by decide +kernel
theorem d_Wo_keyOf_25 : decode b_Wo_keyOf 25 = .ok (.lload 4, 2) := by decide +kernel
theorem d_Wo_keyOf_27 : decode b_Wo_keyOf 27 = .ok (.iload_n 3, 1) := by decide +kernel
theorem d_Wo_keyOf_28 : decode b_Wo_keyOf 28 = .ok (.invokestatic 128, 3) := by decide +kernel
theorem d_Wo_keyOf_31 : decode b_Wo_keyOf 31 = .ok (.lstore 4, 2) := by decide +kernel
theorem d_Wo_keyOf_33 : decode b_Wo_keyOf 33 = .ok (.lload 4, 2) := by decide +kernel
theorem d_Wo_keyOf_35 : decode b_Wo_keyOf 35 = .ok (.lreturn, 1) := by decide +kernel
theorem d_Wo_longerKey_0 : decode b_Wo_longerKey 0 = .ok (.lload_n 0, 1) := by decide +kernel
theorem d_Wo_longerKey_1 : decode b_Wo_longerKey 1 = .ok (.bipush 21, 2) := by decide +kernel
theorem d_Wo_longerKey_3 : decode b_Wo_longerKey 3 = .ok (.lshl, 1) := by decide +kernel
theorem d_Wo_longerKey_4 : decode b_Wo_longerKey 4 = .ok (.iload_n 2, 1) := by decide +kernel
theorem d_Wo_longerKey_5 : decode b_Wo_longerKey 5 = .ok (.iconst 1, 1) := by decide +kernel
theorem d_Wo_longerKey_6 : decode b_Wo_longerKey 6 = .ok (.iadd, 1) := by decide +kernel
theorem d_Wo_longerKey_7 : decode b_Wo_longerKey 7 = .ok (.i2l, 1) := by decide +kernel
theorem d_Wo_longerKey_8 : decode b_Wo_longerKey 8 = .ok (.lor, 1) := by decide +kernel
theorem d_Wo_longerKey_9 : decode b_Wo_longerKey 9 = .ok (.lreturn, 1) := by decide +kernel
theorem d_Ls_find_0 : decode b_Ls_find 0 = .ok (.aload_n 0, 1) := by decide +kernel
theorem d_Ls_find_1 : decode b_Ls_find 1 = .ok (.getfield 14, 3) := by decide +kernel
theorem d_Ls_find_4 : decode b_Ls_find 4 = .ok (.lload_n 1, 1) := by decide +kernel
theorem d_Ls_find_5 : decode b_Ls_find 5 = .ok (.iconst (-1), 1) := by decide +kernel
theorem d_Ls_find_6 : decode b_Ls_find 6 = .ok (.invokevirtual 30, 3) := by decide +kernel
theorem d_Ls_find_9 : decode b_Ls_find 9 = .ok (.istore_n 3, 1) := by decide +kernel
theorem d_Ls_find_10 : decode b_Ls_find 10 = .ok (.iload_n 3, 1) := by decide +kernel
theorem d_Ls_find_11 : decode b_Ls_find 11 = .ok (.iconst (-1), 1) := by decide +kernel
theorem d_Ls_find_12 : decode b_Ls_find 12 = .ok (.if_icmp .ne 7, 3) := by decide +kernel
theorem d_Ls_find_15 : decode b_Ls_find 15 = .ok (.aconst_null, 1) := by decide +kernel
theorem d_Ls_find_16 : decode b_Ls_find 16 = .ok (.goto 9, 3) := by decide +kernel
theorem d_Ls_find_19 : decode b_Ls_find 19 = .ok (.aload_n 0, 1) := by decide +kernel
theorem d_Ls_find_20 : decode b_Ls_find 20 = .ok (.getfield 22, 3) := by decide +kernel
theorem d_Ls_find_23 : decode b_Ls_find 23 = .ok (.iload_n 3, 1) := by decide +kernel
theorem d_Ls_find_24 : decode b_Ls_find 24 = .ok (.aaload, 1) := by decide +kernel
theorem d_Ls_find_25 : decode b_Ls_find 25 = .ok (.areturn, 1) := by decide +kernel
theorem d_Ta_valueOf_0 : decode b_Ta_valueOf 0 = .ok (.aload_n 0, 1) := by decide +kernel
theorem d_Ta_valueOf_1 : decode b_Ta_valueOf 1 = .ok (.lload_n 1, 1) := by decide +kernel
theorem d_Ta_valueOf_2 : decode b_Ta_valueOf 2 = .ok (.invokevirtual 17, 3) := by decide +kernel
theorem d_Ta_valueOf_5 : decode b_Ta_valueOf 5 = .ok (.istore 4, 2) := by decide +kernel
theorem d_Ta_valueOf_7 : decode b_Ta_valueOf 7 = .ok (.iload 4, 2) := by decide +kernel
theorem d_Ta_valueOf_9 : decode b_Ta_valueOf 9 = .ok (.aload_n 0, 1) := by decide +kernel
theorem d_Ta_valueOf_10 : decode b_Ta_valueOf 10 = .ok (.getfield 21, 3) := by decide +kernel
theorem d_Ta_valueOf_13 : decode b_Ta_valueOf 13 = .ok (.if_icmp .ge 25, 3) := by decide +kernel
theorem d_Ta_valueOf_16 : decode b_Ta_valueOf 16 = .ok (.aload_n 0, 1) := by decide +kernel
theorem d_Ta_valueOf_17 : decode b_Ta_valueOf 17 = .ok (.getfield 7, 3) := by decide +kernel
theorem d_Ta_valueOf_20 : decode b_Ta_valueOf 20 = .ok (.iload 4, 2) := by decide +kernel
theorem d_Ta_valueOf_22 : decode b_Ta_valueOf 22 = .ok (.laload, 1) := by decide +kernel
theorem d_Ta_valueOf_23 : decode b_Ta_valueOf 23 = .ok (.lload_n 1, 1) := by decide +kernel
theorem d_Ta_valueOf_24 : decode b_Ta_valueOf 24 = .ok (.lcmp, 1) := by decide +kernel
theorem d_Ta_valueOf_25 : decode b_Ta_valueOf 25 = .ok (.ifCond .ne 13, 3) := by decide +kernel
theorem d_Ta_valueOf_28 : decode b_Ta_valueOf 28 = .ok (.aload_n 0, 1) := by decide +kernel
theorem d_Ta_valueOf_29 : decode b_Ta_valueOf 29 = .ok (.getfield 13, 3) := by decide +kernel
theorem d_Ta_valueOf_32 : decode b_Ta_valueOf 32 = .ok (.iload 4, 2) := by decide +kernel
theorem d_Ta_valueOf_34 : decode b_Ta_valueOf 34 = .ok (.iaload, 1) := by decide +kernel
theorem d_Ta_valueOf_35 : decode b_Ta_valueOf 35 = .ok (.goto 4, 3) := by decide +kernel
theorem d_Ta_valueOf_38 : decode b_Ta_valueOf 38 = .ok (.iload_n 3, 1) := by decide +kernel
theorem d_Ta_valueOf_39 : decode b_Ta_valueOf 39 = .ok (.ireturn, 1) := by decide +kernel
theorem d_Ls_isFull_0 : decode b_Ls_isFull 0 = .ok (.aload_n 0, 1) := by decide +kernel
theorem d_Ls_isFull_1 : decode b_Ls_isFull 1 = .ok (.getfield 26, 3) := by decide +kernel
theorem d_Ls_isFull_4 : decode b_Ls_isFull 4 = .ok (.aload_n 0, 1) := by decide +kernel
theorem d_Ls_isFull_5 : decode b_Ls_isFull 5 = .ok (.getfield 22, 3) := by decide +kernel
theorem d_Ls_isFull_8 : decode b_Ls_isFull 8 = .ok (.arraylength, 1) := by decide +kernel
theorem d_Ls_isFull_9 : decode b_Ls_isFull 9 = .ok (.if_icmp .ne 7, 3) := by decide +kernel
theorem d_Ls_isFull_12 : decode b_Ls_isFull 12 = .ok (.iconst 1, 1) := by decide +kernel
theorem d_Ls_isFull_13 : decode b_Ls_isFull 13 = .ok (.goto 4, 3) := by decide +kernel
theorem d_Ls_isFull_16 : decode b_Ls_isFull 16 = .ok (.iconst 0, 1) := by decide +kernel
theorem d_Ls_isFull_17 : decode b_Ls_isFull 17 = .ok (.ireturn, 1) := by decide +kernel
theorem d_Ls_tell_0 : decode b_Ls_tell 0 = .ok (.aload_n 0, 1) := by decide +kernel
theorem d_Ls_tell_1 : decode b_Ls_tell 1 = .ok (.lload_n 1, 1) := by decide +kernel
theorem d_Ls_tell_2 : decode b_Ls_tell 2 = .ok (.invokevirtual 34, 3) := by decide +kernel
theorem d_Ls_tell_5 : decode b_Ls_tell 5 = .ok (.astore_n 3, 1) := by decide +kernel
theorem d_Ls_tell_6 : decode b_Ls_tell 6 = .ok (.aload_n 3, 1) := by decide +kernel
theorem d_Ls_tell_7 : decode b_Ls_tell 7 = .ok (.ifnonnull 43, 3) := by decide +kernel
theorem d_Ls_tell_10 : decode b_Ls_tell 10 = .ok (.new 20, 3) := by decide +kernel
theorem d_Ls_tell_13 : decode b_Ls_tell 13 = .ok (.dup, 1) := by decide +kernel
theorem d_Ls_tell_14 : decode b_Ls_tell 14 = .ok (.invokespecial 38, 3) := by decide +kernel
theorem d_Ls_tell_17 : decode b_Ls_tell 17 = .ok (.astore_n 3, 1) := by decide +kernel
theorem d_Ls_tell_18 : decode b_Ls_tell 18 = .ok (.aload_n 0, 1) := by decide +kernel
theorem d_Ls_tell_19 : decode b_Ls_tell 19 = .ok (.getfield 14, 3) := by decide +kernel
theorem d_Ls_tell_22 : decode b_Ls_tell 22 = .ok (.lload_n 1, 1) := by decide +kernel
theorem d_Ls_tell_23 : decode b_Ls_tell 23 = .ok (.aload_n 0, 1) := by decide +kernel
theorem d_Ls_tell_24 : decode b_Ls_tell 24 = .ok (.getfield 26, 3) := by decide +kernel
theorem d_Ls_tell_27 : decode b_Ls_tell 27 = .ok (.invokevirtual 39, 3) := by decide +kernel
theorem d_Ls_tell_30 : decode b_Ls_tell 30 = .ok (.aload_n 0, 1) := by decide +kernel
theorem d_Ls_tell_31 : decode b_Ls_tell 31 = .ok (.getfield 22, 3) := by decide +kernel
theorem d_Ls_tell_34 : decode b_Ls_tell 34 = .ok (.aload_n 0, 1) := by decide +kernel
theorem d_Ls_tell_35 : decode b_Ls_tell 35 = .ok (.getfield 26, 3) := by decide +kernel
theorem d_Ls_tell_38 : decode b_Ls_tell 38 = .ok (.aload_n 3, 1) := by decide +kernel
theorem d_Ls_tell_39 : decode b_Ls_tell 39 = .ok (.aastore, 1) := by decide +kernel
theorem d_Ls_tell_40 : decode b_Ls_tell 40 = .ok (.aload_n 0, 1) := by decide +kernel
theorem d_Ls_tell_41 : decode b_Ls_tell 41 = .ok (.dup, 1) := by decide +kernel
theorem d_Ls_tell_42 : decode b_Ls_tell 42 = .ok (.getfield 26, 3) := by decide +kernel
theorem d_Ls_tell_45 : decode b_Ls_tell 45 = .ok (.iconst 1, 1) := by decide +kernel
theorem d_Ls_tell_46 : decode b_Ls_tell 46 = .ok (.iadd, 1) := by decide +kernel
theorem d_Ls_tell_47 : decode b_Ls_tell 47 = .ok (.putfield 26, 3) := by decide +kernel
theorem d_Ls_tell_50 : decode b_Ls_tell 50 = .ok (.aload_n 3, 1) := by decide +kernel
theorem d_Ls_tell_51 : decode b_Ls_tell 51 = .ok (.iconst 0, 1) := by decide +kernel
theorem d_Ls_tell_52 : decode b_Ls_tell 52 = .ok (.putfield 43, 3) := by decide +kernel
theorem d_Ls_tell_55 : decode b_Ls_tell 55 = .ok (.aload_n 0, 1) := by decide +kernel
theorem d_Ls_tell_56 : decode b_Ls_tell 56 = .ok (.aload_n 3, 1) := by decide +kernel
theorem d_Ls_tell_57 : decode b_Ls_tell 57 = .ok (.putfield 44, 3) := by decide +kernel
theorem d_Ls_tell_60 : decode b_Ls_tell 60 = .ok (.return_, 1) := by decide +kernel
theorem d_Li_init_0 : decode b_Li_init 0 = .ok (.aload_n 0, 1) := by decide +kernel
theorem d_Li_init_1 : decode b_Li_init 1 = .ok (.invokespecial 3, 3) := by decide +kernel
theorem d_Li_init_4 : decode b_Li_init 4 = .ok (.aload_n 0, 1) := by decide +kernel
theorem d_Li_init_5 : decode b_Li_init 5 = .ok (.bipush 8, 2) := by decide +kernel
theorem d_Li_init_7 : decode b_Li_init 7 = .ok (.newarray .long, 2) := by decide +kernel
theorem d_Li_init_9 : decode b_Li_init 9 = .ok (.putfield 9, 3) := by decide +kernel
theorem d_Li_init_12 : decode b_Li_init 12 = .ok (.aload_n 0, 1) := by decide +kernel
theorem d_Li_init_13 : decode b_Li_init 13 = .ok (.bipush 8, 2) := by decide +kernel
theorem d_Li_init_15 : decode b_Li_init 15 = .ok (.newarray .boolean, 2) := by decide +kernel
theorem d_Li_init_17 : decode b_Li_init 17 = .ok (.putfield 15, 3) := by decide +kernel
theorem d_Li_init_20 : decode b_Li_init 20 = .ok (.return_, 1) := by decide +kernel
theorem d_Wo_element_0 : decode b_Wo_element 0 = .ok (.iload_n 1, 1) := by decide +kernel
theorem d_Wo_element_1 : decode b_Wo_element 1 = .ok (.ldc 90, 2) := by decide +kernel
theorem d_Wo_element_3 : decode b_Wo_element 3 = .ok (.invokestatic 52, 3) := by decide +kernel
theorem d_Wo_element_6 : decode b_Wo_element 6 = .ok (.ifCond .eq 21, 3) := by decide +kernel
theorem d_Wo_element_9 : decode b_Wo_element 9 = .ok (.iload_n 2, 1) := by decide +kernel
theorem d_Wo_element_10 : decode b_Wo_element 10 = .ok (.ldc 90, 2) := by decide +kernel
theorem d_Wo_element_12 : decode b_Wo_element 12 = .ok (.invokestatic 52, 3) := by decide +kernel
theorem d_Wo_element_15 : decode b_Wo_element 15 = .ok (.ifCond .eq 12, 3) := by decide +kernel
theorem d_Wo_element_18 : decode b_Wo_element 18 = .ok (.iload_n 3, 1) := by decide +kernel
theorem d_Wo_element_19 : decode b_Wo_element 19 = .ok (.ldc 90, 2) := by decide +kernel
theorem d_Wo_element_21 : decode b_Wo_element 21 = .ok (.invokestatic 52, 3) := by decide +kernel
theorem d_Wo_element_24 : decode b_Wo_element 24 = .ok (.ifCond .ne 11, 3) := by decide +kernel
theorem d_Wo_element_27 : decode b_Wo_element 27 = .ok (.new 56, 3) := by decide +kernel
theorem d_Wo_element_30 : decode b_Wo_element 30 = .ok (.dup, 1) := by decide +kernel
theorem d_Wo_element_31 : decode b_Wo_element 31 = .ok (.invokespecial 58, 3) := by decide +kernel
theorem d_Wo_element_34 : decode b_Wo_element 34 = .ok (.athrow, 1) := by decide +kernel
theorem d_Wo_element_35 : decode b_Wo_element 35 = .ok (.aload_n 0, 1) := by decide +kernel
theorem d_Wo_element_36 : decode b_Wo_element 36 = .ok (.getfield 21, 3) := by decide +kernel
theorem d_Wo_element_39 : decode b_Wo_element 39 = .ok (.getfield 91, 3) := by decide +kernel
theorem d_Wo_element_42 : decode b_Wo_element 42 = .ok (.astore 5, 2) := by decide +kernel
theorem d_Wo_element_44 : decode b_Wo_element 44 = .ok (.aload 5, 2) := by decide +kernel
theorem d_Wo_element_46 : decode b_Wo_element 46 = .ok (.ifnonnull 11, 3) := by decide +kernel
theorem d_Wo_element_49 : decode b_Wo_element 49 = .ok (.new 56, 3) := by decide +kernel
theorem d_Wo_element_52 : decode b_Wo_element 52 = .ok (.dup, 1) := by decide +kernel
theorem d_Wo_element_53 : decode b_Wo_element 53 = .ok (.invokespecial 58, 3) := by decide +kernel
theorem d_Wo_element_56 : decode b_Wo_element 56 = .ok (.athrow, 1) := by decide +kernel
theorem d_Wo_element_57 : decode b_Wo_element 57 = .ok (.aload 5, 2) := by decide +kernel
theorem d_Wo_element_59 : decode b_Wo_element 59 = .ok (.invokevirtual 95, 3) := by decide +kernel
theorem d_Wo_element_62 : decode b_Wo_element 62 = .ok (.ifCond .eq 11, 3) := by decide +kernel
theorem d_Wo_element_65 : decode b_Wo_element 65 = .ok (.new 79, 3) := by decide +kernel
theorem d_Wo_element_68 : decode b_Wo_element 68 = .ok (.dup, 1) := by decide +kernel
theorem d_Wo_element_69 : decode b_Wo_element 69 = .ok (.invokespecial 81, 3) := by decide +kernel
theorem d_Wo_element_72 : decode b_Wo_element 72 = .ok (.athrow, 1) := by decide +kernel
theorem d_Wo_element_73 : decode b_Wo_element 73 = .ok (.aload 5, 2) := by decide +kernel
theorem d_Wo_element_75 : decode b_Wo_element 75 = .ok (.iload_n 1, 1) := by decide +kernel
theorem d_Wo_element_76 : decode b_Wo_element 76 = .ok (.iload_n 2, 1) := by decide +kernel
theorem d_Wo_element_77 : decode b_Wo_element 77 = .ok (.iload_n 3, 1) := by decide +kernel
theorem d_Wo_element_78 : decode b_Wo_element 78 = .ok (.invokestatic 98, 3) := by decide +kernel
theorem d_Wo_element_81 : decode b_Wo_element 81 = .ok (.iload 4, 2) := by decide +kernel
theorem d_Wo_element_83 : decode b_Wo_element 83 = .ok (.invokevirtual 102, 3) := by decide +kernel
theorem d_Wo_element_86 : decode b_Wo_element 86 = .ok (.aload 5, 2) := by decide +kernel
theorem d_Wo_element_88 : decode b_Wo_element 88 = .ok (.getfield 106, 3) := by decide +kernel
theorem d_Wo_element_91 : decode b_Wo_element 91 = .ok (.ireturn, 1) := by decide +kernel
theorem d_Li_isFull_0 : decode b_Li_isFull 0 = .ok (.aload_n 0, 1) := by decide +kernel
theorem d_Li_isFull_1 : decode b_Li_isFull 1 = .ok (.getfield 19, 3) := by decide +kernel
theorem d_Li_isFull_4 : decode b_Li_isFull 4 = .ok (.aload_n 0, 1) := by decide +kernel
theorem d_Li_isFull_5 : decode b_Li_isFull 5 = .ok (.getfield 9, 3) := by decide +kernel
theorem d_Li_isFull_8 : decode b_Li_isFull 8 = .ok (.arraylength, 1) := by decide +kernel
theorem d_Li_isFull_9 : decode b_Li_isFull 9 = .ok (.if_icmp .ne 7, 3) := by decide +kernel
theorem d_Li_isFull_12 : decode b_Li_isFull 12 = .ok (.iconst 1, 1) := by decide +kernel
theorem d_Li_isFull_13 : decode b_Li_isFull 13 = .ok (.goto 4, 3) := by decide +kernel
theorem d_Li_isFull_16 : decode b_Li_isFull 16 = .ok (.iconst 0, 1) := by decide +kernel
theorem d_Li_isFull_17 : decode b_Li_isFull 17 = .ok (.ireturn, 1) := by decide +kernel
theorem d_Wo_pack_0 : decode b_Wo_pack 0 = .ok (.iload_n 0, 1) := by decide +kernel
theorem d_Wo_pack_1 : decode b_Wo_pack 1 = .ok (.i2l, 1) := by decide +kernel
theorem d_Wo_pack_2 : decode b_Wo_pack 2 = .ok (.bipush 48, 2) := by decide +kernel
theorem d_Wo_pack_4 : decode b_Wo_pack 4 = .ok (.lshl, 1) := by decide +kernel
theorem d_Wo_pack_5 : decode b_Wo_pack 5 = .ok (.iload_n 1, 1) := by decide +kernel
theorem d_Wo_pack_6 : decode b_Wo_pack 6 = .ok (.i2l, 1) := by decide +kernel
theorem d_Wo_pack_7 : decode b_Wo_pack 7 = .ok (.bipush 32, 2) := by decide +kernel
theorem d_Wo_pack_9 : decode b_Wo_pack 9 = .ok (.lshl, 1) := by decide +kernel
theorem d_Wo_pack_10 : decode b_Wo_pack 10 = .ok (.lor, 1) := by decide +kernel
theorem d_Wo_pack_11 : decode b_Wo_pack 11 = .ok (.iload_n 2, 1) := by decide +kernel
theorem d_Wo_pack_12 : decode b_Wo_pack 12 = .ok (.i2l, 1) := by decide +kernel
theorem d_Wo_pack_13 : decode b_Wo_pack 13 = .ok (.bipush 16, 2) := by decide +kernel
theorem d_Wo_pack_15 : decode b_Wo_pack 15 = .ok (.lshl, 1) := by decide +kernel
theorem d_Wo_pack_16 : decode b_Wo_pack 16 = .ok (.lor, 1) := by decide +kernel
theorem d_Wo_pack_17 : decode b_Wo_pack 17 = .ok (.lreturn, 1) := by decide +kernel
theorem d_Li_append_0 : decode b_Li_append 0 = .ok (.aload_n 0, 1) := by decide +kernel
theorem d_Li_append_1 : decode b_Li_append 1 = .ok (.getfield 9, 3) := by decide +kernel
theorem d_Li_append_4 : decode b_Li_append 4 = .ok (.aload_n 0, 1) := by decide +kernel
theorem d_Li_append_5 : decode b_Li_append 5 = .ok (.getfield 19, 3) := by decide +kernel
theorem d_Li_append_8 : decode b_Li_append 8 = .ok (.lload_n 1, 1) := by decide +kernel
theorem d_Li_append_9 : decode b_Li_append 9 = .ok (.lastore, 1) := by decide +kernel
theorem d_Li_append_10 : decode b_Li_append 10 = .ok (.aload_n 0, 1) := by decide +kernel
theorem d_Li_append_11 : decode b_Li_append 11 = .ok (.getfield 15, 3) := by decide +kernel
theorem d_Li_append_14 : decode b_Li_append 14 = .ok (.aload_n 0, 1) := by decide +kernel
theorem d_Li_append_15 : decode b_Li_append 15 = .ok (.getfield 19, 3) := by decide +kernel
theorem d_Li_append_18 : decode b_Li_append 18 = .ok (.iload_n 3, 1) := by decide +kernel
theorem d_Li_append_19 : decode b_Li_append 19 = .ok (.bastore, 1) := by decide +kernel
theorem d_Li_append_20 : decode b_Li_append 20 = .ok (.aload_n 0, 1) := by decide +kernel
theorem d_Li_append_21 : decode b_Li_append 21 = .ok (.dup, 1) := by decide +kernel
theorem d_Li_append_22 : decode b_Li_append 22 = .ok (.getfield 19, 3) := by decide +kernel
theorem d_Li_append_25 : decode b_Li_append 25 = .ok (.iconst 1, 1) := by decide +kernel
theorem d_Li_append_26 : decode b_Li_append 26 = .ok (.iadd, 1) := by decide +kernel
theorem d_Li_append_27 : decode b_Li_append 27 = .ok (.putfield 19, 3) := by decide +kernel
theorem d_Li_append_30 : decode b_Li_append 30 = .ok (.return_, 1) := by decide +kernel
theorem d_Wo_add_0 : decode b_Wo_add 0 = .ok (.iload_n 1, 1) := by decide +kernel
theorem d_Wo_add_1 : decode b_Wo_add 1 = .ok (.iconst 3, 1) := by decide +kernel
theorem d_Wo_add_2 : decode b_Wo_add 2 = .ok (.invokestatic 52, 3) := by decide +kernel
theorem d_Wo_add_5 : decode b_Wo_add 5 = .ok (.ifCond .eq 12, 3) := by decide +kernel
theorem d_Wo_add_8 : decode b_Wo_add 8 = .ok (.iload_n 2, 1) := by decide +kernel
theorem d_Wo_add_9 : decode b_Wo_add 9 = .ok (.ldc 51, 2) := by decide +kernel
theorem d_Wo_add_11 : decode b_Wo_add 11 = .ok (.invokestatic 52, 3) := by decide +kernel
theorem d_Wo_add_14 : decode b_Wo_add 14 = .ok (.ifCond .ne 11, 3) := by decide +kernel
theorem d_Wo_add_17 : decode b_Wo_add 17 = .ok (.new 56, 3) := by decide +kernel
theorem d_Wo_add_20 : decode b_Wo_add 20 = .ok (.dup, 1) := by decide +kernel
theorem d_Wo_add_21 : decode b_Wo_add 21 = .ok (.invokespecial 58, 3) := by decide +kernel
theorem d_Wo_add_24 : decode b_Wo_add 24 = .ok (.athrow, 1) := by decide +kernel
theorem d_Wo_add_25 : decode b_Wo_add 25 = .ok (.aload_n 0, 1) := by decide +kernel
theorem d_Wo_add_26 : decode b_Wo_add 26 = .ok (.getfield 28, 3) := by decide +kernel
theorem d_Wo_add_29 : decode b_Wo_add 29 = .ok (.iload_n 1, 1) := by decide +kernel
theorem d_Wo_add_30 : decode b_Wo_add 30 = .ok (.aaload, 1) := by decide +kernel
theorem d_Wo_add_31 : decode b_Wo_add 31 = .ok (.invokevirtual 107, 3) := by decide +kernel
theorem d_Wo_add_34 : decode b_Wo_add 34 = .ok (.ifCond .eq 11, 3) := by decide +kernel
theorem d_Wo_add_37 : decode b_Wo_add 37 = .ok (.new 79, 3) := by decide +kernel
theorem d_Wo_add_40 : decode b_Wo_add 40 = .ok (.dup, 1) := by decide +kernel
theorem d_Wo_add_41 : decode b_Wo_add 41 = .ok (.invokespecial 81, 3) := by decide +kernel
theorem d_Wo_add_44 : decode b_Wo_add 44 = .ok (.athrow, 1) := by decide +kernel
theorem d_Wo_add_45 : decode b_Wo_add 45 = .ok (.aload_n 0, 1) := by decide +kernel
theorem d_Wo_add_46 : decode b_Wo_add 46 = .ok (.getfield 28, 3) := by decide +kernel
theorem d_Wo_add_49 : decode b_Wo_add 49 = .ok (.iload_n 1, 1) := by decide +kernel
theorem d_Wo_add_50 : decode b_Wo_add 50 = .ok (.aaload, 1) := by decide +kernel
theorem d_Wo_add_51 : decode b_Wo_add 51 = .ok (.iload_n 2, 1) := by decide +kernel
theorem d_Wo_add_52 : decode b_Wo_add 52 = .ok (.invokevirtual 108, 3) := by decide +kernel
theorem d_Wo_add_55 : decode b_Wo_add 55 = .ok (.aload_n 0, 1) := by decide +kernel
theorem d_Wo_add_56 : decode b_Wo_add 56 = .ok (.getfield 28, 3) := by decide +kernel
theorem d_Wo_add_59 : decode b_Wo_add 59 = .ok (.iload_n 1, 1) := by decide +kernel
theorem d_Wo_add_60 : decode b_Wo_add 60 = .ok (.aaload, 1) := by decide +kernel
theorem d_Wo_add_61 : decode b_Wo_add 61 = .ok (.getfield 110, 3) := by decide +kernel
theorem d_Wo_add_64 : decode b_Wo_add 64 = .ok (.ireturn, 1) := by decide +kernel
theorem d_Ro_isFull_0 : decode b_Ro_isFull 0 = .ok (.aload_n 0, 1) := by decide +kernel
theorem d_Ro_isFull_1 : decode b_Ro_isFull 1 = .ok (.getfield 15, 3) := by decide +kernel
theorem d_Ro_isFull_4 : decode b_Ro_isFull 4 = .ok (.aload_n 0, 1) := by decide +kernel
theorem d_Ro_isFull_5 : decode b_Ro_isFull 5 = .ok (.getfield 9, 3) := by decide +kernel
theorem d_Ro_isFull_8 : decode b_Ro_isFull 8 = .ok (.arraylength, 1) := by decide +kernel
theorem d_Ro_isFull_9 : decode b_Ro_isFull 9 = .ok (.if_icmp .ne 7, 3) := by decide +kernel
theorem d_Ro_isFull_12 : decode b_Ro_isFull 12 = .ok (.iconst 1, 1) := by decide +kernel
theorem d_Ro_isFull_13 : decode b_Ro_isFull 13 = .ok (.goto 4, 3) := by decide +kernel
theorem d_Ro_isFull_16 : decode b_Ro_isFull 16 = .ok (.iconst 0, 1) := by decide +kernel
theorem d_Ro_isFull_17 : decode b_Ro_isFull 17 = .ok (.ireturn, 1) := by decide +kernel
theorem d_Ro_append_0 : decode b_Ro_append 0 = .ok (.aload_n 0, 1) := by decide +kernel
theorem d_Ro_append_1 : decode b_Ro_append 1 = .ok (.getfield 9, 3) := by decide +kernel
theorem d_Ro_append_4 : decode b_Ro_append 4 = .ok (.aload_n 0, 1) := by decide +kernel
theorem d_Ro_append_5 : decode b_Ro_append 5 = .ok (.getfield 15, 3) := by decide +kernel
theorem d_Ro_append_8 : decode b_Ro_append 8 = .ok (.iload_n 1, 1) := by decide +kernel
theorem d_Ro_append_9 : decode b_Ro_append 9 = .ok (.iastore, 1) := by decide +kernel
theorem d_Ro_append_10 : decode b_Ro_append 10 = .ok (.aload_n 0, 1) := by decide +kernel
theorem d_Ro_append_11 : decode b_Ro_append 11 = .ok (.dup, 1) := by decide +kernel
theorem d_Ro_append_12 : decode b_Ro_append 12 = .ok (.getfield 15, 3) := by decide +kernel
theorem d_Ro_append_15 : decode b_Ro_append 15 = .ok (.iconst 1, 1) := by decide +kernel
theorem d_Ro_append_16 : decode b_Ro_append 16 = .ok (.iadd, 1) := by decide +kernel
theorem d_Ro_append_17 : decode b_Ro_append 17 = .ok (.putfield 15, 3) := by decide +kernel
theorem d_Ro_append_20 : decode b_Ro_append 20 = .ok (.return_, 1) := by decide +kernel
theorem d_Wo_clear_0 : decode b_Wo_clear 0 = .ok (.iload_n 1, 1) := by decide +kernel
theorem d_Wo_clear_1 : decode b_Wo_clear 1 = .ok (.iconst 3, 1) := by decide +kernel
theorem d_Wo_clear_2 : decode b_Wo_clear 2 = .ok (.invokestatic 52, 3) := by decide +kernel
theorem d_Wo_clear_5 : decode b_Wo_clear 5 = .ok (.ifCond .ne 11, 3) := by decide +kernel
theorem d_Wo_clear_8 : decode b_Wo_clear 8 = .ok (.new 56, 3) := by decide +kernel
theorem d_Wo_clear_11 : decode b_Wo_clear 11 = .ok (.dup, 1) := by decide +kernel
theorem d_Wo_clear_12 : decode b_Wo_clear 12 = .ok (.invokespecial 58, 3) := by decide +kernel
theorem d_Wo_clear_15 : decode b_Wo_clear 15 = .ok (.athrow, 1) := by decide +kernel
theorem d_Wo_clear_16 : decode b_Wo_clear 16 = .ok (.aload_n 0, 1) := by decide +kernel
theorem d_Wo_clear_17 : decode b_Wo_clear 17 = .ok (.getfield 28, 3) := by decide +kernel
theorem d_Wo_clear_20 : decode b_Wo_clear 20 = .ok (.iload_n 1, 1) := by decide +kernel
theorem d_Wo_clear_21 : decode b_Wo_clear 21 = .ok (.aaload, 1) := by decide +kernel
theorem d_Wo_clear_22 : decode b_Wo_clear 22 = .ok (.getfield 110, 3) := by decide +kernel
theorem d_Wo_clear_25 : decode b_Wo_clear 25 = .ok (.istore_n 2, 1) := by decide +kernel
theorem d_Wo_clear_26 : decode b_Wo_clear 26 = .ok (.aload_n 0, 1) := by decide +kernel
theorem d_Wo_clear_27 : decode b_Wo_clear 27 = .ok (.getfield 28, 3) := by decide +kernel
theorem d_Wo_clear_30 : decode b_Wo_clear 30 = .ok (.iload_n 1, 1) := by decide +kernel
theorem d_Wo_clear_31 : decode b_Wo_clear 31 = .ok (.aaload, 1) := by decide +kernel
theorem d_Wo_clear_32 : decode b_Wo_clear 32 = .ok (.iconst 0, 1) := by decide +kernel
theorem d_Wo_clear_33 : decode b_Wo_clear 33 = .ok (.putfield 110, 3) := by decide +kernel
theorem d_Wo_clear_36 : decode b_Wo_clear 36 = .ok (.iload_n 2, 1) := by decide +kernel
theorem d_Wo_clear_37 : decode b_Wo_clear 37 = .ok (.ireturn, 1) := by decide +kernel
theorem d_Wo_count_0 : decode b_Wo_count 0 = .ok (.iload_n 1, 1) := by decide +kernel
theorem d_Wo_count_1 : decode b_Wo_count 1 = .ok (.iconst 3, 1) := by decide +kernel
theorem d_Wo_count_2 : decode b_Wo_count 2 = .ok (.invokestatic 52, 3) := by decide +kernel
theorem d_Wo_count_5 : decode b_Wo_count 5 = .ok (.ifCond .ne 11, 3) := by decide +kernel
theorem d_Wo_count_8 : decode b_Wo_count 8 = .ok (.new 56, 3) := by decide +kernel
theorem d_Wo_count_11 : decode b_Wo_count 11 = .ok (.dup, 1) := by decide +kernel
theorem d_Wo_count_12 : decode b_Wo_count 12 = .ok (.invokespecial 58, 3) := by decide +kernel
theorem d_Wo_count_15 : decode b_Wo_count 15 = .ok (.athrow, 1) := by decide +kernel
theorem d_Wo_count_16 : decode b_Wo_count 16 = .ok (.aload_n 0, 1) := by decide +kernel
theorem d_Wo_count_17 : decode b_Wo_count 17 = .ok (.getfield 37, 3) := by decide +kernel
theorem d_Wo_count_20 : decode b_Wo_count 20 = .ok (.aload_n 0, 1) := by decide +kernel
theorem d_Wo_count_21 : decode b_Wo_count 21 = .ok (.getfield 28, 3) := by decide +kernel
theorem d_Wo_count_24 : decode b_Wo_count 24 = .ok (.iload_n 1, 1) := by decide +kernel
theorem d_Wo_count_25 : decode b_Wo_count 25 = .ok (.aaload, 1) := by decide +kernel
theorem d_Wo_count_26 : decode b_Wo_count 26 = .ok (.iload_n 2, 1) := by decide +kernel
theorem d_Wo_count_27 : decode b_Wo_count 27 = .ok (.aload_n 0, 1) := by decide +kernel
theorem d_Wo_count_28 : decode b_Wo_count 28 = .ok (.getfield 44, 3) := by decide +kernel
theorem d_Wo_count_31 : decode b_Wo_count 31 = .ok (.invokevirtual 111, 3) := by decide +kernel
theorem d_Wo_count_34 : decode b_Wo_count 34 = .ok (.aload_n 0, 1) := by decide +kernel
theorem d_Wo_count_35 : decode b_Wo_count 35 = .ok (.getfield 44, 3) := by decide +kernel
theorem d_Wo_count_38 : decode b_Wo_count 38 = .ok (.getfield 115, 3) := by decide +kernel
theorem d_Wo_count_41 : decode b_Wo_count 41 = .ok (.ireturn, 1) := by decide +kernel
theorem d_Fi_findElements_0 : decode b_Fi_findElements 0 = .ok (.aload_n 0, 1) := by decide +kernel
theorem d_Fi_findElements_1 : decode b_Fi_findElements 1 = .ok (.aload_n 1, 1) := by decide +kernel
theorem d_Fi_findElements_2 : decode b_Fi_findElements 2 = .ok (.invokevirtual 26, 3) := by decide +kernel
theorem d_Fi_findElements_5 : decode b_Fi_findElements 5 = .ok (.aload_n 3, 1) := by decide +kernel
theorem d_Fi_findElements_6 : decode b_Fi_findElements 6 = .ok (.iload_n 2, 1) := by decide +kernel
theorem d_Fi_findElements_7 : decode b_Fi_findElements 7 = .ok (.invokevirtual 30, 3) := by decide +kernel
theorem d_Fi_findElements_10 : decode b_Fi_findElements 10 = .ok (.iconst 0, 1) := by decide +kernel
theorem d_Fi_findElements_11 : decode b_Fi_findElements 11 = .ok (.istore 4, 2) := by decide +kernel
theorem d_Fi_findElements_13 : decode b_Fi_findElements 13 = .ok (.iload 4, 2) := by decide +kernel
theorem d_Fi_findElements_15 : decode b_Fi_findElements 15 = .ok (.sipush 200, 3) := by decide +kernel
theorem d_Fi_findElements_18 : decode b_Fi_findElements 18 = .ok (.if_icmp .ge 25, 3) := by decide +kernel
theorem d_Fi_findElements_21 : decode b_Fi_findElements 21 = .ok (.aload_n 0, 1) := by decide +kernel
theorem d_Fi_findElements_22 : decode b_Fi_findElements 22 = .ok (.getfield 36, 3) := by decide +kernel
theorem d_Fi_findElements_25 : decode b_Fi_findElements 25 = .ok (.aload_n 0, 1) := by decide +kernel
theorem d_Fi_findElements_26 : decode b_Fi_findElements 26 = .ok (.getfield 40, 3) := by decide +kernel
theorem d_Fi_findElements_29 : decode b_Fi_findElements 29 = .ok (.if_icmp .ge 14, 3) := by decide +kernel
theorem d_Fi_findElements_32 : decode b_Fi_findElements 32 = .ok (.aload_n 0, 1) := by decide +kernel
theorem d_Fi_findElements_33 : decode b_Fi_findElements 33 = .ok (.aload_n 3, 1) := by decide +kernel
theorem d_Fi_findElements_34 : decode b_Fi_findElements 34 = .ok (.invokevirtual 43, 3) := by decide +kernel
theorem d_Fi_findElements_37 : decode b_Fi_findElements 37 = .ok (.iinc 4 1, 3) := by decide +kernel
theorem d_Fi_findElements_40 : decode b_Fi_findElements 40 = .ok (.goto (-27), 3) := by decide +kernel
theorem d_Fi_findElements_43 : decode b_Fi_findElements 43 = .ok (.return_, 1) := by decide +kernel
theorem d_Fi_load_0 : decode b_Fi_load 0 = .ok (.aload_n 0, 1) := by decide +kernel
theorem d_Fi_load_1 : decode b_Fi_load 1 = .ok (.iconst 0, 1) := by decide +kernel
theorem d_Fi_load_2 : decode b_Fi_load 2 = .ok (.putfield 36, 3) := by decide +kernel
theorem d_Fi_load_5 : decode b_Fi_load 5 = .ok (.aload_n 0, 1) := by decide +kernel
theorem d_Fi_load_6 : decode b_Fi_load 6 = .ok (.aload_n 1, 1) := by decide +kernel
theorem d_Fi_load_7 : decode b_Fi_load 7 = .ok (.getfield 47, 3) := by decide +kernel
theorem d_Fi_load_10 : decode b_Fi_load 10 = .ok (.putfield 40, 3) := by decide +kernel
theorem d_Fi_load_13 : decode b_Fi_load 13 = .ok (.iconst 0, 1) := by decide +kernel
theorem d_Fi_load_14 : decode b_Fi_load 14 = .ok (.istore_n 2, 1) := by decide +kernel
theorem d_Fi_load_15 : decode b_Fi_load 15 = .ok (.iload_n 2, 1) := by decide +kernel
theorem d_Fi_load_16 : decode b_Fi_load 16 = .ok (.aload_n 0, 1) := by decide +kernel
theorem d_Fi_load_17 : decode b_Fi_load 17 = .ok (.getfield 40, 3) := by decide +kernel
theorem d_Fi_load_20 : decode b_Fi_load 20 = .ok (.if_icmp .ge 42, 3) := by decide +kernel
theorem d_Fi_load_23 : decode b_Fi_load 23 = .ok (.aload_n 0, 1) := by decide +kernel
theorem d_Fi_load_24 : decode b_Fi_load 24 = .ok (.getfield 9, 3) := by decide +kernel
theorem d_Fi_load_27 : decode b_Fi_load 27 = .ok (.iload_n 2, 1) := by decide +kernel
theorem d_Fi_load_28 : decode b_Fi_load 28 = .ok (.aload_n 1, 1) := by decide +kernel
theorem d_Fi_load_29 : decode b_Fi_load 29 = .ok (.getfield 52, 3) := by decide +kernel
theorem d_Fi_load_32 : decode b_Fi_load 32 = .ok (.iload_n 2, 1) := by decide +kernel
theorem d_Fi_load_33 : decode b_Fi_load 33 = .ok (.iaload, 1) := by decide +kernel
theorem d_Fi_load_34 : decode b_Fi_load 34 = .ok (.iastore, 1) := by decide +kernel
theorem d_Fi_load_35 : decode b_Fi_load 35 = .ok (.aload_n 0, 1) := by decide +kernel
theorem d_Fi_load_36 : decode b_Fi_load 36 = .ok (.getfield 15, 3) := by decide +kernel
theorem d_Fi_load_39 : decode b_Fi_load 39 = .ok (.iload_n 2, 1) := by decide +kernel
theorem d_Fi_load_40 : decode b_Fi_load 40 = .ok (.aload_n 0, 1) := by decide +kernel
theorem d_Fi_load_41 : decode b_Fi_load 41 = .ok (.getfield 18, 3) := by decide +kernel
theorem d_Fi_load_44 : decode b_Fi_load 44 = .ok (.aload_n 0, 1) := by decide +kernel
theorem d_Fi_load_45 : decode b_Fi_load 45 = .ok (.getfield 9, 3) := by decide +kernel
theorem d_Fi_load_48 : decode b_Fi_load 48 = .ok (.iload_n 2, 1) := by decide +kernel
theorem d_Fi_load_49 : decode b_Fi_load 49 = .ok (.iaload, 1) := by decide +kernel
theorem d_Fi_load_50 : decode b_Fi_load 50 = .ok (.i2l, 1) := by decide +kernel
theorem d_Fi_load_51 : decode b_Fi_load 51 = .ok (.iconst 0, 1) := by decide +kernel
theorem d_Fi_load_52 : decode b_Fi_load 52 = .ok (.invokevirtual 53, 3) := by decide +kernel
theorem d_Fi_load_55 : decode b_Fi_load 55 = .ok (.iastore, 1) := by decide +kernel
theorem d_Fi_load_56 : decode b_Fi_load 56 = .ok (.iinc 2 1, 3) := by decide +kernel
theorem d_Fi_load_59 : decode b_Fi_load 59 = .ok (.goto (-44), 3) := by decide +kernel
theorem d_Fi_load_62 : decode b_Fi_load 62 = .ok (.return_, 1) := by decide +kernel
theorem d_El_begin_0 : decode b_El_begin 0 = .ok (.aload_n 0, 1) := by decide +kernel
theorem d_El_begin_1 : decode b_El_begin 1 = .ok (.iconst 0, 1) := by decide +kernel
theorem d_El_begin_2 : decode b_El_begin 2 = .ok (.putfield 15, 3) := by decide +kernel
theorem d_El_begin_5 : decode b_El_begin 5 = .ok (.aload_n 0, 1) := by decide +kernel
theorem d_El_begin_6 : decode b_El_begin 6 = .ok (.iload_n 1, 1) := by decide +kernel
theorem d_El_begin_7 : decode b_El_begin 7 = .ok (.putfield 19, 3) := by decide +kernel
theorem d_El_begin_10 : decode b_El_begin 10 = .ok (.aload_n 0, 1) := by decide +kernel
theorem d_El_begin_11 : decode b_El_begin 11 = .ok (.iconst 0, 1) := by decide +kernel
theorem d_El_begin_12 : decode b_El_begin 12 = .ok (.putfield 23, 3) := by decide +kernel
theorem d_El_begin_15 : decode b_El_begin 15 = .ok (.return_, 1) := by decide +kernel
theorem d_Fi_takeNext_0 : decode b_Fi_takeNext 0 = .ok (.aload_n 0, 1) := by decide +kernel
theorem d_Fi_takeNext_1 : decode b_Fi_takeNext 1 = .ok (.invokevirtual 59, 3) := by decide +kernel
theorem d_Fi_takeNext_4 : decode b_Fi_takeNext 4 = .ok (.aload_n 0, 1) := by decide +kernel
theorem d_Fi_takeNext_5 : decode b_Fi_takeNext 5 = .ok (.getfield 62, 3) := by decide +kernel
theorem d_Fi_takeNext_8 : decode b_Fi_takeNext 8 = .ok (.ifnonnull 29, 3) := by decide +kernel
theorem d_Fi_takeNext_11 : decode b_Fi_takeNext 11 = .ok (.aload_n 1, 1) := by decide +kernel
theorem d_Fi_takeNext_12 : decode b_Fi_takeNext 12 = .ok (.aload_n 0, 1) := by decide +kernel
theorem d_Fi_takeNext_13 : decode b_Fi_takeNext 13 = .ok (.getfield 9, 3) := by decide +kernel
theorem d_Fi_takeNext_16 : decode b_Fi_takeNext 16 = .ok (.aload_n 0, 1) := by decide +kernel
theorem d_Fi_takeNext_17 : decode b_Fi_takeNext 17 = .ok (.getfield 36, 3) := by decide +kernel
theorem d_Fi_takeNext_20 : decode b_Fi_takeNext 20 = .ok (.iaload, 1) := by decide +kernel
theorem d_Fi_takeNext_21 : decode b_Fi_takeNext 21 = .ok (.invokevirtual 66, 3) := by decide +kernel
theorem d_Fi_takeNext_24 : decode b_Fi_takeNext 24 = .ok (.aload_n 0, 1) := by decide +kernel
theorem d_Fi_takeNext_25 : decode b_Fi_takeNext 25 = .ok (.dup, 1) := by decide +kernel
theorem d_Fi_takeNext_26 : decode b_Fi_takeNext 26 = .ok (.getfield 36, 3) := by decide +kernel
theorem d_Fi_takeNext_29 : decode b_Fi_takeNext 29 = .ok (.iconst 1, 1) := by decide +kernel
theorem d_Fi_takeNext_30 : decode b_Fi_takeNext 30 = .ok (.iadd, 1) := by decide +kernel
theorem d_Fi_takeNext_31 : decode b_Fi_takeNext 31 = .ok (.putfield 36, 3) := by decide +kernel
theorem d_Fi_takeNext_34 : decode b_Fi_takeNext 34 = .ok (.goto 28, 3) := by decide +kernel
theorem d_Fi_takeNext_37 : decode b_Fi_takeNext 37 = .ok (.aload_n 0, 1) := by decide +kernel
theorem d_Fi_takeNext_38 : decode b_Fi_takeNext 38 = .ok (.dup, 1) := by decide +kernel
theorem d_Fi_takeNext_39 : decode b_Fi_takeNext 39 = .ok (.getfield 36, 3) := by decide +kernel
theorem d_Fi_takeNext_42 : decode b_Fi_takeNext 42 = .ok (.aload_n 0, 1) := by decide +kernel
theorem d_Fi_takeNext_43 : decode b_Fi_takeNext 43 = .ok (.getfield 70, 3) := by decide +kernel
theorem d_Fi_takeNext_46 : decode b_Fi_takeNext 46 = .ok (.iadd, 1) := by decide +kernel
theorem d_Fi_takeNext_47 : decode b_Fi_takeNext 47 = .ok (.putfield 36, 3) := by decide +kernel
theorem d_Fi_takeNext_50 : decode b_Fi_takeNext 50 = .ok (.aload_n 0, 1) := by decide +kernel
theorem d_Fi_takeNext_51 : decode b_Fi_takeNext 51 = .ok (.invokevirtual 73, 3) := by decide +kernel
theorem d_Fi_takeNext_54 : decode b_Fi_takeNext 54 = .ok (.aload_n 1, 1) := by decide +kernel
theorem d_Fi_takeNext_55 : decode b_Fi_takeNext 55 = .ok (.aload_n 0, 1) := by decide +kernel
theorem d_Fi_takeNext_56 : decode b_Fi_takeNext 56 = .ok (.getfield 62, 3) := by decide +kernel
theorem d_Fi_takeNext_59 : decode b_Fi_takeNext 59 = .ok (.invokevirtual 76, 3) := by decide +kernel
theorem d_Fi_takeNext_62 : decode b_Fi_takeNext 62 = .ok (.return_, 1) := by decide +kernel
theorem d_Fi_seekBeginning_0 : decode b_Fi_seekBeginning 0 = .ok (.aload_n 0, 1) := by decide +kernel
theorem d_Fi_seekBeginning_1 : decode b_Fi_seekBeginning 1 = .ok (.aconst_null, 1) := by decide +kernel
theorem d_Fi_seekBeginning_2 : decode b_Fi_seekBeginning 2 = .ok (.putfield 62, 3) := by decide +kernel
theorem d_Fi_seekBeginning_5 : decode b_Fi_seekBeginning 5 = .ok (.lconst 0, 1) := by decide +kernel
theorem d_Fi_seekBeginning_6 : decode b_Fi_seekBeginning 6 = .ok (.lstore_n 1, 1) := by decide +kernel
theorem d_Fi_seekBeginning_7 : decode b_Fi_seekBeginning 7 = .ok (.iconst 1, 1) := by decide +kernel
theorem d_Fi_seekBeginning_8 : decode b_Fi_seekBeginning 8 = .ok (.istore_n 3, 1) := by decide +kernel
theorem d_Fi_seekBeginning_9 : decode b_Fi_seekBeginning 9 = .ok (.iload_n 3, 1) := by decide +kernel
theorem d_Fi_seekBeginning_10 : decode b_Fi_seekBeginning 10 = .ok (.iconst 3, 1) := by decide +kernel
theorem d_Fi_seekBeginning_11 : decode b_Fi_seekBeginning 11 = .ok (.if_icmp .gt 63, 3) := by decide +kernel
theorem d_Fi_seekBeginning_14 : decode b_Fi_seekBeginning 14 = .ok (.aload_n 0, 1) := by decide +kernel
theorem d_Fi_seekBeginning_15 : decode b_Fi_seekBeginning 15 = .ok (.getfield 36, 3) := by decide +kernel
theorem d_Fi_seekBeginning_18 : decode b_Fi_seekBeginning 18 = .ok (.iload_n 3, 1) := by decide +kernel
theorem d_Fi_seekBeginning_19 : decode b_Fi_seekBeginning 19 = .ok (.iadd, 1) := by decide +kernel
theorem d_Fi_seekBeginning_20 : decode b_Fi_seekBeginning 20 = .ok (.aload_n 0, 1) := by decide +kernel
theorem d_Fi_seekBeginning_21 : decode b_Fi_seekBeginning 21 = .ok (.getfield 40, 3) := by decide +kernel
theorem d_Fi_seekBeginning_24 : decode b_Fi_seekBeginning 24 = .ok (.if_icmp .gt 50, 3) := by decide +kernel
theorem d_Fi_seekBeginning_27 : decode b_Fi_seekBeginning 27 = .ok (.lload_n 1, 1) := by decide +kernel
theorem d_Fi_seekBeginning_28 : decode b_Fi_seekBeginning 28 = .ok (.aload_n 0, 1) := by decide +kernel
theorem d_Fi_seekBeginning_29 : decode b_Fi_seekBeginning 29 = .ok (.getfield 9, 3) := by decide +kernel
theorem d_Fi_seekBeginning_32 : decode b_Fi_seekBeginning 32 = .ok (.aload_n 0, 1) := by decide +kernel
theorem d_Fi_seekBeginning_33 : decode b_Fi_seekBeginning 33 = .ok (.getfield 36, 3) := by decide +kernel
theorem d_Fi_seekBeginning_36 : decode b_Fi_seekBeginning 36 = .ok (.iload_n 3, 1) := by decide +kernel
theorem d_Fi_seekBeginning_37 : decode b_Fi_seekBeginning 37 = .ok (.iadd, 1) := by decide +kernel
theorem d_Fi_seekBeginning_38 : decode b_Fi_seekBeginning 38 = .ok (.iconst 1, 1) := by decide +kernel
theorem d_Fi_seekBeginning_39 : decode b_Fi_seekBeginning 39 = .ok (.isub, 1) := by decide +kernel
theorem d_Fi_seekBeginning_40 : decode b_Fi_seekBeginning 40 = .ok (.iaload, 1) := by decide +kernel
theorem d_Fi_seekBeginning_41 : decode b_Fi_seekBeginning 41 = .ok (.invokestatic 80, 3) := by decide +kernel
theorem d_Fi_seekBeginning_44 : decode b_Fi_seekBeginning 44 = .ok (.lstore_n 1, 1) := by decide +kernel
theorem d_Fi_seekBeginning_45 : decode b_Fi_seekBeginning 45 = .ok (.aload_n 0, 1) := by decide +kernel
theorem d_Fi_seekBeginning_46 : decode b_Fi_seekBeginning 46 = .ok (.getfield 22, 3) := by decide +kernel
theorem d_Fi_seekBeginning_49 : decode b_Fi_seekBeginning 49 = .ok (.lload_n 1, 1) := by decide +kernel
theorem d_Fi_seekBeginning_50 : decode b_Fi_seekBeginning 50 = .ok (.invokevirtual 84, 3) := by decide +kernel
theorem d_Fi_seekBeginning_53 : decode b_Fi_seekBeginning 53 = .ok (.astore 4, 2) := by decide +kernel
theorem d_Fi_seekBeginning_55 : decode b_Fi_seekBeginning 55 = .ok (.aload 4, 2) := by decide +kernel
theorem d_Fi_seekBeginning_57 : decode b_Fi_seekBeginning 57 = .ok (.ifnull 11, 3) := by decide +kernel
theorem d_Fi_seekBeginning_60 : decode b_Fi_seekBeginning 60 = .ok (.aload_n 0, 1) := by decide +kernel
theorem d_Fi_seekBeginning_61 : decode b_Fi_seekBeginning 61 = .ok (.lload_n 1, 1) := by decide +kernel
theorem d_Fi_seekBeginning_62 : decode b_Fi_seekBeginning 62 = .ok (.iload_n 3, 1) := by decide +kernel
theorem d_Fi_seekBeginning_63 : decode b_Fi_seekBeginning 63 = .ok (.aload 4, 2) := by decide +kernel
theorem d_Fi_seekBeginning_65 : decode b_Fi_seekBeginning 65 = .ok (.invokevirtual 90, 3) := by decide +kernel
theorem d_Fi_seekBeginning_68 : decode b_Fi_seekBeginning 68 = .ok (.iinc 3 1, 3) := by decide +kernel
theorem d_Fi_seekBeginning_71 : decode b_Fi_seekBeginning 71 = .ok (.goto (-62), 3) := by decide +kernel
theorem d_Fi_seekBeginning_74 : decode b_Fi_seekBeginning 74 = .ok (.return_, 1) := by decide +kernel
theorem d_Fi_become_0 : decode b_Fi_become 0 = .ok (.aload_n 0, 1) := by decide +kernel
theorem d_Fi_become_1 : decode b_Fi_become 1 = .ok (.lload_n 1, 1) := by decide +kernel
theorem d_Fi_become_2 : decode b_Fi_become 2 = .ok (.putfield 94, 3) := by decide +kernel
theorem d_Fi_become_5 : decode b_Fi_become 5 = .ok (.aload_n 0, 1) := by decide +kernel
theorem d_Fi_become_6 : decode b_Fi_become 6 = .ok (.iload_n 3, 1) := by decide +kernel
theorem d_Fi_become_7 : decode b_Fi_become 7 = .ok (.putfield 70, 3) := by decide +kernel
theorem d_Fi_become_10 : decode b_Fi_become 10 = .ok (.aload_n 0, 1) := by decide +kernel
theorem d_Fi_become_11 : decode b_Fi_become 11 = .ok (.aload 4, 2) := by decide +kernel
theorem d_Fi_become_13 : decode b_Fi_become 13 = .ok (.putfield 62, 3) := by decide +kernel
theorem d_Fi_become_16 : decode b_Fi_become 16 = .ok (.return_, 1) := by decide +kernel
theorem d_El_appendImplicit_0 : decode b_El_appendImplicit 0 = .ok (.aload_n 0, 1) := by decide +kernel
theorem d_El_appendImplicit_1 : decode b_El_appendImplicit 1 = .ok (.ldc 42, 2) := by decide +kernel
theorem d_El_appendImplicit_3 : decode b_El_appendImplicit 3 = .ok (.iload_n 1, 1) := by decide +kernel
theorem d_El_appendImplicit_4 : decode b_El_appendImplicit 4 = .ok (.ldc 43, 2) := by decide +kernel
theorem d_El_appendImplicit_6 : decode b_El_appendImplicit 6 = .ok (.idiv, 1) := by decide +kernel
theorem d_El_appendImplicit_7 : decode b_El_appendImplicit 7 = .ok (.iadd, 1) := by decide +kernel
theorem d_El_appendImplicit_8 : decode b_El_appendImplicit 8 = .ok (.bipush 32, 2) := by decide +kernel
theorem d_El_appendImplicit_10 : decode b_El_appendImplicit 10 = .ok (.iconst 2, 1) := by decide +kernel
theorem d_El_appendImplicit_11 : decode b_El_appendImplicit 11 = .ok (.invokestatic 44, 3) := by decide +kernel
theorem d_El_appendImplicit_14 : decode b_El_appendImplicit 14 = .ok (.iconst 0, 1) := by decide +kernel
theorem d_El_appendImplicit_15 : decode b_El_appendImplicit 15 = .ok (.invokevirtual 38, 3) := by decide +kernel
theorem d_El_appendImplicit_18 : decode b_El_appendImplicit 18 = .ok (.aload_n 0, 1) := by decide +kernel
theorem d_El_appendImplicit_19 : decode b_El_appendImplicit 19 = .ok (.iload_n 1, 1) := by decide +kernel
theorem d_El_appendImplicit_20 : decode b_El_appendImplicit 20 = .ok (.ldc 43, 2) := by decide +kernel
theorem d_El_appendImplicit_22 : decode b_El_appendImplicit 22 = .ok (.irem, 1) := by decide +kernel
theorem d_El_appendImplicit_23 : decode b_El_appendImplicit 23 = .ok (.ldc 43, 2) := by decide +kernel
theorem d_El_appendImplicit_25 : decode b_El_appendImplicit 25 = .ok (.iadd, 1) := by decide +kernel
theorem d_El_appendImplicit_26 : decode b_El_appendImplicit 26 = .ok (.iconst 0, 1) := by decide +kernel
theorem d_El_appendImplicit_27 : decode b_El_appendImplicit 27 = .ok (.iconst 0, 1) := by decide +kernel
theorem d_El_appendImplicit_28 : decode b_El_appendImplicit 28 = .ok (.invokestatic 44, 3) := by decide +kernel
theorem d_El_appendImplicit_31 : decode b_El_appendImplicit 31 = .ok (.iconst 0, 1) := by decide +kernel
theorem d_El_appendImplicit_32 : decode b_El_appendImplicit 32 = .ok (.invokevirtual 38, 3) := by decide +kernel
theorem d_El_appendImplicit_35 : decode b_El_appendImplicit 35 = .ok (.return_, 1) := by decide +kernel
theorem d_El_append_0 : decode b_El_append 0 = .ok (.aload_n 0, 1) := by decide +kernel
theorem d_El_append_1 : decode b_El_append 1 = .ok (.getfield 15, 3) := by decide +kernel
theorem d_El_append_4 : decode b_El_append 4 = .ok (.aload_n 0, 1) := by decide +kernel
theorem d_El_append_5 : decode b_El_append 5 = .ok (.getfield 9, 3) := by decide +kernel
theorem d_El_append_8 : decode b_El_append 8 = .ok (.arraylength, 1) := by decide +kernel
theorem d_El_append_9 : decode b_El_append 9 = .ok (.if_icmp .ge 39, 3) := by decide +kernel
theorem d_El_append_12 : decode b_El_append 12 = .ok (.aload_n 0, 1) := by decide +kernel
theorem d_El_append_13 : decode b_El_append 13 = .ok (.getfield 9, 3) := by decide +kernel
theorem d_El_append_16 : decode b_El_append 16 = .ok (.aload_n 0, 1) := by decide +kernel
theorem d_El_append_17 : decode b_El_append 17 = .ok (.getfield 15, 3) := by decide +kernel
theorem d_El_append_20 : decode b_El_append 20 = .ok (.aload_n 0, 1) := by decide +kernel
theorem d_El_append_21 : decode b_El_append 21 = .ok (.getfield 19, 3) := by decide +kernel
theorem d_El_append_24 : decode b_El_append 24 = .ok (.ifCond .eq 12, 3) := by decide +kernel
theorem d_El_append_27 : decode b_El_append 27 = .ok (.aload_n 0, 1) := by decide +kernel
theorem d_El_append_28 : decode b_El_append 28 = .ok (.lload_n 1, 1) := by decide +kernel
theorem d_El_append_29 : decode b_El_append 29 = .ok (.iload_n 3, 1) := by decide +kernel
theorem d_El_append_30 : decode b_El_append 30 = .ok (.invokevirtual 26, 3) := by decide +kernel
theorem d_El_append_33 : decode b_El_append 33 = .ok (.goto 4, 3) := by decide +kernel
theorem d_El_append_36 : decode b_El_append 36 = .ok (.lload_n 1, 1) := by decide +kernel
theorem d_El_append_37 : decode b_El_append 37 = .ok (.lastore, 1) := by decide +kernel
theorem d_El_append_38 : decode b_El_append 38 = .ok (.aload_n 0, 1) := by decide +kernel
theorem d_El_append_39 : decode b_El_append 39 = .ok (.dup, 1) := by decide +kernel
theorem d_El_append_40 : decode b_El_append 40 = .ok (.getfield 15, 3) := by decide +kernel
theorem d_El_append_43 : decode b_El_append 43 = .ok (.iconst 1, 1) := by decide +kernel
theorem d_El_append_44 : decode b_El_append 44 = .ok (.iadd, 1) := by decide +kernel
theorem d_El_append_45 : decode b_El_append 45 = .ok (.putfield 15, 3) := by decide +kernel
theorem d_El_append_48 : decode b_El_append 48 = .ok (.return_, 1) := by decide +kernel
theorem d_El_shift_0 : decode b_El_shift 0 = .ok (.lload_n 1, 1) := by decide +kernel
theorem d_El_shift_1 : decode b_El_shift 1 = .ok (.iconst 0, 1) := by decide +kernel
theorem d_El_shift_2 : decode b_El_shift 2 = .ok (.invokestatic 48, 3) := by decide +kernel
theorem d_El_shift_5 : decode b_El_shift 5 = .ok (.istore 4, 2) := by decide +kernel
theorem d_El_shift_7 : decode b_El_shift 7 = .ok (.iload 4, 2) := by decide +kernel
theorem d_El_shift_9 : decode b_El_shift 9 = .ok (.ifCond .le 24, 3) := by decide +kernel
theorem d_El_shift_12 : decode b_El_shift 12 = .ok (.aload_n 0, 1) := by decide +kernel
theorem d_El_shift_13 : decode b_El_shift 13 = .ok (.iload_n 3, 1) := by decide +kernel
theorem d_El_shift_14 : decode b_El_shift 14 = .ok (.putfield 23, 3) := by decide +kernel
theorem d_El_shift_17 : decode b_El_shift 17 = .ok (.iload_n 3, 1) := by decide +kernel
theorem d_El_shift_18 : decode b_El_shift 18 = .ok (.ifCond .eq 9, 3) := by decide +kernel
theorem d_El_shift_21 : decode b_El_shift 21 = .ok (.iload 4, 2) := by decide +kernel
theorem d_El_shift_23 : decode b_El_shift 23 = .ok (.i2l, 1) := by decide +kernel
theorem d_El_shift_24 : decode b_El_shift 24 = .ok (.goto 8, 3) := by decide +kernel
theorem d_El_shift_27 : decode b_El_shift 27 = .ok (.lload_n 1, 1) := by decide +kernel
theorem d_El_shift_28 : decode b_El_shift 28 = .ok (.ldc2_w 52, 3) := by decide +kernel
theorem d_El_shift_31 : decode b_El_shift 31 = .ok (.lor, 1) := by decide +kernel
theorem d_El_shift_32 : decode b_El_shift 32 = .ok (.lreturn, 1) := by decide +kernel
theorem d_El_shift_33 : decode b_El_shift 33 = .ok (.aload_n 0, 1) := by decide +kernel
theorem d_El_shift_34 : decode b_El_shift 34 = .ok (.getfield 23, 3) := by decide +kernel
theorem d_El_shift_37 : decode b_El_shift 37 = .ok (.ifCond .ne 9, 3) := by decide +kernel
theorem d_El_shift_40 : decode b_El_shift 40 = .ok (.lload_n 1, 1) := by decide +kernel
theorem d_El_shift_41 : decode b_El_shift 41 = .ok (.lconst 0, 1) := by decide +kernel
theorem d_El_shift_42 : decode b_El_shift 42 = .ok (.lcmp, 1) := by decide +kernel
theorem d_El_shift_43 : decode b_El_shift 43 = .ok (.ifCond .ne 7, 3) := by decide +kernel
theorem d_El_shift_46 : decode b_El_shift 46 = .ok (.lconst 0, 1) := by decide +kernel
theorem d_El_shift_47 : decode b_El_shift 47 = .ok (.goto 8, 3) := by decide +kernel
theorem d_El_shift_50 : decode b_El_shift 50 = .ok (.lload_n 1, 1) := by decide +kernel
theorem d_El_shift_51 : decode b_El_shift 51 = .ok (.ldc2_w 52, 3) := by decide +kernel
theorem d_El_shift_54 : decode b_El_shift 54 = .ok (.lor, 1) := by decide +kernel
theorem d_El_shift_55 : decode b_El_shift 55 = .ok (.lreturn, 1) := by decide +kernel
theorem d_Wo_weightOf_0 : decode b_Wo_weightOf 0 = .ok (.lload_n 0, 1) := by decide +kernel
theorem d_Wo_weightOf_1 : decode b_Wo_weightOf 1 = .ok (.bipush 48, 2) := by decide +kernel
theorem d_Wo_weightOf_3 : decode b_Wo_weightOf 3 = .ok (.bipush 16, 2) := by decide +kernel
theorem d_Wo_weightOf_5 : decode b_Wo_weightOf 5 = .ok (.iload_n 2, 1) := by decide +kernel
theorem d_Wo_weightOf_6 : decode b_Wo_weightOf 6 = .ok (.imul, 1) := by decide +kernel
theorem d_Wo_weightOf_7 : decode b_Wo_weightOf 7 = .ok (.isub, 1) := by decide +kernel
theorem d_Wo_weightOf_8 : decode b_Wo_weightOf 8 = .ok (.lushr, 1) := by decide +kernel
theorem d_Wo_weightOf_9 : decode b_Wo_weightOf 9 = .ok (.l2i, 1) := by decide +kernel
theorem d_Wo_weightOf_10 : decode b_Wo_weightOf 10 = .ok (.ldc 90, 2) := by decide +kernel
theorem d_Wo_weightOf_12 : decode b_Wo_weightOf 12 = .ok (.iand, 1) := by decide +kernel
theorem d_Wo_weightOf_13 : decode b_Wo_weightOf 13 = .ok (.ireturn, 1) := by decide +kernel
theorem d_Fi_seekBehind_0 : decode b_Fi_seekBehind 0 = .ok (.iconst 0, 1) := by decide +kernel
theorem d_Fi_seekBehind_1 : decode b_Fi_seekBehind 1 = .ok (.istore_n 1, 1) := by decide +kernel
theorem d_Fi_seekBehind_2 : decode b_Fi_seekBehind 2 = .ok (.aload_n 0, 1) := by decide +kernel
theorem d_Fi_seekBehind_3 : decode b_Fi_seekBehind 3 = .ok (.getfield 36, 3) := by decide +kernel
theorem d_Fi_seekBehind_6 : decode b_Fi_seekBehind 6 = .ok (.istore_n 2, 1) := by decide +kernel
theorem d_Fi_seekBehind_7 : decode b_Fi_seekBehind 7 = .ok (.iload_n 2, 1) := by decide +kernel
theorem d_Fi_seekBehind_8 : decode b_Fi_seekBehind 8 = .ok (.aload_n 0, 1) := by decide +kernel
theorem d_Fi_seekBehind_9 : decode b_Fi_seekBehind 9 = .ok (.getfield 40, 3) := by decide +kernel
theorem d_Fi_seekBehind_12 : decode b_Fi_seekBehind 12 = .ok (.if_icmp .ge 106, 3) := by decide +kernel
theorem d_Fi_seekBehind_15 : decode b_Fi_seekBehind 15 = .ok (.aload_n 0, 1) := by decide +kernel
theorem d_Fi_seekBehind_16 : decode b_Fi_seekBehind 16 = .ok (.getfield 15, 3) := by decide +kernel
theorem d_Fi_seekBehind_19 : decode b_Fi_seekBehind 19 = .ok (.iload_n 2, 1) := by decide +kernel
theorem d_Fi_seekBehind_20 : decode b_Fi_seekBehind 20 = .ok (.iaload, 1) := by decide +kernel
theorem d_Fi_seekBehind_21 : decode b_Fi_seekBehind 21 = .ok (.ifCond .le 97, 3) := by decide +kernel
theorem d_Fi_seekBehind_24 : decode b_Fi_seekBehind 24 = .ok (.aload_n 0, 1) := by decide +kernel
theorem d_Fi_seekBehind_25 : decode b_Fi_seekBehind 25 = .ok (.getfield 70, 3) := by decide +kernel
theorem d_Fi_seekBehind_28 : decode b_Fi_seekBehind 28 = .ok (.iconst 3, 1) := by decide +kernel
theorem d_Fi_seekBehind_29 : decode b_Fi_seekBehind 29 = .ok (.if_icmp .ge 89, 3) := by decide +kernel
theorem d_Fi_seekBehind_32 : decode b_Fi_seekBehind 32 = .ok (.aconst_null, 1) := by decide +kernel
theorem d_Fi_seekBehind_33 : decode b_Fi_seekBehind 33 = .ok (.astore_n 3, 1) := by decide +kernel
theorem d_Fi_seekBehind_34 : decode b_Fi_seekBehind 34 = .ok (.aload_n 0, 1) := by decide +kernel
theorem d_Fi_seekBehind_35 : decode b_Fi_seekBehind 35 = .ok (.getfield 15, 3) := by decide +kernel
theorem d_Fi_seekBehind_38 : decode b_Fi_seekBehind 38 = .ok (.iload_n 2, 1) := by decide +kernel
theorem d_Fi_seekBehind_39 : decode b_Fi_seekBehind 39 = .ok (.iaload, 1) := by decide +kernel
theorem d_Fi_seekBehind_40 : decode b_Fi_seekBehind 40 = .ok (.iload_n 1, 1) := by decide +kernel
theorem d_Fi_seekBehind_41 : decode b_Fi_seekBehind 41 = .ok (.if_icmp .le 24, 3) := by decide +kernel
theorem d_Fi_seekBehind_44 : decode b_Fi_seekBehind 44 = .ok (.aload_n 0, 1) := by decide +kernel
theorem d_Fi_seekBehind_45 : decode b_Fi_seekBehind 45 = .ok (.getfield 22, 3) := by decide +kernel
theorem d_Fi_seekBehind_48 : decode b_Fi_seekBehind 48 = .ok (.aload_n 0, 1) := by decide +kernel
theorem d_Fi_seekBehind_49 : decode b_Fi_seekBehind 49 = .ok (.getfield 94, 3) := by decide +kernel
theorem d_Fi_seekBehind_52 : decode b_Fi_seekBehind 52 = .ok (.aload_n 0, 1) := by decide +kernel
theorem d_Fi_seekBehind_53 : decode b_Fi_seekBehind 53 = .ok (.getfield 9, 3) := by decide +kernel
theorem d_Fi_seekBehind_56 : decode b_Fi_seekBehind 56 = .ok (.iload_n 2, 1) := by decide +kernel
theorem d_Fi_seekBehind_57 : decode b_Fi_seekBehind 57 = .ok (.iaload, 1) := by decide +kernel
theorem d_Fi_seekBehind_58 : decode b_Fi_seekBehind 58 = .ok (.invokestatic 80, 3) := by decide +kernel
theorem d_Fi_seekBehind_61 : decode b_Fi_seekBehind 61 = .ok (.invokevirtual 84, 3) := by decide +kernel
theorem d_Fi_seekBehind_64 : decode b_Fi_seekBehind 64 = .ok (.astore_n 3, 1) := by decide +kernel
theorem d_Fi_seekBehind_65 : decode b_Fi_seekBehind 65 = .ok (.aload_n 3, 1) := by decide +kernel
theorem d_Fi_seekBehind_66 : decode b_Fi_seekBehind 66 = .ok (.ifnonnull 17, 3) := by decide +kernel
theorem d_Fi_seekBehind_69 : decode b_Fi_seekBehind 69 = .ok (.iload_n 1, 1) := by decide +kernel
theorem d_Fi_seekBehind_70 : decode b_Fi_seekBehind 70 = .ok (.aload_n 0, 1) := by decide +kernel
theorem d_Fi_seekBehind_71 : decode b_Fi_seekBehind 71 = .ok (.getfield 15, 3) := by decide +kernel
theorem d_Fi_seekBehind_74 : decode b_Fi_seekBehind 74 = .ok (.iload_n 2, 1) := by decide +kernel
theorem d_Fi_seekBehind_75 : decode b_Fi_seekBehind 75 = .ok (.iaload, 1) := by decide +kernel
theorem d_Fi_seekBehind_76 : decode b_Fi_seekBehind 76 = .ok (.invokestatic 98, 3) := by decide +kernel
theorem d_Fi_seekBehind_79 : decode b_Fi_seekBehind 79 = .ok (.istore_n 1, 1) := by decide +kernel
theorem d_Fi_seekBehind_80 : decode b_Fi_seekBehind 80 = .ok (.goto 32, 3) := by decide +kernel
theorem d_Fi_seekBehind_83 : decode b_Fi_seekBehind 83 = .ok (.aload_n 0, 1) := by decide +kernel
theorem d_Fi_seekBehind_84 : decode b_Fi_seekBehind 84 = .ok (.aload_n 0, 1) := by decide +kernel
theorem d_Fi_seekBehind_85 : decode b_Fi_seekBehind 85 = .ok (.getfield 94, 3) := by decide +kernel
theorem d_Fi_seekBehind_88 : decode b_Fi_seekBehind 88 = .ok (.aload_n 0, 1) := by decide +kernel
theorem d_Fi_seekBehind_89 : decode b_Fi_seekBehind 89 = .ok (.getfield 9, 3) := by decide +kernel
theorem d_Fi_seekBehind_92 : decode b_Fi_seekBehind 92 = .ok (.iload_n 2, 1) := by decide +kernel
theorem d_Fi_seekBehind_93 : decode b_Fi_seekBehind 93 = .ok (.iaload, 1) := by decide +kernel
theorem d_Fi_seekBehind_94 : decode b_Fi_seekBehind 94 = .ok (.invokestatic 80, 3) := by decide +kernel
theorem d_Fi_seekBehind_97 : decode b_Fi_seekBehind 97 = .ok (.aload_n 0, 1) := by decide +kernel
theorem d_Fi_seekBehind_98 : decode b_Fi_seekBehind 98 = .ok (.getfield 70, 3) := by decide +kernel
theorem d_Fi_seekBehind_101 : decode b_Fi_seekBehind 101 = .ok (.iconst 1, 1) := by decide +kernel
theorem d_Fi_seekBehind_102 : decode b_Fi_seekBehind 102 = .ok (.iadd, 1) := by decide +kernel
theorem d_Fi_seekBehind_103 : decode b_Fi_seekBehind 103 = .ok (.aload_n 3, 1) := by decide +kernel
theorem d_Fi_seekBehind_104 : decode b_Fi_seekBehind 104 = .ok (.invokevirtual 90, 3) := by decide +kernel
theorem d_Fi_seekBehind_107 : decode b_Fi_seekBehind 107 = .ok (.aload_n 0, 1) := by decide +kernel
theorem d_Fi_seekBehind_108 : decode b_Fi_seekBehind 108 = .ok (.iload_n 2, 1) := by decide +kernel
theorem d_Fi_seekBehind_109 : decode b_Fi_seekBehind 109 = .ok (.invokevirtual 104, 3) := by decide +kernel
theorem d_Fi_seekBehind_112 : decode b_Fi_seekBehind 112 = .ok (.iinc 2 1, 3) := by decide +kernel
theorem d_Fi_seekBehind_115 : decode b_Fi_seekBehind 115 = .ok (.goto (-108), 3) := by decide +kernel
theorem d_Fi_seekBehind_118 : decode b_Fi_seekBehind 118 = .ok (.return_, 1) := by decide +kernel
theorem d_Ma_max_0 : decode b_Ma_max 0 = .ok (.iload_n 0, 1) := by decide +kernel
theorem d_Ma_max_1 : decode b_Ma_max 1 = .ok (.iload_n 1, 1) := by decide +kernel
theorem d_Ma_max_2 : decode b_Ma_max 2 = .ok (.if_icmp .lt 7, 3) := by decide +kernel
theorem d_Ma_max_5 : decode b_Ma_max 5 = .ok (.iload_n 0, 1) := by decide +kernel
theorem d_Ma_max_6 : decode b_Ma_max 6 = .ok (.goto 4, 3) := by decide +kernel
theorem d_Ma_max_9 : decode b_Ma_max 9 = .ok (.iload_n 1, 1) := by decide +kernel
theorem d_Ma_max_10 : decode b_Ma_max 10 = .ok (.ireturn, 1) := by decide +kernel
theorem d_Fi_closeGap_0 : decode b_Fi_closeGap 0 = .ok (.aload_n 0, 1) := by decide +kernel
theorem d_Fi_closeGap_1 : decode b_Fi_closeGap 1 = .ok (.getfield 9, 3) := by decide +kernel
theorem d_Fi_closeGap_4 : decode b_Fi_closeGap 4 = .ok (.aload_n 0, 1) := by decide +kernel
theorem d_Fi_closeGap_5 : decode b_Fi_closeGap 5 = .ok (.getfield 36, 3) := by decide +kernel
theorem d_Fi_closeGap_8 : decode b_Fi_closeGap 8 = .ok (.aload_n 0, 1) := by decide +kernel
theorem d_Fi_closeGap_9 : decode b_Fi_closeGap 9 = .ok (.getfield 9, 3) := by decide +kernel
theorem d_Fi_closeGap_12 : decode b_Fi_closeGap 12 = .ok (.aload_n 0, 1) := by decide +kernel
theorem d_Fi_closeGap_13 : decode b_Fi_closeGap 13 = .ok (.getfield 36, 3) := by decide +kernel
theorem d_Fi_closeGap_16 : decode b_Fi_closeGap 16 = .ok (.iconst 1, 1) := by decide +kernel
theorem d_Fi_closeGap_17 : decode b_Fi_closeGap 17 = .ok (.iadd, 1) := by decide +kernel
theorem d_Fi_closeGap_18 : decode b_Fi_closeGap 18 = .ok (.iload_n 1, 1) := by decide +kernel
theorem d_Fi_closeGap_19 : decode b_Fi_closeGap 19 = .ok (.aload_n 0, 1) := by decide +kernel
theorem d_Fi_closeGap_20 : decode b_Fi_closeGap 20 = .ok (.getfield 36, 3) := by decide +kernel
theorem d_Fi_closeGap_23 : decode b_Fi_closeGap 23 = .ok (.isub, 1) := by decide +kernel
theorem d_Fi_closeGap_24 : decode b_Fi_closeGap 24 = .ok (.invokestatic 107, 3) := by decide +kernel
theorem d_Fi_closeGap_27 : decode b_Fi_closeGap 27 = .ok (.aload_n 0, 1) := by decide +kernel
theorem d_Fi_closeGap_28 : decode b_Fi_closeGap 28 = .ok (.getfield 15, 3) := by decide +kernel
theorem d_Fi_closeGap_31 : decode b_Fi_closeGap 31 = .ok (.aload_n 0, 1) := by decide +kernel
theorem d_Fi_closeGap_32 : decode b_Fi_closeGap 32 = .ok (.getfield 36, 3) := by decide +kernel
theorem d_Fi_closeGap_35 : decode b_Fi_closeGap 35 = .ok (.aload_n 0, 1) := by decide +kernel
theorem d_Fi_closeGap_36 : decode b_Fi_closeGap 36 = .ok (.getfield 15, 3) := by decide +kernel
theorem d_Fi_closeGap_39 : decode b_Fi_closeGap 39 = .ok (.aload_n 0, 1) := by decide +kernel
theorem d_Fi_closeGap_40 : decode b_Fi_closeGap 40 = .ok (.getfield 36, 3) := by decide +kernel
theorem d_Fi_closeGap_43 : decode b_Fi_closeGap 43 = .ok (.iconst 1, 1) := by decide +kernel
theorem d_Fi_closeGap_44 : decode b_Fi_closeGap 44 = .ok (.iadd, 1) := by decide +kernel
theorem d_Fi_closeGap_45 : decode b_Fi_closeGap 45 = .ok (.iload_n 1, 1) := by decide +kernel
theorem d_Fi_closeGap_46 : decode b_Fi_closeGap 46 = .ok (.aload_n 0, 1) := by decide +kernel
theorem d_Fi_closeGap_47 : decode b_Fi_closeGap 47 = .ok (.getfield 36, 3) := by decide +kernel
theorem d_Fi_closeGap_50 : decode b_Fi_closeGap 50 = .ok (.isub, 1) := by decide +kernel
theorem d_Fi_closeGap_51 : decode b_Fi_closeGap 51 = .ok (.invokestatic 107, 3) := by decide +kernel
theorem d_Fi_closeGap_54 : decode b_Fi_closeGap 54 = .ok (.aload_n 0, 1) := by decide +kernel
theorem d_Fi_closeGap_55 : decode b_Fi_closeGap 55 = .ok (.dup, 1) := by decide +kernel
theorem d_Fi_closeGap_56 : decode b_Fi_closeGap 56 = .ok (.getfield 36, 3) := by decide +kernel
theorem d_Fi_closeGap_59 : decode b_Fi_closeGap 59 = .ok (.iconst 1, 1) := by decide +kernel
theorem d_Fi_closeGap_60 : decode b_Fi_closeGap 60 = .ok (.iadd, 1) := by decide +kernel
theorem d_Fi_closeGap_61 : decode b_Fi_closeGap 61 = .ok (.putfield 36, 3) := by decide +kernel
theorem d_Fi_closeGap_64 : decode b_Fi_closeGap 64 = .ok (.return_, 1) := by decide +kernel
theorem d_El_appendLine_0 : decode b_El_appendLine 0 = .ok (.iconst 0, 1) := by decide +kernel
theorem d_El_appendLine_1 : decode b_El_appendLine 1 = .ok (.istore_n 2, 1) := by decide +kernel
theorem d_El_appendLine_2 : decode b_El_appendLine 2 = .ok (.iload_n 2, 1) := by decide +kernel
theorem d_El_appendLine_3 : decode b_El_appendLine 3 = .ok (.aload_n 1, 1) := by decide +kernel
theorem d_El_appendLine_4 : decode b_El_appendLine 4 = .ok (.getfield 30, 3) := by decide +kernel
theorem d_El_appendLine_7 : decode b_El_appendLine 7 = .ok (.if_icmp .ge 25, 3) := by decide +kernel
theorem d_El_appendLine_10 : decode b_El_appendLine 10 = .ok (.aload_n 0, 1) := by decide +kernel
theorem d_El_appendLine_11 : decode b_El_appendLine 11 = .ok (.aload_n 1, 1) := by decide +kernel
theorem d_El_appendLine_12 : decode b_El_appendLine 12 = .ok (.getfield 33, 3) := by decide +kernel
theorem d_El_appendLine_15 : decode b_El_appendLine 15 = .ok (.iload_n 2, 1) := by decide +kernel
theorem d_El_appendLine_16 : decode b_El_appendLine 16 = .ok (.laload, 1) := by decide +kernel
theorem d_El_appendLine_17 : decode b_El_appendLine 17 = .ok (.aload_n 1, 1) := by decide +kernel
theorem d_El_appendLine_18 : decode b_El_appendLine 18 = .ok (.getfield 34, 3) := by decide +kernel
theorem d_El_appendLine_21 : decode b_El_appendLine 21 = .ok (.iload_n 2, 1) := by decide +kernel
theorem d_El_appendLine_22 : decode b_El_appendLine 22 = .ok (.baload, 1) := by decide +kernel
theorem d_El_appendLine_23 : decode b_El_appendLine 23 = .ok (.invokevirtual 38, 3) := by decide +kernel
theorem d_El_appendLine_26 : decode b_El_appendLine 26 = .ok (.iinc 2 1, 3) := by decide +kernel
theorem d_El_appendLine_29 : decode b_El_appendLine 29 = .ok (.goto (-27), 3) := by decide +kernel
theorem d_El_appendLine_32 : decode b_El_appendLine 32 = .ok (.return_, 1) := by decide +kernel
theorem d_Wo_weight_0 : decode b_Wo_weight 0 = .ok (.iload_n 1, 1) := by decide +kernel
theorem d_Wo_weight_1 : decode b_Wo_weight 1 = .ok (.iconst 3, 1) := by decide +kernel
theorem d_Wo_weight_2 : decode b_Wo_weight 2 = .ok (.invokestatic 52, 3) := by decide +kernel
theorem d_Wo_weight_5 : decode b_Wo_weight 5 = .ok (.ifCond .eq 12, 3) := by decide +kernel
theorem d_Wo_weight_8 : decode b_Wo_weight 8 = .ok (.iload 4, 2) := by decide +kernel
theorem d_Wo_weight_10 : decode b_Wo_weight 10 = .ok (.iconst 3, 1) := by decide +kernel
theorem d_Wo_weight_11 : decode b_Wo_weight 11 = .ok (.invokestatic 52, 3) := by decide +kernel
theorem d_Wo_weight_14 : decode b_Wo_weight 14 = .ok (.ifCond .ne 11, 3) := by decide +kernel
theorem d_Wo_weight_17 : decode b_Wo_weight 17 = .ok (.new 56, 3) := by decide +kernel
theorem d_Wo_weight_20 : decode b_Wo_weight 20 = .ok (.dup, 1) := by decide +kernel
theorem d_Wo_weight_21 : decode b_Wo_weight 21 = .ok (.invokespecial 58, 3) := by decide +kernel
theorem d_Wo_weight_24 : decode b_Wo_weight 24 = .ok (.athrow, 1) := by decide +kernel
theorem d_Wo_weight_25 : decode b_Wo_weight 25 = .ok (.aload_n 0, 1) := by decide +kernel
theorem d_Wo_weight_26 : decode b_Wo_weight 26 = .ok (.getfield 37, 3) := by decide +kernel
theorem d_Wo_weight_29 : decode b_Wo_weight 29 = .ok (.aload_n 0, 1) := by decide +kernel
theorem d_Wo_weight_30 : decode b_Wo_weight 30 = .ok (.getfield 28, 3) := by decide +kernel
theorem d_Wo_weight_33 : decode b_Wo_weight 33 = .ok (.iload_n 1, 1) := by decide +kernel
theorem d_Wo_weight_34 : decode b_Wo_weight 34 = .ok (.aaload, 1) := by decide +kernel
theorem d_Wo_weight_35 : decode b_Wo_weight 35 = .ok (.iload_n 2, 1) := by decide +kernel
theorem d_Wo_weight_36 : decode b_Wo_weight 36 = .ok (.aload_n 0, 1) := by decide +kernel
theorem d_Wo_weight_37 : decode b_Wo_weight 37 = .ok (.getfield 44, 3) := by decide +kernel
theorem d_Wo_weight_40 : decode b_Wo_weight 40 = .ok (.invokevirtual 111, 3) := by decide +kernel
theorem d_Wo_weight_43 : decode b_Wo_weight 43 = .ok (.iload_n 3, 1) := by decide +kernel
theorem d_Wo_weight_44 : decode b_Wo_weight 44 = .ok (.aload_n 0, 1) := by decide +kernel
theorem d_Wo_weight_45 : decode b_Wo_weight 45 = .ok (.getfield 44, 3) := by decide +kernel
theorem d_Wo_weight_48 : decode b_Wo_weight 48 = .ok (.getfield 115, 3) := by decide +kernel
theorem d_Wo_weight_51 : decode b_Wo_weight 51 = .ok (.iconst 1, 1) := by decide +kernel
theorem d_Wo_weight_52 : decode b_Wo_weight 52 = .ok (.isub, 1) := by decide +kernel
theorem d_Wo_weight_53 : decode b_Wo_weight 53 = .ok (.invokestatic 52, 3) := by decide +kernel
theorem d_Wo_weight_56 : decode b_Wo_weight 56 = .ok (.ifCond .ne 11, 3) := by decide +kernel
theorem d_Wo_weight_59 : decode b_Wo_weight 59 = .ok (.new 56, 3) := by decide +kernel
theorem d_Wo_weight_62 : decode b_Wo_weight 62 = .ok (.dup, 1) := by decide +kernel
theorem d_Wo_weight_63 : decode b_Wo_weight 63 = .ok (.invokespecial 58, 3) := by decide +kernel
theorem d_Wo_weight_66 : decode b_Wo_weight 66 = .ok (.athrow, 1) := by decide +kernel
theorem d_Wo_weight_67 : decode b_Wo_weight 67 = .ok (.aload_n 0, 1) := by decide +kernel
theorem d_Wo_weight_68 : decode b_Wo_weight 68 = .ok (.getfield 44, 3) := by decide +kernel
theorem d_Wo_weight_71 : decode b_Wo_weight 71 = .ok (.getfield 116, 3) := by decide +kernel
theorem d_Wo_weight_74 : decode b_Wo_weight 74 = .ok (.iload_n 3, 1) := by decide +kernel
theorem d_Wo_weight_75 : decode b_Wo_weight 75 = .ok (.laload, 1) := by decide +kernel
theorem d_Wo_weight_76 : decode b_Wo_weight 76 = .ok (.iload 4, 2) := by decide +kernel
theorem d_Wo_weight_78 : decode b_Wo_weight 78 = .ok (.invokestatic 120, 3) := by decide +kernel
theorem d_Wo_weight_81 : decode b_Wo_weight 81 = .ok (.ireturn, 1) := by decide +kernel
theorem d_Wo_compare_0 : decode b_Wo_compare 0 = .ok (.iload_n 1, 1) := by decide +kernel
theorem d_Wo_compare_1 : decode b_Wo_compare 1 = .ok (.iconst 3, 1) := by decide +kernel
theorem d_Wo_compare_2 : decode b_Wo_compare 2 = .ok (.invokestatic 52, 3) := by decide +kernel
theorem d_Wo_compare_5 : decode b_Wo_compare 5 = .ok (.ifCond .eq 21, 3) := by decide +kernel
theorem d_Wo_compare_8 : decode b_Wo_compare 8 = .ok (.iload_n 2, 1) := by decide +kernel
theorem d_Wo_compare_9 : decode b_Wo_compare 9 = .ok (.iconst 3, 1) := by decide +kernel
theorem d_Wo_compare_10 : decode b_Wo_compare 10 = .ok (.invokestatic 52, 3) := by decide +kernel
theorem d_Wo_compare_13 : decode b_Wo_compare 13 = .ok (.ifCond .eq 13, 3) := by decide +kernel
theorem d_Wo_compare_16 : decode b_Wo_compare 16 = .ok (.iload_n 3, 1) := by decide +kernel
theorem d_Wo_compare_17 : decode b_Wo_compare 17 = .ok (.iconst 1, 1) := by decide +kernel
theorem d_Wo_compare_18 : decode b_Wo_compare 18 = .ok (.if_icmp .lt 8, 3) := by decide +kernel
theorem d_Wo_compare_21 : decode b_Wo_compare 21 = .ok (.iload_n 3, 1) := by decide +kernel
theorem d_Wo_compare_22 : decode b_Wo_compare 22 = .ok (.iconst 4, 1) := by decide +kernel
theorem d_Wo_compare_23 : decode b_Wo_compare 23 = .ok (.if_icmp .le 11, 3) := by decide +kernel
theorem d_Wo_compare_26 : decode b_Wo_compare 26 = .ok (.new 56, 3) := by decide +kernel
theorem d_Wo_compare_29 : decode b_Wo_compare 29 = .ok (.dup, 1) := by decide +kernel
theorem d_Wo_compare_30 : decode b_Wo_compare 30 = .ok (.invokespecial 58, 3) := by decide +kernel
theorem d_Wo_compare_33 : decode b_Wo_compare 33 = .ok (.athrow, 1) := by decide +kernel
theorem d_Wo_compare_34 : decode b_Wo_compare 34 = .ok (.aload_n 0, 1) := by decide +kernel
theorem d_Wo_compare_35 : decode b_Wo_compare 35 = .ok (.getfield 37, 3) := by decide +kernel
theorem d_Wo_compare_38 : decode b_Wo_compare 38 = .ok (.aload_n 0, 1) := by decide +kernel
theorem d_Wo_compare_39 : decode b_Wo_compare 39 = .ok (.getfield 28, 3) := by decide +kernel
theorem d_Wo_compare_42 : decode b_Wo_compare 42 = .ok (.iload_n 1, 1) := by decide +kernel
theorem d_Wo_compare_43 : decode b_Wo_compare 43 = .ok (.aaload, 1) := by decide +kernel
theorem d_Wo_compare_44 : decode b_Wo_compare 44 = .ok (.iload 4, 2) := by decide +kernel
theorem d_Wo_compare_46 : decode b_Wo_compare 46 = .ok (.aload_n 0, 1) := by decide +kernel
theorem d_Wo_compare_47 : decode b_Wo_compare 47 = .ok (.getfield 44, 3) := by decide +kernel
theorem d_Wo_compare_50 : decode b_Wo_compare 50 = .ok (.invokevirtual 111, 3) := by decide +kernel
theorem d_Wo_compare_53 : decode b_Wo_compare 53 = .ok (.aload_n 0, 1) := by decide +kernel
theorem d_Wo_compare_54 : decode b_Wo_compare 54 = .ok (.getfield 37, 3) := by decide +kernel
theorem d_Wo_compare_57 : decode b_Wo_compare 57 = .ok (.aload_n 0, 1) := by decide +kernel
theorem d_Wo_compare_58 : decode b_Wo_compare 58 = .ok (.getfield 28, 3) := by decide +kernel
theorem d_Wo_compare_61 : decode b_Wo_compare 61 = .ok (.iload_n 2, 1) := by decide +kernel
theorem d_Wo_compare_62 : decode b_Wo_compare 62 = .ok (.aaload, 1) := by decide +kernel
theorem d_Wo_compare_63 : decode b_Wo_compare 63 = .ok (.iload 4, 2) := by decide +kernel
theorem d_Wo_compare_65 : decode b_Wo_compare 65 = .ok (.aload_n 0, 1) := by decide +kernel
theorem d_Wo_compare_66 : decode b_Wo_compare 66 = .ok (.getfield 48, 3) := by decide +kernel
theorem d_Wo_compare_69 : decode b_Wo_compare 69 = .ok (.invokevirtual 111, 3) := by decide +kernel
theorem d_Wo_compare_72 : decode b_Wo_compare 72 = .ok (.iconst 0, 1) := by decide +kernel
theorem d_Wo_compare_73 : decode b_Wo_compare 73 = .ok (.istore 5, 2) := by decide +kernel
theorem d_Wo_compare_75 : decode b_Wo_compare 75 = .ok (.iconst 0, 1) := by decide +kernel
theorem d_Wo_compare_76 : decode b_Wo_compare 76 = .ok (.istore 6, 2) := by decide +kernel
theorem d_Wo_compare_78 : decode b_Wo_compare 78 = .ok (.iload 6, 2) := by decide +kernel
theorem d_Wo_compare_80 : decode b_Wo_compare 80 = .ok (.iload_n 3, 1) := by decide +kernel
theorem d_Wo_compare_81 : decode b_Wo_compare 81 = .ok (.if_icmp .ge 29, 3) := by decide +kernel
theorem d_Wo_compare_84 : decode b_Wo_compare 84 = .ok (.iload 5, 2) := by decide +kernel
theorem d_Wo_compare_86 : decode b_Wo_compare 86 = .ok (.ifCond .ne 24, 3) := by decide +kernel
theorem d_Wo_compare_89 : decode b_Wo_compare 89 = .ok (.aload_n 0, 1) := by decide +kernel
theorem d_Wo_compare_90 : decode b_Wo_compare 90 = .ok (.getfield 44, 3) := by decide +kernel
theorem d_Wo_compare_93 : decode b_Wo_compare 93 = .ok (.aload_n 0, 1) := by decide +kernel
theorem d_Wo_compare_94 : decode b_Wo_compare 94 = .ok (.getfield 48, 3) := by decide +kernel
theorem d_Wo_compare_97 : decode b_Wo_compare 97 = .ok (.iload 6, 2) := by decide +kernel
theorem d_Wo_compare_99 : decode b_Wo_compare 99 = .ok (.invokestatic 124, 3) := by decide +kernel
theorem d_Wo_compare_102 : decode b_Wo_compare 102 = .ok (.istore 5, 2) := by decide +kernel
theorem d_Wo_compare_104 : decode b_Wo_compare 104 = .ok (.iinc 6 1, 3) := by decide +kernel
theorem d_Wo_compare_107 : decode b_Wo_compare 107 = .ok (.goto (-29), 3) := by decide +kernel
theorem d_Wo_compare_110 : decode b_Wo_compare 110 = .ok (.iload 5, 2) := by decide +kernel
theorem d_Wo_compare_112 : decode b_Wo_compare 112 = .ok (.ireturn, 1) := by decide +kernel
theorem d_Wo_levelOrder_0 : decode b_Wo_levelOrder 0 = .ok (.aload_n 0, 1) := by decide +kernel
theorem d_Wo_levelOrder_1 : decode b_Wo_levelOrder 1 = .ok (.iconst 0, 1) := by decide +kernel
theorem d_Wo_levelOrder_2 : decode b_Wo_levelOrder 2 = .ok (.iload_n 2, 1) := by decide +kernel
theorem d_Wo_levelOrder_3 : decode b_Wo_levelOrder 3 = .ok (.invokevirtual 132, 3) := by decide +kernel
theorem d_Wo_levelOrder_6 : decode b_Wo_levelOrder 6 = .ok (.istore_n 3, 1) := by decide +kernel
theorem d_Wo_levelOrder_7 : decode b_Wo_levelOrder 7 = .ok (.aload_n 1, 1) := by decide +kernel
theorem d_Wo_levelOrder_8 : decode b_Wo_levelOrder 8 = .ok (.iconst 0, 1) := by decide +kernel
theorem d_Wo_levelOrder_9 : decode b_Wo_levelOrder 9 = .ok (.iload_n 2, 1) := by decide +kernel
theorem d_Wo_levelOrder_10 : decode b_Wo_levelOrder 10 = .ok (.invokevirtual 132, 3) := by decide +kernel
theorem d_Wo_levelOrder_13 : decode b_Wo_levelOrder 13 = .ok (.istore 4, 2) := by decide +kernel
theorem d_Wo_levelOrder_15 : decode b_Wo_levelOrder 15 = .ok (.iconst 0, 1) := by decide +kernel
theorem d_Wo_levelOrder_16 : decode b_Wo_levelOrder 16 = .ok (.istore 5, 2) := by decide +kernel
theorem d_Wo_levelOrder_18 : decode b_Wo_levelOrder 18 = .ok (.iload 5, 2) := by decide +kernel
theorem d_Wo_levelOrder_20 : decode b_Wo_levelOrder 20 = .ok (.sipush 1600, 3) := by decide +kernel
theorem d_Wo_levelOrder_23 : decode b_Wo_levelOrder 23 = .ok (.if_icmp .ge 80, 3) := by decide +kernel
theorem d_Wo_levelOrder_26 : decode b_Wo_levelOrder 26 = .ok (.iload_n 3, 1) := by decide +kernel
theorem d_Wo_levelOrder_27 : decode b_Wo_levelOrder 27 = .ok (.aload_n 0, 1) := by decide +kernel
theorem d_Wo_levelOrder_28 : decode b_Wo_levelOrder 28 = .ok (.getfield 115, 3) := by decide +kernel
theorem d_Wo_levelOrder_31 : decode b_Wo_levelOrder 31 = .ok (.if_icmp .ge 72, 3) := by decide +kernel
theorem d_Wo_levelOrder_34 : decode b_Wo_levelOrder 34 = .ok (.iload 4, 2) := by decide +kernel
theorem d_Wo_levelOrder_36 : decode b_Wo_levelOrder 36 = .ok (.aload_n 1, 1) := by decide +kernel
theorem d_Wo_levelOrder_37 : decode b_Wo_levelOrder 37 = .ok (.getfield 115, 3) := by decide +kernel
theorem d_Wo_levelOrder_40 : decode b_Wo_levelOrder 40 = .ok (.if_icmp .ge 63, 3) := by decide +kernel
theorem d_Wo_levelOrder_43 : decode b_Wo_levelOrder 43 = .ok (.aload_n 0, 1) := by decide +kernel
theorem d_Wo_levelOrder_44 : decode b_Wo_levelOrder 44 = .ok (.getfield 116, 3) := by decide +kernel
theorem d_Wo_levelOrder_47 : decode b_Wo_levelOrder 47 = .ok (.iload_n 3, 1) := by decide +kernel
theorem d_Wo_levelOrder_48 : decode b_Wo_levelOrder 48 = .ok (.laload, 1) := by decide +kernel
theorem d_Wo_levelOrder_49 : decode b_Wo_levelOrder 49 = .ok (.iload_n 2, 1) := by decide +kernel
theorem d_Wo_levelOrder_50 : decode b_Wo_levelOrder 50 = .ok (.invokestatic 120, 3) := by decide +kernel
theorem d_Wo_levelOrder_53 : decode b_Wo_levelOrder 53 = .ok (.aload_n 1, 1) := by decide +kernel
theorem d_Wo_levelOrder_54 : decode b_Wo_levelOrder 54 = .ok (.getfield 116, 3) := by decide +kernel
theorem d_Wo_levelOrder_57 : decode b_Wo_levelOrder 57 = .ok (.iload 4, 2) := by decide +kernel
theorem d_Wo_levelOrder_59 : decode b_Wo_levelOrder 59 = .ok (.laload, 1) := by decide +kernel
theorem d_Wo_levelOrder_60 : decode b_Wo_levelOrder 60 = .ok (.iload_n 2, 1) := by decide +kernel
theorem d_Wo_levelOrder_61 : decode b_Wo_levelOrder 61 = .ok (.invokestatic 120, 3) := by decide +kernel
theorem d_Wo_levelOrder_64 : decode b_Wo_levelOrder 64 = .ok (.invokestatic 136, 3) := by decide +kernel
theorem d_Wo_levelOrder_67 : decode b_Wo_levelOrder 67 = .ok (.istore 6, 2) := by decide +kernel
theorem d_Wo_levelOrder_69 : decode b_Wo_levelOrder 69 = .ok (.iload 6, 2) := by decide +kernel
theorem d_Wo_levelOrder_71 : decode b_Wo_levelOrder 71 = .ok (.ifCond .eq 6, 3) := by decide +kernel
theorem d_Wo_levelOrder_74 : decode b_Wo_levelOrder 74 = .ok (.iload 6, 2) := by decide +kernel
theorem d_Wo_levelOrder_76 : decode b_Wo_levelOrder 76 = .ok (.ireturn, 1) := by decide +kernel
theorem d_Wo_levelOrder_77 : decode b_Wo_levelOrder 77 = .ok (.aload_n 0, 1) := by decide +kernel
theorem d_Wo_levelOrder_78 : decode b_Wo_levelOrder 78 = .ok (.iload_n 3, 1) := by decide +kernel
theorem d_Wo_levelOrder_79 : decode b_Wo_levelOrder 79 = .ok (.iconst 1, 1) := by decide +kernel
theorem d_Wo_levelOrder_80 : decode b_Wo_levelOrder 80 = .ok (.iadd, 1) := by decide +kernel
theorem d_Wo_levelOrder_81 : decode b_Wo_levelOrder 81 = .ok (.iload_n 2, 1) := by decide +kernel
theorem d_Wo_levelOrder_82 : decode b_Wo_levelOrder 82 = .ok (.invokevirtual 132, 3) := by decide +kernel
theorem d_Wo_levelOrder_85 : decode b_Wo_levelOrder 85 = .ok (.istore_n 3, 1) := by decide +kernel
theorem d_Wo_levelOrder_86 : decode b_Wo_levelOrder 86 = .ok (.aload_n 1, 1) := by decide +kernel
theorem d_Wo_levelOrder_87 : decode b_Wo_levelOrder 87 = .ok (.iload 4, 2) := by decide +kernel
theorem d_Wo_levelOrder_89 : decode b_Wo_levelOrder 89 = .ok (.iconst 1, 1) := by decide +kernel
theorem d_Wo_levelOrder_90 : decode b_Wo_levelOrder 90 = .ok (.iadd, 1) := by decide +kernel
theorem d_Wo_levelOrder_91 : decode b_Wo_levelOrder 91 = .ok (.iload_n 2, 1) := by decide +kernel
theorem d_Wo_levelOrder_92 : decode b_Wo_levelOrder 92 = .ok (.invokevirtual 132, 3) := by decide +kernel
theorem d_Wo_levelOrder_95 : decode b_Wo_levelOrder 95 = .ok (.istore 4, 2) := by decide +kernel
theorem d_Wo_levelOrder_97 : decode b_Wo_levelOrder 97 = .ok (.iinc 5 1, 3) := by decide +kernel
theorem d_Wo_levelOrder_100 : decode b_Wo_levelOrder 100 = .ok (.goto (-82), 3) := by decide +kernel
theorem d_Wo_levelOrder_103 : decode b_Wo_levelOrder 103 = .ok (.iload_n 3, 1) := by decide +kernel
theorem d_Wo_levelOrder_104 : decode b_Wo_levelOrder 104 = .ok (.aload_n 0, 1) := by decide +kernel
theorem d_Wo_levelOrder_105 : decode b_Wo_levelOrder 105 = .ok (.getfield 115, 3) := by decide +kernel
theorem d_Wo_levelOrder_108 : decode b_Wo_levelOrder 108 = .ok (.if_icmp .ge 5, 3) := by decide +kernel
theorem d_Wo_levelOrder_111 : decode b_Wo_levelOrder 111 = .ok (.iconst 1, 1) := by decide +kernel
theorem d_Wo_levelOrder_112 : decode b_Wo_levelOrder 112 = .ok (.ireturn, 1) := by decide +kernel
theorem d_Wo_levelOrder_113 : decode b_Wo_levelOrder 113 = .ok (.iload 4, 2) := by decide +kernel
theorem d_Wo_levelOrder_115 : decode b_Wo_levelOrder 115 = .ok (.aload_n 1, 1) := by decide +kernel
theorem d_Wo_levelOrder_116 : decode b_Wo_levelOrder 116 = .ok (.getfield 115, 3) := by decide +kernel
theorem d_Wo_levelOrder_119 : decode b_Wo_levelOrder 119 = .ok (.if_icmp .ge 7, 3) := by decide +kernel
theorem d_Wo_levelOrder_122 : decode b_Wo_levelOrder 122 = .ok (.iconst (-1), 1) := by decide +kernel
theorem d_Wo_levelOrder_123 : decode b_Wo_levelOrder 123 = .ok (.goto 4, 3) := by decide +kernel
theorem d_Wo_levelOrder_126 : decode b_Wo_levelOrder 126 = .ok (.iconst 0, 1) := by decide +kernel
theorem d_Wo_levelOrder_127 : decode b_Wo_levelOrder 127 = .ok (.ireturn, 1) := by decide +kernel
theorem d_El_nextWithWeight_0 : decode b_El_nextWithWeight 0 = .ok (.iload_n 1, 1) := by decide +kernel
theorem d_El_nextWithWeight_1 : decode b_El_nextWithWeight 1 = .ok (.istore_n 3, 1) := by decide +kernel
theorem d_El_nextWithWeight_2 : decode b_El_nextWithWeight 2 = .ok (.iload_n 3, 1) := by decide +kernel
theorem d_El_nextWithWeight_3 : decode b_El_nextWithWeight 3 = .ok (.aload_n 0, 1) := by decide +kernel
theorem d_El_nextWithWeight_4 : decode b_El_nextWithWeight 4 = .ok (.getfield 15, 3) := by decide +kernel
theorem d_El_nextWithWeight_7 : decode b_El_nextWithWeight 7 = .ok (.if_icmp .ge 22, 3) := by decide +kernel
theorem d_El_nextWithWeight_10 : decode b_El_nextWithWeight 10 = .ok (.aload_n 0, 1) := by decide +kernel
theorem d_El_nextWithWeight_11 : decode b_El_nextWithWeight 11 = .ok (.getfield 9, 3) := by decide +kernel
theorem d_El_nextWithWeight_14 : decode b_El_nextWithWeight 14 = .ok (.iload_n 3, 1) := by decide +kernel
theorem d_El_nextWithWeight_15 : decode b_El_nextWithWeight 15 = .ok (.laload, 1) := by decide +kernel
theorem d_El_nextWithWeight_16 : decode b_El_nextWithWeight 16 = .ok (.iload_n 2, 1) := by decide +kernel
theorem d_El_nextWithWeight_17 : decode b_El_nextWithWeight 17 = .ok (.invokestatic 48, 3) := by decide +kernel
theorem d_El_nextWithWeight_20 : decode b_El_nextWithWeight 20 = .ok (.ifCond .ne 9, 3) := by decide +kernel
theorem d_El_nextWithWeight_23 : decode b_El_nextWithWeight 23 = .ok (.iinc 3 1, 3) := by decide +kernel
theorem d_El_nextWithWeight_26 : decode b_El_nextWithWeight 26 = .ok (.goto (-24), 3) := by decide +kernel
theorem d_El_nextWithWeight_29 : decode b_El_nextWithWeight 29 = .ok (.iload_n 3, 1) := by decide +kernel
theorem d_El_nextWithWeight_30 : decode b_El_nextWithWeight 30 = .ok (.ireturn, 1) := by decide +kernel
theorem d_In_compare_0 : decode b_In_compare 0 = .ok (.iload_n 0, 1) := by decide +kernel
theorem d_In_compare_1 : decode b_In_compare 1 = .ok (.iload_n 1, 1) := by decide +kernel
theorem d_In_compare_2 : decode b_In_compare 2 = .ok (.if_icmp .ge 7, 3) := by decide +kernel
theorem d_In_compare_5 : decode b_In_compare 5 = .ok (.iconst (-1), 1) := by decide +kernel
theorem d_In_compare_6 : decode b_In_compare 6 = .ok (.goto 13, 3) := by decide +kernel
theorem d_In_compare_9 : decode b_In_compare 9 = .ok (.iload_n 0, 1) := by decide +kernel
theorem d_In_compare_10 : decode b_In_compare 10 = .ok (.iload_n 1, 1) := by decide +kernel
theorem d_In_compare_11 : decode b_In_compare 11 = .ok (.if_icmp .ne 7, 3) := by decide +kernel
theorem d_In_compare_14 : decode b_In_compare 14 = .ok (.iconst 0, 1) := by decide +kernel
theorem d_In_compare_15 : decode b_In_compare 15 = .ok (.goto 4, 3) := by decide +kernel
theorem d_In_compare_18 : decode b_In_compare 18 = .ok (.iconst 1, 1) := by decide +kernel
theorem d_In_compare_19 : decode b_In_compare 19 = .ok (.ireturn, 1) := by decide +kernel
