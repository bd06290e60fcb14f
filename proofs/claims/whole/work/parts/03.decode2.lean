theorem dX2_sendAddressed_83 : decode cX2_sendAddressed 83 = .ok (.iload_n 3, 1) := by decide +kernel
theorem dX2_sendAddressed_84 : decode cX2_sendAddressed 84 = .ok (.invokevirtual 110, 3) := by decide +kernel
theorem dX2_sendAddressed_87 : decode cX2_sendAddressed 87 = .ok (.invokestatic 101, 3) := by decide +kernel
theorem dX2_sendAddressed_90 : decode cX2_sendAddressed 90 = .ok (.istore 5, 2) := by decide +kernel
theorem dX2_sendAddressed_92 : decode cX2_sendAddressed 92 = .ok (.iinc 6 1, 3) := by decide +kernel
theorem dX2_sendAddressed_95 : decode cX2_sendAddressed 95 = .ok (.goto (-69), 3) := by decide +kernel
theorem dX2_sendAddressed_98 : decode cX2_sendAddressed 98 = .ok (.iload 5, 2) := by decide +kernel
theorem dX2_sendAddressed_100 : decode cX2_sendAddressed 100 = .ok (.ireturn, 1) := by decide +kernel
theorem dX2_countFrame_0 : decode cX2_countFrame 0 = .ok (.aload_n 0, 1) := by decide +kernel
theorem dX2_countFrame_1 : decode cX2_countFrame 1 = .ok (.dup, 1) := by decide +kernel
theorem dX2_countFrame_2 : decode cX2_countFrame 2 = .ok (.getfield 90, 3) := by decide +kernel
theorem dX2_countFrame_5 : decode cX2_countFrame 5 = .ok (.iconst 1, 1) := by decide +kernel
theorem dX2_countFrame_6 : decode cX2_countFrame 6 = .ok (.iadd, 1) := by decide +kernel
theorem dX2_countFrame_7 : decode cX2_countFrame 7 = .ok (.putfield 90, 3) := by decide +kernel
theorem dX2_countFrame_10 : decode cX2_countFrame 10 = .ok (.aload_n 0, 1) := by decide +kernel
theorem dX2_countFrame_11 : decode cX2_countFrame 11 = .ok (.getfield 50, 3) := by decide +kernel
theorem dX2_countFrame_14 : decode cX2_countFrame 14 = .ok (.ifCond .eq 23, 3) := by decide +kernel
theorem dX2_countFrame_17 : decode cX2_countFrame 17 = .ok (.iload_n 1, 1) := by decide +kernel
theorem dX2_countFrame_18 : decode cX2_countFrame 18 = .ok (.aload_n 0, 1) := by decide +kernel
theorem dX2_countFrame_19 : decode cX2_countFrame 19 = .ok (.getfield 114, 3) := by decide +kernel
theorem dX2_countFrame_22 : decode cX2_countFrame 22 = .ok (.if_icmp .ne 15, 3) := by decide +kernel
theorem dX2_countFrame_25 : decode cX2_countFrame 25 = .ok (.iload_n 2, 1) := by decide +kernel
theorem dX2_countFrame_26 : decode cX2_countFrame 26 = .ok (.aload_n 0, 1) := by decide +kernel
theorem dX2_countFrame_27 : decode cX2_countFrame 27 = .ok (.getfield 117, 3) := by decide +kernel
theorem dX2_countFrame_30 : decode cX2_countFrame 30 = .ok (.if_icmp .ne 7, 3) := by decide +kernel
theorem dX2_countFrame_33 : decode cX2_countFrame 33 = .ok (.iconst 1, 1) := by decide +kernel
theorem dX2_countFrame_34 : decode cX2_countFrame 34 = .ok (.goto 4, 3) := by decide +kernel
theorem dX2_countFrame_37 : decode cX2_countFrame 37 = .ok (.iconst 0, 1) := by decide +kernel
theorem dX2_countFrame_38 : decode cX2_countFrame 38 = .ok (.istore_n 3, 1) := by decide +kernel
theorem dX2_countFrame_39 : decode cX2_countFrame 39 = .ok (.aload_n 0, 1) := by decide +kernel
theorem dX2_countFrame_40 : decode cX2_countFrame 40 = .ok (.iload_n 1, 1) := by decide +kernel
theorem dX2_countFrame_41 : decode cX2_countFrame 41 = .ok (.putfield 114, 3) := by decide +kernel
theorem dX2_countFrame_44 : decode cX2_countFrame 44 = .ok (.aload_n 0, 1) := by decide +kernel
theorem dX2_countFrame_45 : decode cX2_countFrame 45 = .ok (.iload_n 2, 1) := by decide +kernel
theorem dX2_countFrame_46 : decode cX2_countFrame 46 = .ok (.putfield 117, 3) := by decide +kernel
theorem dX2_countFrame_49 : decode cX2_countFrame 49 = .ok (.aload_n 0, 1) := by decide +kernel
theorem dX2_countFrame_50 : decode cX2_countFrame 50 = .ok (.iload_n 3, 1) := by decide +kernel
theorem dX2_countFrame_51 : decode cX2_countFrame 51 = .ok (.ifCond .ne 7, 3) := by decide +kernel
theorem dX2_countFrame_54 : decode cX2_countFrame 54 = .ok (.iconst 1, 1) := by decide +kernel
theorem dX2_countFrame_55 : decode cX2_countFrame 55 = .ok (.goto 4, 3) := by decide +kernel
theorem dX2_countFrame_58 : decode cX2_countFrame 58 = .ok (.iconst 0, 1) := by decide +kernel
theorem dX2_countFrame_59 : decode cX2_countFrame 59 = .ok (.putfield 50, 3) := by decide +kernel
theorem dX2_countFrame_62 : decode cX2_countFrame 62 = .ok (.iload_n 3, 1) := by decide +kernel
theorem dX2_countFrame_63 : decode cX2_countFrame 63 = .ok (.ireturn, 1) := by decide +kernel
theorem dX2_joined_0 : decode cX2_joined 0 = .ok (.iload_n 1, 1) := by decide +kernel
theorem dX2_joined_1 : decode cX2_joined 1 = .ok (.iconst (-1), 1) := by decide +kernel
theorem dX2_joined_2 : decode cX2_joined 2 = .ok (.if_icmp .eq 8, 3) := by decide +kernel
theorem dX2_joined_5 : decode cX2_joined 5 = .ok (.iload_n 1, 1) := by decide +kernel
theorem dX2_joined_6 : decode cX2_joined 6 = .ok (.iload_n 0, 1) := by decide +kernel
theorem dX2_joined_7 : decode cX2_joined 7 = .ok (.if_icmp .ne 5, 3) := by decide +kernel
theorem dX2_joined_10 : decode cX2_joined 10 = .ok (.iload_n 0, 1) := by decide +kernel
theorem dX2_joined_11 : decode cX2_joined 11 = .ok (.ireturn, 1) := by decide +kernel
theorem dX2_joined_12 : decode cX2_joined 12 = .ok (.iload_n 0, 1) := by decide +kernel
theorem dX2_joined_13 : decode cX2_joined 13 = .ok (.iconst (-1), 1) := by decide +kernel
theorem dX2_joined_14 : decode cX2_joined 14 = .ok (.if_icmp .ne 7, 3) := by decide +kernel
theorem dX2_joined_17 : decode cX2_joined 17 = .ok (.iload_n 1, 1) := by decide +kernel
theorem dX2_joined_18 : decode cX2_joined 18 = .ok (.goto 6, 3) := by decide +kernel
theorem dX2_joined_21 : decode cX2_joined 21 = .ok (.sipush 256, 3) := by decide +kernel
theorem dX2_joined_24 : decode cX2_joined 24 = .ok (.ireturn, 1) := by decide +kernel
theorem dX2_sendSearch_0 : decode cX2_sendSearch 0 = .ok (.aload_n 0, 1) := by decide +kernel
theorem dX2_sendSearch_1 : decode cX2_sendSearch 1 = .ok (.sipush 177, 3) := by decide +kernel
theorem dX2_sendSearch_4 : decode cX2_sendSearch 4 = .ok (.iload_n 1, 1) := by decide +kernel
theorem dX2_sendSearch_5 : decode cX2_sendSearch 5 = .ok (.bipush 16, 2) := by decide +kernel
theorem dX2_sendSearch_7 : decode cX2_sendSearch 7 = .ok (.ishr, 1) := by decide +kernel
theorem dX2_sendSearch_8 : decode cX2_sendSearch 8 = .ok (.sipush 255, 3) := by decide +kernel
theorem dX2_sendSearch_11 : decode cX2_sendSearch 11 = .ok (.iand, 1) := by decide +kernel
theorem dX2_sendSearch_12 : decode cX2_sendSearch 12 = .ok (.invokevirtual 43, 3) := by decide +kernel
theorem dX2_sendSearch_15 : decode cX2_sendSearch 15 = .ok (.pop, 1) := by decide +kernel
theorem dX2_sendSearch_16 : decode cX2_sendSearch 16 = .ok (.aload_n 0, 1) := by decide +kernel
theorem dX2_sendSearch_17 : decode cX2_sendSearch 17 = .ok (.sipush 179, 3) := by decide +kernel
theorem dX2_sendSearch_20 : decode cX2_sendSearch 20 = .ok (.iload_n 1, 1) := by decide +kernel
theorem dX2_sendSearch_21 : decode cX2_sendSearch 21 = .ok (.bipush 8, 2) := by decide +kernel
theorem dX2_sendSearch_23 : decode cX2_sendSearch 23 = .ok (.ishr, 1) := by decide +kernel
theorem dX2_sendSearch_24 : decode cX2_sendSearch 24 = .ok (.sipush 255, 3) := by decide +kernel
theorem dX2_sendSearch_27 : decode cX2_sendSearch 27 = .ok (.iand, 1) := by decide +kernel
theorem dX2_sendSearch_28 : decode cX2_sendSearch 28 = .ok (.invokevirtual 43, 3) := by decide +kernel
theorem dX2_sendSearch_31 : decode cX2_sendSearch 31 = .ok (.pop, 1) := by decide +kernel
theorem dX2_sendSearch_32 : decode cX2_sendSearch 32 = .ok (.aload_n 0, 1) := by decide +kernel
theorem dX2_sendSearch_33 : decode cX2_sendSearch 33 = .ok (.sipush 181, 3) := by decide +kernel
theorem dX2_sendSearch_36 : decode cX2_sendSearch 36 = .ok (.iload_n 1, 1) := by decide +kernel
theorem dX2_sendSearch_37 : decode cX2_sendSearch 37 = .ok (.sipush 255, 3) := by decide +kernel
theorem dX2_sendSearch_40 : decode cX2_sendSearch 40 = .ok (.iand, 1) := by decide +kernel
theorem dX2_sendSearch_41 : decode cX2_sendSearch 41 = .ok (.invokevirtual 43, 3) := by decide +kernel
theorem dX2_sendSearch_44 : decode cX2_sendSearch 44 = .ok (.pop, 1) := by decide +kernel
theorem dX2_sendSearch_45 : decode cX2_sendSearch 45 = .ok (.return_, 1) := by decide +kernel
theorem dX2_isAnyWithinSearch_0 : decode cX2_isAnyWithinSearch 0 = .ok (.aload_n 0, 1) := by decide +kernel
theorem dX2_isAnyWithinSearch_1 : decode cX2_isAnyWithinSearch 1 = .ok (.dup, 1) := by decide +kernel
theorem dX2_isAnyWithinSearch_2 : decode cX2_isAnyWithinSearch 2 = .ok (.getfield 77, 3) := by decide +kernel
theorem dX2_isAnyWithinSearch_5 : decode cX2_isAnyWithinSearch 5 = .ok (.iconst 1, 1) := by decide +kernel
theorem dX2_isAnyWithinSearch_6 : decode cX2_isAnyWithinSearch 6 = .ok (.iadd, 1) := by decide +kernel
theorem dX2_isAnyWithinSearch_7 : decode cX2_isAnyWithinSearch 7 = .ok (.putfield 77, 3) := by decide +kernel
theorem dX2_isAnyWithinSearch_10 : decode cX2_isAnyWithinSearch 10 = .ok (.aload_n 0, 1) := by decide +kernel
theorem dX2_isAnyWithinSearch_11 : decode cX2_isAnyWithinSearch 11 = .ok (.sipush 169, 3) := by decide +kernel
theorem dX2_isAnyWithinSearch_14 : decode cX2_isAnyWithinSearch 14 = .ok (.iconst 0, 1) := by decide +kernel
theorem dX2_isAnyWithinSearch_15 : decode cX2_isAnyWithinSearch 15 = .ok (.invokevirtual 43, 3) := by decide +kernel
theorem dX2_isAnyWithinSearch_18 : decode cX2_isAnyWithinSearch 18 = .ok (.iconst (-1), 1) := by decide +kernel
theorem dX2_isAnyWithinSearch_19 : decode cX2_isAnyWithinSearch 19 = .ok (.if_icmp .eq 7, 3) := by decide +kernel
theorem dX2_isAnyWithinSearch_22 : decode cX2_isAnyWithinSearch 22 = .ok (.iconst 1, 1) := by decide +kernel
theorem dX2_isAnyWithinSearch_23 : decode cX2_isAnyWithinSearch 23 = .ok (.goto 4, 3) := by decide +kernel
theorem dX2_isAnyWithinSearch_26 : decode cX2_isAnyWithinSearch 26 = .ok (.iconst 0, 1) := by decide +kernel
theorem dX2_isAnyWithinSearch_27 : decode cX2_isAnyWithinSearch 27 = .ok (.ireturn, 1) := by decide +kernel
theorem dX2_isAnyLeft_0 : decode cX2_isAnyLeft 0 = .ok (.aload_n 0, 1) := by decide +kernel
theorem dX2_isAnyLeft_1 : decode cX2_isAnyLeft 1 = .ok (.ldc 31, 2) := by decide +kernel
theorem dX2_isAnyLeft_3 : decode cX2_isAnyLeft 3 = .ok (.invokevirtual 120, 3) := by decide +kernel
theorem dX2_isAnyLeft_6 : decode cX2_isAnyLeft 6 = .ok (.aload_n 0, 1) := by decide +kernel
theorem dX2_isAnyLeft_7 : decode cX2_isAnyLeft 7 = .ok (.invokevirtual 123, 3) := by decide +kernel
theorem dX2_isAnyLeft_10 : decode cX2_isAnyLeft 10 = .ok (.ireturn, 1) := by decide +kernel
theorem dX2_searchLeastRandom_0 : decode cX2_searchLeastRandom 0 = .ok (.ldc 31, 2) := by decide +kernel
theorem dX2_searchLeastRandom_2 : decode cX2_searchLeastRandom 2 = .ok (.istore_n 1, 1) := by decide +kernel
theorem dX2_searchLeastRandom_3 : decode cX2_searchLeastRandom 3 = .ok (.bipush 23, 2) := by decide +kernel
theorem dX2_searchLeastRandom_5 : decode cX2_searchLeastRandom 5 = .ok (.istore_n 2, 1) := by decide +kernel
theorem dX2_searchLeastRandom_6 : decode cX2_searchLeastRandom 6 = .ok (.iload_n 2, 1) := by decide +kernel
theorem dX2_searchLeastRandom_7 : decode cX2_searchLeastRandom 7 = .ok (.ifCond .lt 29, 3) := by decide +kernel
theorem dX2_searchLeastRandom_10 : decode cX2_searchLeastRandom 10 = .ok (.iload_n 1, 1) := by decide +kernel
theorem dX2_searchLeastRandom_11 : decode cX2_searchLeastRandom 11 = .ok (.iconst 1, 1) := by decide +kernel
theorem dX2_searchLeastRandom_12 : decode cX2_searchLeastRandom 12 = .ok (.iload_n 2, 1) := by decide +kernel
theorem dX2_searchLeastRandom_13 : decode cX2_searchLeastRandom 13 = .ok (.ishl, 1) := by decide +kernel
theorem dX2_searchLeastRandom_14 : decode cX2_searchLeastRandom 14 = .ok (.isub, 1) := by decide +kernel
theorem dX2_searchLeastRandom_15 : decode cX2_searchLeastRandom 15 = .ok (.istore_n 3, 1) := by decide +kernel
theorem dX2_searchLeastRandom_16 : decode cX2_searchLeastRandom 16 = .ok (.aload_n 0, 1) := by decide +kernel
theorem dX2_searchLeastRandom_17 : decode cX2_searchLeastRandom 17 = .ok (.iload_n 3, 1) := by decide +kernel
theorem dX2_searchLeastRandom_18 : decode cX2_searchLeastRandom 18 = .ok (.invokevirtual 120, 3) := by decide +kernel
theorem dX2_searchLeastRandom_21 : decode cX2_searchLeastRandom 21 = .ok (.aload_n 0, 1) := by decide +kernel
theorem dX2_searchLeastRandom_22 : decode cX2_searchLeastRandom 22 = .ok (.invokevirtual 123, 3) := by decide +kernel
theorem dX2_searchLeastRandom_25 : decode cX2_searchLeastRandom 25 = .ok (.ifCond .eq 5, 3) := by decide +kernel
theorem dX2_searchLeastRandom_28 : decode cX2_searchLeastRandom 28 = .ok (.iload_n 3, 1) := by decide +kernel
theorem dX2_searchLeastRandom_29 : decode cX2_searchLeastRandom 29 = .ok (.istore_n 1, 1) := by decide +kernel
theorem dX2_searchLeastRandom_30 : decode cX2_searchLeastRandom 30 = .ok (.iinc 2 (-1), 3) := by decide +kernel
theorem dX2_searchLeastRandom_33 : decode cX2_searchLeastRandom 33 = .ok (.goto (-27), 3) := by decide +kernel
theorem dX2_searchLeastRandom_36 : decode cX2_searchLeastRandom 36 = .ok (.aload_n 0, 1) := by decide +kernel
theorem dX2_searchLeastRandom_37 : decode cX2_searchLeastRandom 37 = .ok (.iload_n 1, 1) := by decide +kernel
theorem dX2_searchLeastRandom_38 : decode cX2_searchLeastRandom 38 = .ok (.invokevirtual 120, 3) := by decide +kernel
theorem dX2_searchLeastRandom_41 : decode cX2_searchLeastRandom 41 = .ok (.return_, 1) := by decide +kernel
theorem dX3_init_0 : decode cX3_init 0 = .ok (.aload_n 0, 1) := by decide +kernel
theorem dX3_init_1 : decode cX3_init 1 = .ok (.invokespecial 1, 3) := by decide +kernel
theorem dX3_init_4 : decode cX3_init 4 = .ok (.aload_n 0, 1) := by decide +kernel
theorem dX3_init_5 : decode cX3_init 5 = .ok (.bipush 16, 2) := by decide +kernel
theorem dX3_init_7 : decode cX3_init 7 = .ok (.newarray .int, 2) := by decide +kernel
theorem dX3_init_9 : decode cX3_init 9 = .ok (.putfield 7, 3) := by decide +kernel
theorem dX3_init_12 : decode cX3_init 12 = .ok (.aload_n 0, 1) := by decide +kernel
theorem dX3_init_13 : decode cX3_init 13 = .ok (.bipush 16, 2) := by decide +kernel
theorem dX3_init_15 : decode cX3_init 15 = .ok (.newarray .int, 2) := by decide +kernel
theorem dX3_init_17 : decode cX3_init 17 = .ok (.putfield 13, 3) := by decide +kernel
theorem dX3_init_20 : decode cX3_init 20 = .ok (.aload_n 0, 1) := by decide +kernel
theorem dX3_init_21 : decode cX3_init 21 = .ok (.bipush 16, 2) := by decide +kernel
theorem dX3_init_23 : decode cX3_init 23 = .ok (.newarray .int, 2) := by decide +kernel
theorem dX3_init_25 : decode cX3_init 25 = .ok (.putfield 16, 3) := by decide +kernel
theorem dX3_init_28 : decode cX3_init 28 = .ok (.aload_n 0, 1) := by decide +kernel
theorem dX3_init_29 : decode cX3_init 29 = .ok (.bipush 16, 2) := by decide +kernel
theorem dX3_init_31 : decode cX3_init 31 = .ok (.newarray .int, 2) := by decide +kernel
theorem dX3_init_33 : decode cX3_init 33 = .ok (.putfield 19, 3) := by decide +kernel
theorem dX3_init_36 : decode cX3_init 36 = .ok (.aload_n 0, 1) := by decide +kernel
theorem dX3_init_37 : decode cX3_init 37 = .ok (.bipush 16, 2) := by decide +kernel
theorem dX3_init_39 : decode cX3_init 39 = .ok (.newarray .int, 2) := by decide +kernel
theorem dX3_init_41 : decode cX3_init 41 = .ok (.putfield 22, 3) := by decide +kernel
theorem dX3_init_44 : decode cX3_init 44 = .ok (.aload_n 0, 1) := by decide +kernel
theorem dX3_init_45 : decode cX3_init 45 = .ok (.bipush 16, 2) := by decide +kernel
theorem dX3_init_47 : decode cX3_init 47 = .ok (.newarray .int, 2) := by decide +kernel
theorem dX3_init_49 : decode cX3_init 49 = .ok (.putfield 25, 3) := by decide +kernel
theorem dX3_init_52 : decode cX3_init 52 = .ok (.aload_n 0, 1) := by decide +kernel
theorem dX3_init_53 : decode cX3_init 53 = .ok (.bipush 16, 2) := by decide +kernel
theorem dX3_init_55 : decode cX3_init 55 = .ok (.newarray .int, 2) := by decide +kernel
theorem dX3_init_57 : decode cX3_init 57 = .ok (.putfield 28, 3) := by decide +kernel
theorem dX3_init_60 : decode cX3_init 60 = .ok (.aload_n 0, 1) := by decide +kernel
theorem dX3_init_61 : decode cX3_init 61 = .ok (.bipush 16, 2) := by decide +kernel
theorem dX3_init_63 : decode cX3_init 63 = .ok (.newarray .int, 2) := by decide +kernel
theorem dX3_init_65 : decode cX3_init 65 = .ok (.putfield 31, 3) := by decide +kernel
theorem dX3_init_68 : decode cX3_init 68 = .ok (.aload_n 0, 1) := by decide +kernel
theorem dX3_init_69 : decode cX3_init 69 = .ok (.sipush 256, 3) := by decide +kernel
theorem dX3_init_72 : decode cX3_init 72 = .ok (.newarray .int, 2) := by decide +kernel
theorem dX3_init_74 : decode cX3_init 74 = .ok (.putfield 34, 3) := by decide +kernel
theorem dX3_init_77 : decode cX3_init 77 = .ok (.aload_n 0, 1) := by decide +kernel
theorem dX3_init_78 : decode cX3_init 78 = .ok (.bipush 16, 2) := by decide +kernel
theorem dX3_init_80 : decode cX3_init 80 = .ok (.newarray .int, 2) := by decide +kernel
theorem dX3_init_82 : decode cX3_init 82 = .ok (.putfield 37, 3) := by decide +kernel
theorem dX3_init_85 : decode cX3_init 85 = .ok (.aload_n 0, 1) := by decide +kernel
theorem dX3_init_86 : decode cX3_init 86 = .ok (.bipush 16, 2) := by decide +kernel
theorem dX3_init_88 : decode cX3_init 88 = .ok (.newarray .int, 2) := by decide +kernel
theorem dX3_init_90 : decode cX3_init 90 = .ok (.putfield 40, 3) := by decide +kernel
theorem dX3_init_93 : decode cX3_init 93 = .ok (.aload_n 0, 1) := by decide +kernel
theorem dX3_init_94 : decode cX3_init 94 = .ok (.bipush 16, 2) := by decide +kernel
theorem dX3_init_96 : decode cX3_init 96 = .ok (.newarray .int, 2) := by decide +kernel
theorem dX3_init_98 : decode cX3_init 98 = .ok (.putfield 43, 3) := by decide +kernel
theorem dX3_init_101 : decode cX3_init 101 = .ok (.aload_n 0, 1) := by decide +kernel
theorem dX3_init_102 : decode cX3_init 102 = .ok (.bipush 16, 2) := by decide +kernel
theorem dX3_init_104 : decode cX3_init 104 = .ok (.newarray .int, 2) := by decide +kernel
theorem dX3_init_106 : decode cX3_init 106 = .ok (.putfield 46, 3) := by decide +kernel
theorem dX3_init_109 : decode cX3_init 109 = .ok (.aload_n 0, 1) := by decide +kernel
theorem dX3_init_110 : decode cX3_init 110 = .ok (.bipush 16, 2) := by decide +kernel
theorem dX3_init_112 : decode cX3_init 112 = .ok (.newarray .int, 2) := by decide +kernel
theorem dX3_init_114 : decode cX3_init 114 = .ok (.putfield 49, 3) := by decide +kernel
theorem dX3_init_117 : decode cX3_init 117 = .ok (.aload_n 0, 1) := by decide +kernel
theorem dX3_init_118 : decode cX3_init 118 = .ok (.bipush 16, 2) := by decide +kernel
theorem dX3_init_120 : decode cX3_init 120 = .ok (.newarray .boolean, 2) := by decide +kernel
theorem dX3_init_122 : decode cX3_init 122 = .ok (.putfield 52, 3) := by decide +kernel
theorem dX3_init_125 : decode cX3_init 125 = .ok (.aload_n 0, 1) := by decide +kernel
theorem dX3_init_126 : decode cX3_init 126 = .ok (.bipush 16, 2) := by decide +kernel
theorem dX3_init_128 : decode cX3_init 128 = .ok (.newarray .boolean, 2) := by decide +kernel
theorem dX3_init_130 : decode cX3_init 130 = .ok (.putfield 56, 3) := by decide +kernel
theorem dX3_init_133 : decode cX3_init 133 = .ok (.aload_n 0, 1) := by decide +kernel
theorem dX3_init_134 : decode cX3_init 134 = .ok (.bipush 16, 2) := by decide +kernel
theorem dX3_init_136 : decode cX3_init 136 = .ok (.newarray .int, 2) := by decide +kernel
theorem dX3_init_138 : decode cX3_init 138 = .ok (.putfield 59, 3) := by decide +kernel
theorem dX3_init_141 : decode cX3_init 141 = .ok (.aload_n 0, 1) := by decide +kernel
theorem dX3_init_142 : decode cX3_init 142 = .ok (.bipush 16, 2) := by decide +kernel
theorem dX3_init_144 : decode cX3_init 144 = .ok (.newarray .int, 2) := by decide +kernel
theorem dX3_init_146 : decode cX3_init 146 = .ok (.putfield 62, 3) := by decide +kernel
theorem dX3_init_149 : decode cX3_init 149 = .ok (.aload_n 0, 1) := by decide +kernel
theorem dX3_init_150 : decode cX3_init 150 = .ok (.bipush 16, 2) := by decide +kernel
theorem dX3_init_152 : decode cX3_init 152 = .ok (.newarray .int, 2) := by decide +kernel
theorem dX3_init_154 : decode cX3_init 154 = .ok (.putfield 65, 3) := by decide +kernel
theorem dX3_init_157 : decode cX3_init 157 = .ok (.aload_n 0, 1) := by decide +kernel
theorem dX3_init_158 : decode cX3_init 158 = .ok (.bipush 16, 2) := by decide +kernel
theorem dX3_init_160 : decode cX3_init 160 = .ok (.newarray .int, 2) := by decide +kernel
theorem dX3_init_162 : decode cX3_init 162 = .ok (.putfield 68, 3) := by decide +kernel
theorem dX3_init_165 : decode cX3_init 165 = .ok (.aload_n 0, 1) := by decide +kernel
theorem dX3_init_166 : decode cX3_init 166 = .ok (.bipush 16, 2) := by decide +kernel
theorem dX3_init_168 : decode cX3_init 168 = .ok (.newarray .int, 2) := by decide +kernel
theorem dX3_init_170 : decode cX3_init 170 = .ok (.dup, 1) := by decide +kernel
theorem dX3_init_171 : decode cX3_init 171 = .ok (.iconst 0, 1) := by decide +kernel
theorem dX3_init_172 : decode cX3_init 172 = .ok (.iconst 0, 1) := by decide +kernel
theorem dX3_init_173 : decode cX3_init 173 = .ok (.iastore, 1) := by decide +kernel
theorem dX3_init_174 : decode cX3_init 174 = .ok (.dup, 1) := by decide +kernel
theorem dX3_init_175 : decode cX3_init 175 = .ok (.iconst 1, 1) := by decide +kernel
theorem dX3_init_176 : decode cX3_init 176 = .ok (.bipush 7, 2) := by decide +kernel
theorem dX3_init_178 : decode cX3_init 178 = .ok (.iastore, 1) := by decide +kernel
theorem dX3_init_179 : decode cX3_init 179 = .ok (.dup, 1) := by decide +kernel
theorem dX3_init_180 : decode cX3_init 180 = .ok (.iconst 2, 1) := by decide +kernel
theorem dX3_init_181 : decode cX3_init 181 = .ok (.bipush 10, 2) := by decide +kernel
theorem dX3_init_183 : decode cX3_init 183 = .ok (.iastore, 1) := by decide +kernel
theorem dX3_init_184 : decode cX3_init 184 = .ok (.dup, 1) := by decide +kernel
theorem dX3_init_185 : decode cX3_init 185 = .ok (.iconst 3, 1) := by decide +kernel
theorem dX3_init_186 : decode cX3_init 186 = .ok (.bipush 14, 2) := by decide +kernel
theorem dX3_init_188 : decode cX3_init 188 = .ok (.iastore, 1) := by decide +kernel
theorem dX3_init_189 : decode cX3_init 189 = .ok (.dup, 1) := by decide +kernel
theorem dX3_init_190 : decode cX3_init 190 = .ok (.iconst 4, 1) := by decide +kernel
theorem dX3_init_191 : decode cX3_init 191 = .ok (.bipush 20, 2) := by decide +kernel
theorem dX3_init_193 : decode cX3_init 193 = .ok (.iastore, 1) := by decide +kernel
theorem dX3_init_194 : decode cX3_init 194 = .ok (.dup, 1) := by decide +kernel
theorem dX3_init_195 : decode cX3_init 195 = .ok (.iconst 5, 1) := by decide +kernel
theorem dX3_init_196 : decode cX3_init 196 = .ok (.bipush 28, 2) := by decide +kernel
theorem dX3_init_198 : decode cX3_init 198 = .ok (.iastore, 1) := by decide +kernel
theorem dX3_init_199 : decode cX3_init 199 = .ok (.dup, 1) := by decide +kernel
theorem dX3_init_200 : decode cX3_init 200 = .ok (.bipush 6, 2) := by decide +kernel
theorem dX3_init_202 : decode cX3_init 202 = .ok (.bipush 40, 2) := by decide +kernel
theorem dX3_init_204 : decode cX3_init 204 = .ok (.iastore, 1) := by decide +kernel
theorem dX3_init_205 : decode cX3_init 205 = .ok (.dup, 1) := by decide +kernel
theorem dX3_init_206 : decode cX3_init 206 = .ok (.bipush 7, 2) := by decide +kernel
theorem dX3_init_208 : decode cX3_init 208 = .ok (.bipush 57, 2) := by decide +kernel
theorem dX3_init_210 : decode cX3_init 210 = .ok (.iastore, 1) := by decide +kernel
theorem dX3_init_211 : decode cX3_init 211 = .ok (.dup, 1) := by decide +kernel
theorem dX3_init_212 : decode cX3_init 212 = .ok (.bipush 8, 2) := by decide +kernel
theorem dX3_init_214 : decode cX3_init 214 = .ok (.bipush 80, 2) := by decide +kernel
theorem dX3_init_216 : decode cX3_init 216 = .ok (.iastore, 1) := by decide +kernel
theorem dX3_init_217 : decode cX3_init 217 = .ok (.dup, 1) := by decide +kernel
theorem dX3_init_218 : decode cX3_init 218 = .ok (.bipush 9, 2) := by decide +kernel
theorem dX3_init_220 : decode cX3_init 220 = .ok (.bipush 113, 2) := by decide +kernel
theorem dX3_init_222 : decode cX3_init 222 = .ok (.iastore, 1) := by decide +kernel
theorem dX3_init_223 : decode cX3_init 223 = .ok (.dup, 1) := by decide +kernel
theorem dX3_init_224 : decode cX3_init 224 = .ok (.bipush 10, 2) := by decide +kernel
theorem dX3_init_226 : decode cX3_init 226 = .ok (.sipush 160, 3) := by decide +kernel
theorem dX3_init_229 : decode cX3_init 229 = .ok (.iastore, 1) := by decide +kernel
theorem dX3_init_230 : decode cX3_init 230 = .ok (.dup, 1) := by decide +kernel
theorem dX3_init_231 : decode cX3_init 231 = .ok (.bipush 11, 2) := by decide +kernel
theorem dX3_init_233 : decode cX3_init 233 = .ok (.sipush 226, 3) := by decide +kernel
theorem dX3_init_236 : decode cX3_init 236 = .ok (.iastore, 1) := by decide +kernel
theorem dX3_init_237 : decode cX3_init 237 = .ok (.dup, 1) := by decide +kernel
theorem dX3_init_238 : decode cX3_init 238 = .ok (.bipush 12, 2) := by decide +kernel
theorem dX3_init_240 : decode cX3_init 240 = .ok (.sipush 320, 3) := by decide +kernel
theorem dX3_init_243 : decode cX3_init 243 = .ok (.iastore, 1) := by decide +kernel
theorem dX3_init_244 : decode cX3_init 244 = .ok (.dup, 1) := by decide +kernel
theorem dX3_init_245 : decode cX3_init 245 = .ok (.bipush 13, 2) := by decide +kernel
theorem dX3_init_247 : decode cX3_init 247 = .ok (.sipush 453, 3) := by decide +kernel
theorem dX3_init_250 : decode cX3_init 250 = .ok (.iastore, 1) := by decide +kernel
theorem dX3_init_251 : decode cX3_init 251 = .ok (.dup, 1) := by decide +kernel
theorem dX3_init_252 : decode cX3_init 252 = .ok (.bipush 14, 2) := by decide +kernel
theorem dX3_init_254 : decode cX3_init 254 = .ok (.sipush 640, 3) := by decide +kernel
theorem dX3_init_257 : decode cX3_init 257 = .ok (.iastore, 1) := by decide +kernel
theorem dX3_init_258 : decode cX3_init 258 = .ok (.dup, 1) := by decide +kernel
theorem dX3_init_259 : decode cX3_init 259 = .ok (.bipush 15, 2) := by decide +kernel
theorem dX3_init_261 : decode cX3_init 261 = .ok (.sipush 905, 3) := by decide +kernel
theorem dX3_init_264 : decode cX3_init 264 = .ok (.iastore, 1) := by decide +kernel
theorem dX3_init_265 : decode cX3_init 265 = .ok (.putfield 71, 3) := by decide +kernel
theorem dX3_init_268 : decode cX3_init 268 = .ok (.aload_n 0, 1) := by decide +kernel
theorem dX3_init_269 : decode cX3_init 269 = .ok (.bipush 16, 2) := by decide +kernel
theorem dX3_init_271 : decode cX3_init 271 = .ok (.newarray .int, 2) := by decide +kernel
theorem dX3_init_273 : decode cX3_init 273 = .ok (.dup, 1) := by decide +kernel
theorem dX3_init_274 : decode cX3_init 274 = .ok (.iconst 0, 1) := by decide +kernel
theorem dX3_init_275 : decode cX3_init 275 = .ok (.iconst 0, 1) := by decide +kernel
theorem dX3_init_276 : decode cX3_init 276 = .ok (.iastore, 1) := by decide +kernel
theorem dX3_init_277 : decode cX3_init 277 = .ok (.dup, 1) := by decide +kernel
theorem dX3_init_278 : decode cX3_init 278 = .ok (.iconst 1, 1) := by decide +kernel
theorem dX3_init_279 : decode cX3_init 279 = .ok (.bipush 72, 2) := by decide +kernel
theorem dX3_init_281 : decode cX3_init 281 = .ok (.iastore, 1) := by decide +kernel
theorem dX3_init_282 : decode cX3_init 282 = .ok (.dup, 1) := by decide +kernel
theorem dX3_init_283 : decode cX3_init 283 = .ok (.iconst 2, 1) := by decide +kernel
theorem dX3_init_284 : decode cX3_init 284 = .ok (.bipush 51, 2) := by decide +kernel
theorem dX3_init_286 : decode cX3_init 286 = .ok (.iastore, 1) := by decide +kernel
theorem dX3_init_287 : decode cX3_init 287 = .ok (.dup, 1) := by decide +kernel
theorem dX3_init_288 : decode cX3_init 288 = .ok (.iconst 3, 1) := by decide +kernel
theorem dX3_init_289 : decode cX3_init 289 = .ok (.bipush 36, 2) := by decide +kernel
theorem dX3_init_291 : decode cX3_init 291 = .ok (.iastore, 1) := by decide +kernel
theorem dX3_init_292 : decode cX3_init 292 = .ok (.dup, 1) := by decide +kernel
theorem dX3_init_293 : decode cX3_init 293 = .ok (.iconst 4, 1) := by decide +kernel
theorem dX3_init_294 : decode cX3_init 294 = .ok (.bipush 25, 2) := by decide +kernel
theorem dX3_init_296 : decode cX3_init 296 = .ok (.iastore, 1) := by decide +kernel
theorem dX3_init_297 : decode cX3_init 297 = .ok (.dup, 1) := by decide +kernel
theorem dX3_init_298 : decode cX3_init 298 = .ok (.iconst 5, 1) := by decide +kernel
theorem dX3_init_299 : decode cX3_init 299 = .ok (.bipush 18, 2) := by decide +kernel
theorem dX3_init_301 : decode cX3_init 301 = .ok (.iastore, 1) := by decide +kernel
theorem dX3_init_302 : decode cX3_init 302 = .ok (.dup, 1) := by decide +kernel
theorem dX3_init_303 : decode cX3_init 303 = .ok (.bipush 6, 2) := by decide +kernel
theorem dX3_init_305 : decode cX3_init 305 = .ok (.bipush 13, 2) := by decide +kernel
theorem dX3_init_307 : decode cX3_init 307 = .ok (.iastore, 1) := by decide +kernel
theorem dX3_init_308 : decode cX3_init 308 = .ok (.dup, 1) := by decide +kernel
theorem dX3_init_309 : decode cX3_init 309 = .ok (.bipush 7, 2) := by decide +kernel
theorem dX3_init_311 : decode cX3_init 311 = .ok (.bipush 9, 2) := by decide +kernel
theorem dX3_init_313 : decode cX3_init 313 = .ok (.iastore, 1) := by decide +kernel
theorem dX3_init_314 : decode cX3_init 314 = .ok (.dup, 1) := by decide +kernel
theorem dX3_init_315 : decode cX3_init 315 = .ok (.bipush 8, 2) := by decide +kernel
theorem dX3_init_317 : decode cX3_init 317 = .ok (.bipush 6, 2) := by decide +kernel
theorem dX3_init_319 : decode cX3_init 319 = .ok (.iastore, 1) := by decide +kernel
theorem dX3_init_320 : decode cX3_init 320 = .ok (.dup, 1) := by decide +kernel
theorem dX3_init_321 : decode cX3_init 321 = .ok (.bipush 9, 2) := by decide +kernel
theorem dX3_init_323 : decode cX3_init 323 = .ok (.iconst 4, 1) := by decide +kernel
theorem dX3_init_324 : decode cX3_init 324 = .ok (.iastore, 1) := by decide +kernel
theorem dX3_init_325 : decode cX3_init 325 = .ok (.dup, 1) := by decide +kernel
theorem dX3_init_326 : decode cX3_init 326 = .ok (.bipush 10, 2) := by decide +kernel
theorem dX3_init_328 : decode cX3_init 328 = .ok (.iconst 3, 1) := by decide +kernel
theorem dX3_init_329 : decode cX3_init 329 = .ok (.iastore, 1) := by decide +kernel
theorem dX3_init_330 : decode cX3_init 330 = .ok (.dup, 1) := by decide +kernel
theorem dX3_init_331 : decode cX3_init 331 = .ok (.bipush 11, 2) := by decide +kernel
theorem dX3_init_333 : decode cX3_init 333 = .ok (.iconst 2, 1) := by decide +kernel
theorem dX3_init_334 : decode cX3_init 334 = .ok (.iastore, 1) := by decide +kernel
theorem dX3_init_335 : decode cX3_init 335 = .ok (.dup, 1) := by decide +kernel
theorem dX3_init_336 : decode cX3_init 336 = .ok (.bipush 12, 2) := by decide +kernel
theorem dX3_init_338 : decode cX3_init 338 = .ok (.iconst 2, 1) := by decide +kernel
theorem dX3_init_339 : decode cX3_init 339 = .ok (.iastore, 1) := by decide +kernel
theorem dX3_init_340 : decode cX3_init 340 = .ok (.dup, 1) := by decide +kernel
theorem dX3_init_341 : decode cX3_init 341 = .ok (.bipush 13, 2) := by decide +kernel
theorem dX3_init_343 : decode cX3_init 343 = .ok (.iconst 1, 1) := by decide +kernel
theorem dX3_init_344 : decode cX3_init 344 = .ok (.iastore, 1) := by decide +kernel
theorem dX3_init_345 : decode cX3_init 345 = .ok (.dup, 1) := by decide +kernel
theorem dX3_init_346 : decode cX3_init 346 = .ok (.bipush 14, 2) := by decide +kernel
theorem dX3_init_348 : decode cX3_init 348 = .ok (.iconst 1, 1) := by decide +kernel
theorem dX3_init_349 : decode cX3_init 349 = .ok (.iastore, 1) := by decide +kernel
theorem dX3_init_350 : decode cX3_init 350 = .ok (.dup, 1) := by decide +kernel
theorem dX3_init_351 : decode cX3_init 351 = .ok (.bipush 15, 2) := by decide +kernel
theorem dX3_init_353 : decode cX3_init 353 = .ok (.iconst 1, 1) := by decide +kernel
theorem dX3_init_354 : decode cX3_init 354 = .ok (.iastore, 1) := by decide +kernel
theorem dX3_init_355 : decode cX3_init 355 = .ok (.putfield 74, 3) := by decide +kernel
theorem dX3_init_358 : decode cX3_init 358 = .ok (.return_, 1) := by decide +kernel
theorem dX3_isIn_0 : decode cX3_isIn 0 = .ok (.iload_n 0, 1) := by decide +kernel
theorem dX3_isIn_1 : decode cX3_isIn 1 = .ok (.iload_n 1, 1) := by decide +kernel
theorem dX3_isIn_2 : decode cX3_isIn 2 = .ok (.if_icmp .lt 12, 3) := by decide +kernel
theorem dX3_isIn_5 : decode cX3_isIn 5 = .ok (.iload_n 0, 1) := by decide +kernel
theorem dX3_isIn_6 : decode cX3_isIn 6 = .ok (.iload_n 2, 1) := by decide +kernel
theorem dX3_isIn_7 : decode cX3_isIn 7 = .ok (.if_icmp .gt 7, 3) := by decide +kernel
theorem dX3_isIn_10 : decode cX3_isIn 10 = .ok (.iconst 1, 1) := by decide +kernel
theorem dX3_isIn_11 : decode cX3_isIn 11 = .ok (.goto 4, 3) := by decide +kernel
theorem dX3_isIn_14 : decode cX3_isIn 14 = .ok (.iconst 0, 1) := by decide +kernel
theorem dX3_isIn_15 : decode cX3_isIn 15 = .ok (.ireturn, 1) := by decide +kernel
theorem dX3_begin_0 : decode cX3_begin 0 = .ok (.aload_n 0, 1) := by decide +kernel
theorem dX3_begin_1 : decode cX3_begin 1 = .ok (.getfield 7, 3) := by decide +kernel
theorem dX3_begin_4 : decode cX3_begin 4 = .ok (.iload_n 1, 1) := by decide +kernel
theorem dX3_begin_5 : decode cX3_begin 5 = .ok (.sipush 254, 3) := by decide +kernel
theorem dX3_begin_8 : decode cX3_begin 8 = .ok (.iastore, 1) := by decide +kernel
theorem dX3_begin_9 : decode cX3_begin 9 = .ok (.aload_n 0, 1) := by decide +kernel
theorem dX3_begin_10 : decode cX3_begin 10 = .ok (.getfield 13, 3) := by decide +kernel
theorem dX3_begin_13 : decode cX3_begin 13 = .ok (.iload_n 1, 1) := by decide +kernel
theorem dX3_begin_14 : decode cX3_begin 14 = .ok (.iconst 1, 1) := by decide +kernel
theorem dX3_begin_15 : decode cX3_begin 15 = .ok (.iastore, 1) := by decide +kernel
theorem dX3_begin_16 : decode cX3_begin 16 = .ok (.aload_n 0, 1) := by decide +kernel
theorem dX3_begin_17 : decode cX3_begin 17 = .ok (.getfield 16, 3) := by decide +kernel
theorem dX3_begin_20 : decode cX3_begin 20 = .ok (.iload_n 1, 1) := by decide +kernel
theorem dX3_begin_21 : decode cX3_begin 21 = .ok (.sipush 254, 3) := by decide +kernel
theorem dX3_begin_24 : decode cX3_begin 24 = .ok (.iastore, 1) := by decide +kernel
theorem dX3_begin_25 : decode cX3_begin 25 = .ok (.aload_n 0, 1) := by decide +kernel
theorem dX3_begin_26 : decode cX3_begin 26 = .ok (.getfield 19, 3) := by decide +kernel
theorem dX3_begin_29 : decode cX3_begin 29 = .ok (.iload_n 1, 1) := by decide +kernel
theorem dX3_begin_30 : decode cX3_begin 30 = .ok (.sipush 254, 3) := by decide +kernel
theorem dX3_begin_33 : decode cX3_begin 33 = .ok (.iastore, 1) := by decide +kernel
theorem dX3_begin_34 : decode cX3_begin 34 = .ok (.aload_n 0, 1) := by decide +kernel
theorem dX3_begin_35 : decode cX3_begin 35 = .ok (.getfield 22, 3) := by decide +kernel
theorem dX3_begin_38 : decode cX3_begin 38 = .ok (.iload_n 1, 1) := by decide +kernel
theorem dX3_begin_39 : decode cX3_begin 39 = .ok (.sipush 254, 3) := by decide +kernel
theorem dX3_begin_42 : decode cX3_begin 42 = .ok (.iastore, 1) := by decide +kernel
theorem dX3_begin_43 : decode cX3_begin 43 = .ok (.aload_n 0, 1) := by decide +kernel
theorem dX3_begin_44 : decode cX3_begin 44 = .ok (.getfield 25, 3) := by decide +kernel
theorem dX3_begin_47 : decode cX3_begin 47 = .ok (.iload_n 1, 1) := by decide +kernel
theorem dX3_begin_48 : decode cX3_begin 48 = .ok (.iconst 0, 1) := by decide +kernel
theorem dX3_begin_49 : decode cX3_begin 49 = .ok (.iastore, 1) := by decide +kernel
theorem dX3_begin_50 : decode cX3_begin 50 = .ok (.aload_n 0, 1) := by decide +kernel
theorem dX3_begin_51 : decode cX3_begin 51 = .ok (.getfield 28, 3) := by decide +kernel
theorem dX3_begin_54 : decode cX3_begin 54 = .ok (.iload_n 1, 1) := by decide +kernel
theorem dX3_begin_55 : decode cX3_begin 55 = .ok (.bipush 7, 2) := by decide +kernel
theorem dX3_begin_57 : decode cX3_begin 57 = .ok (.iastore, 1) := by decide +kernel
theorem dX3_begin_58 : decode cX3_begin 58 = .ok (.aload_n 0, 1) := by decide +kernel
theorem dX3_begin_59 : decode cX3_begin 59 = .ok (.getfield 31, 3) := by decide +kernel
theorem dX3_begin_62 : decode cX3_begin 62 = .ok (.iload_n 1, 1) := by decide +kernel
theorem dX3_begin_63 : decode cX3_begin 63 = .ok (.iconst 0, 1) := by decide +kernel
theorem dX3_begin_64 : decode cX3_begin 64 = .ok (.iastore, 1) := by decide +kernel
theorem dX3_begin_65 : decode cX3_begin 65 = .ok (.iconst 0, 1) := by decide +kernel
theorem dX3_begin_66 : decode cX3_begin 66 = .ok (.istore_n 2, 1) := by decide +kernel
theorem dX3_begin_67 : decode cX3_begin 67 = .ok (.iload_n 2, 1) := by decide +kernel
theorem dX3_begin_68 : decode cX3_begin 68 = .ok (.bipush 16, 2) := by decide +kernel
theorem dX3_begin_70 : decode cX3_begin 70 = .ok (.if_icmp .ge 23, 3) := by decide +kernel
theorem dX3_begin_73 : decode cX3_begin 73 = .ok (.aload_n 0, 1) := by decide +kernel
theorem dX3_begin_74 : decode cX3_begin 74 = .ok (.getfield 34, 3) := by decide +kernel
theorem dX3_begin_77 : decode cX3_begin 77 = .ok (.bipush 16, 2) := by decide +kernel
theorem dX3_begin_79 : decode cX3_begin 79 = .ok (.iload_n 1, 1) := by decide +kernel
theorem dX3_begin_80 : decode cX3_begin 80 = .ok (.imul, 1) := by decide +kernel
theorem dX3_begin_81 : decode cX3_begin 81 = .ok (.iload_n 2, 1) := by decide +kernel
theorem dX3_begin_82 : decode cX3_begin 82 = .ok (.iadd, 1) := by decide +kernel
theorem dX3_begin_83 : decode cX3_begin 83 = .ok (.sipush 255, 3) := by decide +kernel
theorem dX3_begin_86 : decode cX3_begin 86 = .ok (.iastore, 1) := by decide +kernel
theorem dX3_begin_87 : decode cX3_begin 87 = .ok (.iinc 2 1, 3) := by decide +kernel
theorem dX3_begin_90 : decode cX3_begin 90 = .ok (.goto (-23), 3) := by decide +kernel
theorem dX3_begin_93 : decode cX3_begin 93 = .ok (.aload_n 0, 1) := by decide +kernel
theorem dX3_begin_94 : decode cX3_begin 94 = .ok (.getfield 40, 3) := by decide +kernel
theorem dX3_begin_97 : decode cX3_begin 97 = .ok (.iload_n 1, 1) := by decide +kernel
theorem dX3_begin_98 : decode cX3_begin 98 = .ok (.ldc 81, 2) := by decide +kernel
theorem dX3_begin_100 : decode cX3_begin 100 = .ok (.iastore, 1) := by decide +kernel
theorem dX3_begin_101 : decode cX3_begin 101 = .ok (.aload_n 0, 1) := by decide +kernel
theorem dX3_begin_102 : decode cX3_begin 102 = .ok (.getfield 59, 3) := by decide +kernel
theorem dX3_begin_105 : decode cX3_begin 105 = .ok (.iload_n 1, 1) := by decide +kernel
theorem dX3_begin_106 : decode cX3_begin 106 = .ok (.iconst (-1), 1) := by decide +kernel
theorem dX3_begin_107 : decode cX3_begin 107 = .ok (.iastore, 1) := by decide +kernel
theorem dX3_begin_108 : decode cX3_begin 108 = .ok (.return_, 1) := by decide +kernel
theorem dX3_gear_0 : decode cX3_gear 0 = .ok (.aload_n 0, 1) := by decide +kernel
theorem dX3_gear_1 : decode cX3_gear 1 = .ok (.getfield 82, 3) := by decide +kernel
theorem dX3_gear_4 : decode cX3_gear 4 = .ok (.bipush 16, 2) := by decide +kernel
theorem dX3_gear_6 : decode cX3_gear 6 = .ok (.if_icmp .ne 6, 3) := by decide +kernel
theorem dX3_gear_9 : decode cX3_gear 9 = .ok (.bipush (-2), 2) := by decide +kernel
theorem dX3_gear_11 : decode cX3_gear 11 = .ok (.ireturn, 1) := by decide +kernel
theorem dX3_gear_12 : decode cX3_gear 12 = .ok (.aload_n 0, 1) := by decide +kernel
theorem dX3_gear_13 : decode cX3_gear 13 = .ok (.aload_n 0, 1) := by decide +kernel
theorem dX3_gear_14 : decode cX3_gear 14 = .ok (.getfield 82, 3) := by decide +kernel
theorem dX3_gear_17 : decode cX3_gear 17 = .ok (.invokevirtual 85, 3) := by decide +kernel
theorem dX3_gear_20 : decode cX3_gear 20 = .ok (.aload_n 0, 1) := by decide +kernel
theorem dX3_gear_21 : decode cX3_gear 21 = .ok (.getfield 37, 3) := by decide +kernel
theorem dX3_gear_24 : decode cX3_gear 24 = .ok (.aload_n 0, 1) := by decide +kernel
theorem dX3_gear_25 : decode cX3_gear 25 = .ok (.getfield 82, 3) := by decide +kernel
theorem dX3_gear_28 : decode cX3_gear 28 = .ok (.sipush 255, 3) := by decide +kernel
theorem dX3_gear_31 : decode cX3_gear 31 = .ok (.iastore, 1) := by decide +kernel
theorem dX3_gear_32 : decode cX3_gear 32 = .ok (.aload_n 0, 1) := by decide +kernel
theorem dX3_gear_33 : decode cX3_gear 33 = .ok (.getfield 46, 3) := by decide +kernel
theorem dX3_gear_36 : decode cX3_gear 36 = .ok (.aload_n 0, 1) := by decide +kernel
theorem dX3_gear_37 : decode cX3_gear 37 = .ok (.getfield 82, 3) := by decide +kernel
theorem dX3_gear_40 : decode cX3_gear 40 = .ok (.ldc 81, 2) := by decide +kernel
theorem dX3_gear_42 : decode cX3_gear 42 = .ok (.iastore, 1) := by decide +kernel
theorem dX3_gear_43 : decode cX3_gear 43 = .ok (.aload_n 0, 1) := by decide +kernel
theorem dX3_gear_44 : decode cX3_gear 44 = .ok (.dup, 1) := by decide +kernel
theorem dX3_gear_45 : decode cX3_gear 45 = .ok (.getfield 82, 3) := by decide +kernel
theorem dX3_gear_48 : decode cX3_gear 48 = .ok (.iconst 1, 1) := by decide +kernel
theorem dX3_gear_49 : decode cX3_gear 49 = .ok (.iadd, 1) := by decide +kernel
theorem dX3_gear_50 : decode cX3_gear 50 = .ok (.putfield 82, 3) := by decide +kernel
theorem dX3_gear_53 : decode cX3_gear 53 = .ok (.aload_n 0, 1) := by decide +kernel
theorem dX3_gear_54 : decode cX3_gear 54 = .ok (.getfield 82, 3) := by decide +kernel
theorem dX3_gear_57 : decode cX3_gear 57 = .ok (.iconst 1, 1) := by decide +kernel
theorem dX3_gear_58 : decode cX3_gear 58 = .ok (.isub, 1) := by decide +kernel
theorem dX3_gear_59 : decode cX3_gear 59 = .ok (.ireturn, 1) := by decide +kernel
theorem dX3_no_0 : decode cX3_no 0 = .ok (.iload_n 1, 1) := by decide +kernel
theorem dX3_no_1 : decode cX3_no 1 = .ok (.ifCond .lt 11, 3) := by decide +kernel
theorem dX3_no_4 : decode cX3_no 4 = .ok (.iload_n 1, 1) := by decide +kernel
theorem dX3_no_5 : decode cX3_no 5 = .ok (.aload_n 0, 1) := by decide +kernel
theorem dX3_no_6 : decode cX3_no 6 = .ok (.getfield 82, 3) := by decide +kernel
theorem dX3_no_9 : decode cX3_no 9 = .ok (.if_icmp .lt 7, 3) := by decide +kernel
theorem dX3_no_12 : decode cX3_no 12 = .ok (.iconst 1, 1) := by decide +kernel
theorem dX3_no_13 : decode cX3_no 13 = .ok (.goto 4, 3) := by decide +kernel
theorem dX3_no_16 : decode cX3_no 16 = .ok (.iconst 0, 1) := by decide +kernel
theorem dX3_no_17 : decode cX3_no 17 = .ok (.ireturn, 1) := by decide +kernel
theorem dX3_give_0 : decode cX3_give 0 = .ok (.aload_n 0, 1) := by decide +kernel
theorem dX3_give_1 : decode cX3_give 1 = .ok (.iload_n 1, 1) := by decide +kernel
theorem dX3_give_2 : decode cX3_give 2 = .ok (.invokevirtual 89, 3) := by decide +kernel
theorem dX3_give_5 : decode cX3_give 5 = .ok (.ifCond .ne 13, 3) := by decide +kernel
theorem dX3_give_8 : decode cX3_give 8 = .ok (.iload_n 2, 1) := by decide +kernel
theorem dX3_give_9 : decode cX3_give 9 = .ok (.iconst 0, 1) := by decide +kernel
theorem dX3_give_10 : decode cX3_give 10 = .ok (.ldc 81, 2) := by decide +kernel
theorem dX3_give_12 : decode cX3_give 12 = .ok (.invokestatic 93, 3) := by decide +kernel
theorem dX3_give_15 : decode cX3_give 15 = .ok (.ifCond .ne 5, 3) := by decide +kernel
theorem dX3_give_18 : decode cX3_give 18 = .ok (.iconst 0, 1) := by decide +kernel
theorem dX3_give_19 : decode cX3_give 19 = .ok (.ireturn, 1) := by decide +kernel
theorem dX3_give_20 : decode cX3_give 20 = .ok (.aload_n 0, 1) := by decide +kernel
theorem dX3_give_21 : decode cX3_give 21 = .ok (.getfield 49, 3) := by decide +kernel
theorem dX3_give_24 : decode cX3_give 24 = .ok (.iload_n 1, 1) := by decide +kernel
theorem dX3_give_25 : decode cX3_give 25 = .ok (.iload_n 2, 1) := by decide +kernel
theorem dX3_give_26 : decode cX3_give 26 = .ok (.iastore, 1) := by decide +kernel
theorem dX3_give_27 : decode cX3_give 27 = .ok (.iconst 1, 1) := by decide +kernel
theorem dX3_give_28 : decode cX3_give 28 = .ok (.ireturn, 1) := by decide +kernel
theorem dX3_set_0 : decode cX3_set 0 = .ok (.aload_n 0, 1) := by decide +kernel
theorem dX3_set_1 : decode cX3_set 1 = .ok (.getfield 7, 3) := by decide +kernel
theorem dX3_set_4 : decode cX3_set 4 = .ok (.iload_n 1, 1) := by decide +kernel
theorem dX3_set_5 : decode cX3_set 5 = .ok (.iload_n 2, 1) := by decide +kernel
theorem dX3_set_6 : decode cX3_set 6 = .ok (.iastore, 1) := by decide +kernel
theorem dX3_set_7 : decode cX3_set 7 = .ok (.aload_n 0, 1) := by decide +kernel
theorem dX3_set_8 : decode cX3_set 8 = .ok (.getfield 59, 3) := by decide +kernel
theorem dX3_set_11 : decode cX3_set 11 = .ok (.iload_n 1, 1) := by decide +kernel
theorem dX3_set_12 : decode cX3_set 12 = .ok (.iconst (-1), 1) := by decide +kernel
theorem dX3_set_13 : decode cX3_set 13 = .ok (.iastore, 1) := by decide +kernel
theorem dX3_set_14 : decode cX3_set 14 = .ok (.return_, 1) := by decide +kernel
theorem dX3_within_0 : decode cX3_within 0 = .ok (.iload_n 2, 1) := by decide +kernel
theorem dX3_within_1 : decode cX3_within 1 = .ok (.aload_n 0, 1) := by decide +kernel
theorem dX3_within_2 : decode cX3_within 2 = .ok (.getfield 13, 3) := by decide +kernel
theorem dX3_within_5 : decode cX3_within 5 = .ok (.iload_n 1, 1) := by decide +kernel
theorem dX3_within_6 : decode cX3_within 6 = .ok (.iaload, 1) := by decide +kernel
theorem dX3_within_7 : decode cX3_within 7 = .ok (.if_icmp .ge 12, 3) := by decide +kernel
theorem dX3_within_10 : decode cX3_within 10 = .ok (.aload_n 0, 1) := by decide +kernel
theorem dX3_within_11 : decode cX3_within 11 = .ok (.getfield 13, 3) := by decide +kernel
theorem dX3_within_14 : decode cX3_within 14 = .ok (.iload_n 1, 1) := by decide +kernel
theorem dX3_within_15 : decode cX3_within 15 = .ok (.iaload, 1) := by decide +kernel
theorem dX3_within_16 : decode cX3_within 16 = .ok (.goto 23, 3) := by decide +kernel
theorem dX3_within_19 : decode cX3_within 19 = .ok (.iload_n 2, 1) := by decide +kernel
theorem dX3_within_20 : decode cX3_within 20 = .ok (.aload_n 0, 1) := by decide +kernel
theorem dX3_within_21 : decode cX3_within 21 = .ok (.getfield 16, 3) := by decide +kernel
theorem dX3_within_24 : decode cX3_within 24 = .ok (.iload_n 1, 1) := by decide +kernel
theorem dX3_within_25 : decode cX3_within 25 = .ok (.iaload, 1) := by decide +kernel
theorem dX3_within_26 : decode cX3_within 26 = .ok (.if_icmp .le 12, 3) := by decide +kernel
theorem dX3_within_29 : decode cX3_within 29 = .ok (.aload_n 0, 1) := by decide +kernel
theorem dX3_within_30 : decode cX3_within 30 = .ok (.getfield 16, 3) := by decide +kernel
theorem dX3_within_33 : decode cX3_within 33 = .ok (.iload_n 1, 1) := by decide +kernel
theorem dX3_within_34 : decode cX3_within 34 = .ok (.iaload, 1) := by decide +kernel
theorem dX3_within_35 : decode cX3_within 35 = .ok (.goto 4, 3) := by decide +kernel
theorem dX3_within_38 : decode cX3_within 38 = .ok (.iload_n 2, 1) := by decide +kernel
theorem dX3_within_39 : decode cX3_within 39 = .ok (.ireturn, 1) := by decide +kernel
theorem dX3_goTo_0 : decode cX3_goTo 0 = .ok (.iload_n 2, 1) := by decide +kernel
theorem dX3_goTo_1 : decode cX3_goTo 1 = .ok (.ifCond .ne 7, 3) := by decide +kernel
theorem dX3_goTo_4 : decode cX3_goTo 4 = .ok (.iconst 0, 1) := by decide +kernel
theorem dX3_goTo_5 : decode cX3_goTo 5 = .ok (.goto 9, 3) := by decide +kernel
theorem dX3_goTo_8 : decode cX3_goTo 8 = .ok (.aload_n 0, 1) := by decide +kernel
theorem dX3_goTo_9 : decode cX3_goTo 9 = .ok (.iload_n 1, 1) := by decide +kernel
theorem dX3_goTo_10 : decode cX3_goTo 10 = .ok (.iload_n 2, 1) := by decide +kernel
theorem dX3_goTo_11 : decode cX3_goTo 11 = .ok (.invokevirtual 97, 3) := by decide +kernel
theorem dX3_goTo_14 : decode cX3_goTo 14 = .ok (.istore_n 3, 1) := by decide +kernel
theorem dX3_goTo_15 : decode cX3_goTo 15 = .ok (.aload_n 0, 1) := by decide +kernel
theorem dX3_goTo_16 : decode cX3_goTo 16 = .ok (.getfield 25, 3) := by decide +kernel
theorem dX3_goTo_19 : decode cX3_goTo 19 = .ok (.iload_n 1, 1) := by decide +kernel
theorem dX3_goTo_20 : decode cX3_goTo 20 = .ok (.iaload, 1) := by decide +kernel
theorem dX3_goTo_21 : decode cX3_goTo 21 = .ok (.ifCond .eq 31, 3) := by decide +kernel
theorem dX3_goTo_24 : decode cX3_goTo 24 = .ok (.aload_n 0, 1) := by decide +kernel
theorem dX3_goTo_25 : decode cX3_goTo 25 = .ok (.getfield 7, 3) := by decide +kernel
theorem dX3_goTo_28 : decode cX3_goTo 28 = .ok (.iload_n 1, 1) := by decide +kernel
theorem dX3_goTo_29 : decode cX3_goTo 29 = .ok (.iaload, 1) := by decide +kernel
theorem dX3_goTo_30 : decode cX3_goTo 30 = .ok (.ifCond .eq 22, 3) := by decide +kernel
theorem dX3_goTo_33 : decode cX3_goTo 33 = .ok (.iload_n 3, 1) := by decide +kernel
theorem dX3_goTo_34 : decode cX3_goTo 34 = .ok (.ifCond .ne 27, 3) := by decide +kernel
theorem dX3_goTo_37 : decode cX3_goTo 37 = .ok (.aload_n 0, 1) := by decide +kernel
theorem dX3_goTo_38 : decode cX3_goTo 38 = .ok (.getfield 7, 3) := by decide +kernel
theorem dX3_goTo_41 : decode cX3_goTo 41 = .ok (.iload_n 1, 1) := by decide +kernel
theorem dX3_goTo_42 : decode cX3_goTo 42 = .ok (.iaload, 1) := by decide +kernel
theorem dX3_goTo_43 : decode cX3_goTo 43 = .ok (.aload_n 0, 1) := by decide +kernel
theorem dX3_goTo_44 : decode cX3_goTo 44 = .ok (.getfield 13, 3) := by decide +kernel
theorem dX3_goTo_47 : decode cX3_goTo 47 = .ok (.iload_n 1, 1) := by decide +kernel
theorem dX3_goTo_48 : decode cX3_goTo 48 = .ok (.iaload, 1) := by decide +kernel
theorem dX3_goTo_49 : decode cX3_goTo 49 = .ok (.if_icmp .ne 12, 3) := by decide +kernel
theorem dX3_goTo_52 : decode cX3_goTo 52 = .ok (.aload_n 0, 1) := by decide +kernel
theorem dX3_goTo_53 : decode cX3_goTo 53 = .ok (.iload_n 1, 1) := by decide +kernel
theorem dX3_goTo_54 : decode cX3_goTo 54 = .ok (.iload_n 3, 1) := by decide +kernel
theorem dX3_goTo_55 : decode cX3_goTo 55 = .ok (.invokevirtual 101, 3) := by decide +kernel
theorem dX3_goTo_58 : decode cX3_goTo 58 = .ok (.goto 46, 3) := by decide +kernel
theorem dX3_goTo_61 : decode cX3_goTo 61 = .ok (.aload_n 0, 1) := by decide +kernel
theorem dX3_goTo_62 : decode cX3_goTo 62 = .ok (.getfield 59, 3) := by decide +kernel
theorem dX3_goTo_65 : decode cX3_goTo 65 = .ok (.iload_n 1, 1) := by decide +kernel
theorem dX3_goTo_66 : decode cX3_goTo 66 = .ok (.iload_n 3, 1) := by decide +kernel
theorem dX3_goTo_67 : decode cX3_goTo 67 = .ok (.iastore, 1) := by decide +kernel
theorem dX3_goTo_68 : decode cX3_goTo 68 = .ok (.aload_n 0, 1) := by decide +kernel
theorem dX3_goTo_69 : decode cX3_goTo 69 = .ok (.getfield 62, 3) := by decide +kernel
theorem dX3_goTo_72 : decode cX3_goTo 72 = .ok (.iload_n 1, 1) := by decide +kernel
theorem dX3_goTo_73 : decode cX3_goTo 73 = .ok (.aload_n 0, 1) := by decide +kernel
theorem dX3_goTo_74 : decode cX3_goTo 74 = .ok (.getfield 7, 3) := by decide +kernel
theorem dX3_goTo_77 : decode cX3_goTo 77 = .ok (.iload_n 1, 1) := by decide +kernel
theorem dX3_goTo_78 : decode cX3_goTo 78 = .ok (.iaload, 1) := by decide +kernel
theorem dX3_goTo_79 : decode cX3_goTo 79 = .ok (.iastore, 1) := by decide +kernel
theorem dX3_goTo_80 : decode cX3_goTo 80 = .ok (.aload_n 0, 1) := by decide +kernel
theorem dX3_goTo_81 : decode cX3_goTo 81 = .ok (.getfield 65, 3) := by decide +kernel
theorem dX3_goTo_84 : decode cX3_goTo 84 = .ok (.iload_n 1, 1) := by decide +kernel
theorem dX3_goTo_85 : decode cX3_goTo 85 = .ok (.aload_n 0, 1) := by decide +kernel
theorem dX3_goTo_86 : decode cX3_goTo 86 = .ok (.getfield 71, 3) := by decide +kernel
theorem dX3_goTo_89 : decode cX3_goTo 89 = .ok (.aload_n 0, 1) := by decide +kernel
theorem dX3_goTo_90 : decode cX3_goTo 90 = .ok (.getfield 25, 3) := by decide +kernel
theorem dX3_goTo_93 : decode cX3_goTo 93 = .ok (.iload_n 1, 1) := by decide +kernel
theorem dX3_goTo_94 : decode cX3_goTo 94 = .ok (.iaload, 1) := by decide +kernel
theorem dX3_goTo_95 : decode cX3_goTo 95 = .ok (.iaload, 1) := by decide +kernel
theorem dX3_goTo_96 : decode cX3_goTo 96 = .ok (.iastore, 1) := by decide +kernel
theorem dX3_goTo_97 : decode cX3_goTo 97 = .ok (.aload_n 0, 1) := by decide +kernel
theorem dX3_goTo_98 : decode cX3_goTo 98 = .ok (.getfield 68, 3) := by decide +kernel
theorem dX3_goTo_101 : decode cX3_goTo 101 = .ok (.iload_n 1, 1) := by decide +kernel
theorem dX3_goTo_102 : decode cX3_goTo 102 = .ok (.iconst 0, 1) := by decide +kernel
theorem dX3_goTo_103 : decode cX3_goTo 103 = .ok (.iastore, 1) := by decide +kernel
theorem dX3_goTo_104 : decode cX3_goTo 104 = .ok (.return_, 1) := by decide +kernel
theorem dX3_step_0 : decode cX3_step 0 = .ok (.aload_n 0, 1) := by decide +kernel
theorem dX3_step_1 : decode cX3_step 1 = .ok (.getfield 7, 3) := by decide +kernel
theorem dX3_step_4 : decode cX3_step 4 = .ok (.iload_n 1, 1) := by decide +kernel
theorem dX3_step_5 : decode cX3_step 5 = .ok (.iaload, 1) := by decide +kernel
theorem dX3_step_6 : decode cX3_step 6 = .ok (.ifCond .le 21, 3) := by decide +kernel
theorem dX3_step_9 : decode cX3_step 9 = .ok (.aload_n 0, 1) := by decide +kernel
theorem dX3_step_10 : decode cX3_step 10 = .ok (.iload_n 1, 1) := by decide +kernel
theorem dX3_step_11 : decode cX3_step 11 = .ok (.aload_n 0, 1) := by decide +kernel
theorem dX3_step_12 : decode cX3_step 12 = .ok (.iload_n 1, 1) := by decide +kernel
theorem dX3_step_13 : decode cX3_step 13 = .ok (.aload_n 0, 1) := by decide +kernel
theorem dX3_step_14 : decode cX3_step 14 = .ok (.getfield 7, 3) := by decide +kernel
theorem dX3_step_17 : decode cX3_step 17 = .ok (.iload_n 1, 1) := by decide +kernel
theorem dX3_step_18 : decode cX3_step 18 = .ok (.iaload, 1) := by decide +kernel
theorem dX3_step_19 : decode cX3_step 19 = .ok (.iload_n 2, 1) := by decide +kernel
theorem dX3_step_20 : decode cX3_step 20 = .ok (.iadd, 1) := by decide +kernel
theorem dX3_step_21 : decode cX3_step 21 = .ok (.invokevirtual 97, 3) := by decide +kernel
theorem dX3_step_24 : decode cX3_step 24 = .ok (.invokevirtual 101, 3) := by decide +kernel
theorem dX3_step_27 : decode cX3_step 27 = .ok (.return_, 1) := by decide +kernel
theorem dX3_bring_0 : decode cX3_bring 0 = .ok (.aload_n 0, 1) := by decide +kernel
theorem dX3_bring_1 : decode cX3_bring 1 = .ok (.getfield 7, 3) := by decide +kernel
theorem dX3_bring_4 : decode cX3_bring 4 = .ok (.iload_n 1, 1) := by decide +kernel
theorem dX3_bring_5 : decode cX3_bring 5 = .ok (.iaload, 1) := by decide +kernel
theorem dX3_bring_6 : decode cX3_bring 6 = .ok (.ifCond .le 19, 3) := by decide +kernel
theorem dX3_bring_9 : decode cX3_bring 9 = .ok (.aload_n 0, 1) := by decide +kernel
theorem dX3_bring_10 : decode cX3_bring 10 = .ok (.iload_n 1, 1) := by decide +kernel
theorem dX3_bring_11 : decode cX3_bring 11 = .ok (.aload_n 0, 1) := by decide +kernel
theorem dX3_bring_12 : decode cX3_bring 12 = .ok (.iload_n 1, 1) := by decide +kernel
theorem dX3_bring_13 : decode cX3_bring 13 = .ok (.aload_n 0, 1) := by decide +kernel
theorem dX3_bring_14 : decode cX3_bring 14 = .ok (.getfield 7, 3) := by decide +kernel
theorem dX3_bring_17 : decode cX3_bring 17 = .ok (.iload_n 1, 1) := by decide +kernel
theorem dX3_bring_18 : decode cX3_bring 18 = .ok (.iaload, 1) := by decide +kernel
theorem dX3_bring_19 : decode cX3_bring 19 = .ok (.invokevirtual 97, 3) := by decide +kernel
theorem dX3_bring_22 : decode cX3_bring 22 = .ok (.invokevirtual 101, 3) := by decide +kernel
theorem dX3_bring_25 : decode cX3_bring 25 = .ok (.return_, 1) := by decide +kernel
theorem dX3_say_0 : decode cX3_say 0 = .ok (.aload_n 0, 1) := by decide +kernel
theorem dX3_say_1 : decode cX3_say 1 = .ok (.aload_n 0, 1) := by decide +kernel
theorem dX3_say_2 : decode cX3_say 2 = .ok (.getfield 105, 3) := by decide +kernel
theorem dX3_say_5 : decode cX3_say 5 = .ok (.iconst (-1), 1) := by decide +kernel
theorem dX3_say_6 : decode cX3_say 6 = .ok (.if_icmp .eq 11, 3) := by decide +kernel
theorem dX3_say_9 : decode cX3_say 9 = .ok (.aload_n 0, 1) := by decide +kernel
theorem dX3_say_10 : decode cX3_say 10 = .ok (.getfield 105, 3) := by decide +kernel
theorem dX3_say_13 : decode cX3_say 13 = .ok (.iload_n 1, 1) := by decide +kernel
theorem dX3_say_14 : decode cX3_say 14 = .ok (.if_icmp .ne 7, 3) := by decide +kernel
theorem dX3_say_17 : decode cX3_say 17 = .ok (.iload_n 1, 1) := by decide +kernel
theorem dX3_say_18 : decode cX3_say 18 = .ok (.goto 6, 3) := by decide +kernel
theorem dX3_say_21 : decode cX3_say 21 = .ok (.sipush 256, 3) := by decide +kernel
theorem dX3_say_24 : decode cX3_say 24 = .ok (.putfield 105, 3) := by decide +kernel
theorem dX3_say_27 : decode cX3_say 27 = .ok (.return_, 1) := by decide +kernel
theorem dX3_command_0 : decode cX3_command 0 = .ok (.iload_n 2, 1) := by decide +kernel
theorem dX3_command_1 : decode cX3_command 1 = .ok (.bipush 9, 2) := by decide +kernel
theorem dX3_command_3 : decode cX3_command 3 = .ok (.if_icmp .ge 12, 3) := by decide +kernel
theorem dX3_command_6 : decode cX3_command 6 = .ok (.aload_n 0, 1) := by decide +kernel
theorem dX3_command_7 : decode cX3_command 7 = .ok (.iload_n 1, 1) := by decide +kernel
theorem dX3_command_8 : decode cX3_command 8 = .ok (.iload_n 2, 1) := by decide +kernel
theorem dX3_command_9 : decode cX3_command 9 = .ok (.invokevirtual 108, 3) := by decide +kernel
theorem dX3_command_12 : decode cX3_command 12 = .ok (.goto 79, 3) := by decide +kernel
theorem dX3_command_15 : decode cX3_command 15 = .ok (.iload_n 2, 1) := by decide +kernel
theorem dX3_command_16 : decode cX3_command 16 = .ok (.bipush 16, 2) := by decide +kernel
theorem dX3_command_18 : decode cX3_command 18 = .ok (.bipush 31, 2) := by decide +kernel
theorem dX3_command_20 : decode cX3_command 20 = .ok (.invokestatic 93, 3) := by decide +kernel
theorem dX3_command_23 : decode cX3_command 23 = .ok (.ifCond .eq 37, 3) := by decide +kernel
theorem dX3_command_26 : decode cX3_command 26 = .ok (.aload_n 0, 1) := by decide +kernel
theorem dX3_command_27 : decode cX3_command 27 = .ok (.getfield 34, 3) := by decide +kernel
theorem dX3_command_30 : decode cX3_command 30 = .ok (.bipush 16, 2) := by decide +kernel
theorem dX3_command_32 : decode cX3_command 32 = .ok (.iload_n 1, 1) := by decide +kernel
theorem dX3_command_33 : decode cX3_command 33 = .ok (.imul, 1) := by decide +kernel
theorem dX3_command_34 : decode cX3_command 34 = .ok (.iload_n 2, 1) := by decide +kernel
theorem dX3_command_35 : decode cX3_command 35 = .ok (.iadd, 1) := by decide +kernel
theorem dX3_command_36 : decode cX3_command 36 = .ok (.bipush 16, 2) := by decide +kernel
theorem dX3_command_38 : decode cX3_command 38 = .ok (.isub, 1) := by decide +kernel
theorem dX3_command_39 : decode cX3_command 39 = .ok (.iaload, 1) := by decide +kernel
theorem dX3_command_40 : decode cX3_command 40 = .ok (.istore 4, 2) := by decide +kernel
theorem dX3_command_42 : decode cX3_command 42 = .ok (.iload 4, 2) := by decide +kernel
theorem dX3_command_44 : decode cX3_command 44 = .ok (.sipush 255, 3) := by decide +kernel
theorem dX3_command_47 : decode cX3_command 47 = .ok (.if_icmp .eq 10, 3) := by decide +kernel
theorem dX3_command_50 : decode cX3_command 50 = .ok (.aload_n 0, 1) := by decide +kernel
theorem dX3_command_51 : decode cX3_command 51 = .ok (.iload_n 1, 1) := by decide +kernel
theorem dX3_command_52 : decode cX3_command 52 = .ok (.iload 4, 2) := by decide +kernel
theorem dX3_command_54 : decode cX3_command 54 = .ok (.invokevirtual 111, 3) := by decide +kernel
theorem dX3_command_57 : decode cX3_command 57 = .ok (.goto 34, 3) := by decide +kernel
theorem dX3_command_60 : decode cX3_command 60 = .ok (.iload_n 2, 1) := by decide +kernel
theorem dX3_command_61 : decode cX3_command 61 = .ok (.bipush 32, 2) := by decide +kernel
theorem dX3_command_63 : decode cX3_command 63 = .ok (.sipush 128, 3) := by decide +kernel
theorem dX3_command_66 : decode cX3_command 66 = .ok (.invokestatic 93, 3) := by decide +kernel
theorem dX3_command_69 : decode cX3_command 69 = .ok (.ifCond .eq 16, 3) := by decide +kernel
theorem dX3_command_72 : decode cX3_command 72 = .ok (.iload_n 3, 1) := by decide +kernel
theorem dX3_command_73 : decode cX3_command 73 = .ok (.ifCond .eq 18, 3) := by decide +kernel
theorem dX3_command_76 : decode cX3_command 76 = .ok (.aload_n 0, 1) := by decide +kernel
theorem dX3_command_77 : decode cX3_command 77 = .ok (.iload_n 1, 1) := by decide +kernel
theorem dX3_command_78 : decode cX3_command 78 = .ok (.iload_n 2, 1) := by decide +kernel
theorem dX3_command_79 : decode cX3_command 79 = .ok (.invokevirtual 114, 3) := by decide +kernel
theorem dX3_command_82 : decode cX3_command 82 = .ok (.goto 9, 3) := by decide +kernel
theorem dX3_command_85 : decode cX3_command 85 = .ok (.aload_n 0, 1) := by decide +kernel
theorem dX3_command_86 : decode cX3_command 86 = .ok (.iload_n 1, 1) := by decide +kernel
theorem dX3_command_87 : decode cX3_command 87 = .ok (.iload_n 2, 1) := by decide +kernel
theorem dX3_command_88 : decode cX3_command 88 = .ok (.invokevirtual 117, 3) := by decide +kernel
theorem dX3_command_91 : decode cX3_command 91 = .ok (.return_, 1) := by decide +kernel
theorem dX3_level_0 : decode cX3_level 0 = .ok (.aload_n 0, 1) := by decide +kernel
theorem dX3_level_1 : decode cX3_level 1 = .ok (.getfield 74, 3) := by decide +kernel
theorem dX3_level_4 : decode cX3_level 4 = .ok (.aload_n 0, 1) := by decide +kernel
theorem dX3_level_5 : decode cX3_level 5 = .ok (.getfield 28, 3) := by decide +kernel
theorem dX3_level_8 : decode cX3_level 8 = .ok (.iload_n 1, 1) := by decide +kernel
theorem dX3_level_9 : decode cX3_level 9 = .ok (.iaload, 1) := by decide +kernel
theorem dX3_level_10 : decode cX3_level 10 = .ok (.iaload, 1) := by decide +kernel
theorem dX3_level_11 : decode cX3_level 11 = .ok (.istore_n 3, 1) := by decide +kernel
theorem dX3_level_12 : decode cX3_level 12 = .ok (.iload_n 2, 1) := by decide +kernel
theorem dX3_level_13 : decode cX3_level 13 = .ok (.tableswitch 156 0 7 #[47, 56, 65, 75, 84, 93, 107, 121], 47) := by decide +kernel
theorem dX3_level_60 : decode cX3_level 60 = .ok (.aload_n 0, 1) := by decide +kernel
theorem dX3_level_61 : decode cX3_level 61 = .ok (.iload_n 1, 1) := by decide +kernel
theorem dX3_level_62 : decode cX3_level 62 = .ok (.iconst 0, 1) := by decide +kernel
theorem dX3_level_63 : decode cX3_level 63 = .ok (.invokevirtual 101, 3) := by decide +kernel
theorem dX3_level_66 : decode cX3_level 66 = .ok (.goto 139, 3) := by decide +kernel
theorem dX3_level_69 : decode cX3_level 69 = .ok (.aload_n 0, 1) := by decide +kernel
theorem dX3_level_70 : decode cX3_level 70 = .ok (.iload_n 1, 1) := by decide +kernel
theorem dX3_level_71 : decode cX3_level 71 = .ok (.iload_n 3, 1) := by decide +kernel
theorem dX3_level_72 : decode cX3_level 72 = .ok (.invokevirtual 120, 3) := by decide +kernel
theorem dX3_level_75 : decode cX3_level 75 = .ok (.goto 130, 3) := by decide +kernel
theorem dX3_level_78 : decode cX3_level 78 = .ok (.aload_n 0, 1) := by decide +kernel
theorem dX3_level_79 : decode cX3_level 79 = .ok (.iload_n 1, 1) := by decide +kernel
theorem dX3_level_80 : decode cX3_level 80 = .ok (.iload_n 3, 1) := by decide +kernel
theorem dX3_level_81 : decode cX3_level 81 = .ok (.ineg, 1) := by decide +kernel
theorem dX3_level_82 : decode cX3_level 82 = .ok (.invokevirtual 120, 3) := by decide +kernel
theorem dX3_level_85 : decode cX3_level 85 = .ok (.goto 120, 3) := by decide +kernel
theorem dX3_level_88 : decode cX3_level 88 = .ok (.aload_n 0, 1) := by decide +kernel
theorem dX3_level_89 : decode cX3_level 89 = .ok (.iload_n 1, 1) := by decide +kernel
theorem dX3_level_90 : decode cX3_level 90 = .ok (.iconst 1, 1) := by decide +kernel
theorem dX3_level_91 : decode cX3_level 91 = .ok (.invokevirtual 120, 3) := by decide +kernel
theorem dX3_level_94 : decode cX3_level 94 = .ok (.goto 111, 3) := by decide +kernel
theorem dX3_level_97 : decode cX3_level 97 = .ok (.aload_n 0, 1) := by decide +kernel
theorem dX3_level_98 : decode cX3_level 98 = .ok (.iload_n 1, 1) := by decide +kernel
theorem dX3_level_99 : decode cX3_level 99 = .ok (.iconst (-1), 1) := by decide +kernel
theorem dX3_level_100 : decode cX3_level 100 = .ok (.invokevirtual 120, 3) := by decide +kernel
theorem dX3_level_103 : decode cX3_level 103 = .ok (.goto 102, 3) := by decide +kernel
theorem dX3_level_106 : decode cX3_level 106 = .ok (.aload_n 0, 1) := by decide +kernel
theorem dX3_level_107 : decode cX3_level 107 = .ok (.iload_n 1, 1) := by decide +kernel
theorem dX3_level_108 : decode cX3_level 108 = .ok (.aload_n 0, 1) := by decide +kernel
theorem dX3_level_109 : decode cX3_level 109 = .ok (.getfield 16, 3) := by decide +kernel
theorem dX3_level_112 : decode cX3_level 112 = .ok (.iload_n 1, 1) := by decide +kernel
theorem dX3_level_113 : decode cX3_level 113 = .ok (.iaload, 1) := by decide +kernel
theorem dX3_level_114 : decode cX3_level 114 = .ok (.invokevirtual 101, 3) := by decide +kernel
theorem dX3_level_117 : decode cX3_level 117 = .ok (.goto 88, 3) := by decide +kernel
theorem dX3_level_120 : decode cX3_level 120 = .ok (.aload_n 0, 1) := by decide +kernel
theorem dX3_level_121 : decode cX3_level 121 = .ok (.iload_n 1, 1) := by decide +kernel
theorem dX3_level_122 : decode cX3_level 122 = .ok (.aload_n 0, 1) := by decide +kernel
theorem dX3_level_123 : decode cX3_level 123 = .ok (.getfield 13, 3) := by decide +kernel
theorem dX3_level_126 : decode cX3_level 126 = .ok (.iload_n 1, 1) := by decide +kernel
theorem dX3_level_127 : decode cX3_level 127 = .ok (.iaload, 1) := by decide +kernel
theorem dX3_level_128 : decode cX3_level 128 = .ok (.invokevirtual 101, 3) := by decide +kernel
theorem dX3_level_131 : decode cX3_level 131 = .ok (.goto 74, 3) := by decide +kernel
theorem dX3_level_134 : decode cX3_level 134 = .ok (.aload_n 0, 1) := by decide +kernel
theorem dX3_level_135 : decode cX3_level 135 = .ok (.iload_n 1, 1) := by decide +kernel
theorem dX3_level_136 : decode cX3_level 136 = .ok (.aload_n 0, 1) := by decide +kernel
theorem dX3_level_137 : decode cX3_level 137 = .ok (.getfield 7, 3) := by decide +kernel
theorem dX3_level_140 : decode cX3_level 140 = .ok (.iload_n 1, 1) := by decide +kernel
theorem dX3_level_141 : decode cX3_level 141 = .ok (.iaload, 1) := by decide +kernel
theorem dX3_level_142 : decode cX3_level 142 = .ok (.aload_n 0, 1) := by decide +kernel
theorem dX3_level_143 : decode cX3_level 143 = .ok (.getfield 13, 3) := by decide +kernel
theorem dX3_level_146 : decode cX3_level 146 = .ok (.iload_n 1, 1) := by decide +kernel
theorem dX3_level_147 : decode cX3_level 147 = .ok (.iaload, 1) := by decide +kernel
theorem dX3_level_148 : decode cX3_level 148 = .ok (.if_icmp .gt 7, 3) := by decide +kernel
theorem dX3_level_151 : decode cX3_level 151 = .ok (.iconst 0, 1) := by decide +kernel
theorem dX3_level_152 : decode cX3_level 152 = .ok (.goto 11, 3) := by decide +kernel
theorem dX3_level_155 : decode cX3_level 155 = .ok (.aload_n 0, 1) := by decide +kernel
theorem dX3_level_156 : decode cX3_level 156 = .ok (.getfield 7, 3) := by decide +kernel
theorem dX3_level_159 : decode cX3_level 159 = .ok (.iload_n 1, 1) := by decide +kernel
theorem dX3_level_160 : decode cX3_level 160 = .ok (.iaload, 1) := by decide +kernel
theorem dX3_level_161 : decode cX3_level 161 = .ok (.iconst 1, 1) := by decide +kernel
theorem dX3_level_162 : decode cX3_level 162 = .ok (.isub, 1) := by decide +kernel
theorem dX3_level_163 : decode cX3_level 163 = .ok (.invokevirtual 101, 3) := by decide +kernel
theorem dX3_level_166 : decode cX3_level 166 = .ok (.goto 39, 3) := by decide +kernel
theorem dX3_level_169 : decode cX3_level 169 = .ok (.aload_n 0, 1) := by decide +kernel
theorem dX3_level_170 : decode cX3_level 170 = .ok (.iload_n 1, 1) := by decide +kernel
theorem dX3_level_171 : decode cX3_level 171 = .ok (.aload_n 0, 1) := by decide +kernel
theorem dX3_level_172 : decode cX3_level 172 = .ok (.getfield 7, 3) := by decide +kernel
theorem dX3_level_175 : decode cX3_level 175 = .ok (.iload_n 1, 1) := by decide +kernel
theorem dX3_level_176 : decode cX3_level 176 = .ok (.iaload, 1) := by decide +kernel
theorem dX3_level_177 : decode cX3_level 177 = .ok (.ifCond .ne 12, 3) := by decide +kernel
theorem dX3_level_180 : decode cX3_level 180 = .ok (.aload_n 0, 1) := by decide +kernel
theorem dX3_level_181 : decode cX3_level 181 = .ok (.getfield 13, 3) := by decide +kernel
theorem dX3_level_184 : decode cX3_level 184 = .ok (.iload_n 1, 1) := by decide +kernel
theorem dX3_level_185 : decode cX3_level 185 = .ok (.iaload, 1) := by decide +kernel
theorem dX3_level_186 : decode cX3_level 186 = .ok (.goto 16, 3) := by decide +kernel
theorem dX3_level_189 : decode cX3_level 189 = .ok (.aload_n 0, 1) := by decide +kernel
theorem dX3_level_190 : decode cX3_level 190 = .ok (.iload_n 1, 1) := by decide +kernel
theorem dX3_level_191 : decode cX3_level 191 = .ok (.aload_n 0, 1) := by decide +kernel
theorem dX3_level_192 : decode cX3_level 192 = .ok (.getfield 7, 3) := by decide +kernel
theorem dX3_level_195 : decode cX3_level 195 = .ok (.iload_n 1, 1) := by decide +kernel
theorem dX3_level_196 : decode cX3_level 196 = .ok (.iaload, 1) := by decide +kernel
theorem dX3_level_197 : decode cX3_level 197 = .ok (.iconst 1, 1) := by decide +kernel
theorem dX3_level_198 : decode cX3_level 198 = .ok (.iadd, 1) := by decide +kernel
theorem dX3_level_199 : decode cX3_level 199 = .ok (.invokevirtual 97, 3) := by decide +kernel
theorem dX3_level_202 : decode cX3_level 202 = .ok (.invokevirtual 101, 3) := by decide +kernel
theorem dX3_level_205 : decode cX3_level 205 = .ok (.return_, 1) := by decide +kernel
theorem dX3_setShort_0 : decode cX3_setShort 0 = .ok (.iload_n 2, 1) := by decide +kernel
theorem dX3_setShort_1 : decode cX3_setShort 1 = .ok (.sipush 255, 3) := by decide +kernel
theorem dX3_setShort_4 : decode cX3_setShort 4 = .ok (.if_icmp .ne 15, 3) := by decide +kernel
theorem dX3_setShort_7 : decode cX3_setShort 7 = .ok (.aload_n 0, 1) := by decide +kernel
theorem dX3_setShort_8 : decode cX3_setShort 8 = .ok (.getfield 37, 3) := by decide +kernel
theorem dX3_setShort_11 : decode cX3_setShort 11 = .ok (.iload_n 1, 1) := by decide +kernel
theorem dX3_setShort_12 : decode cX3_setShort 12 = .ok (.sipush 255, 3) := by decide +kernel
theorem dX3_setShort_15 : decode cX3_setShort 15 = .ok (.iastore, 1) := by decide +kernel
theorem dX3_setShort_16 : decode cX3_setShort 16 = .ok (.goto 28, 3) := by decide +kernel
theorem dX3_setShort_19 : decode cX3_setShort 19 = .ok (.iload_n 2, 1) := by decide +kernel
theorem dX3_setShort_20 : decode cX3_setShort 20 = .ok (.iconst 2, 1) := by decide +kernel
theorem dX3_setShort_21 : decode cX3_setShort 21 = .ok (.irem, 1) := by decide +kernel
theorem dX3_setShort_22 : decode cX3_setShort 22 = .ok (.iconst 1, 1) := by decide +kernel
theorem dX3_setShort_23 : decode cX3_setShort 23 = .ok (.if_icmp .ne 21, 3) := by decide +kernel
theorem dX3_setShort_26 : decode cX3_setShort 26 = .ok (.iload_n 2, 1) := by decide +kernel
theorem dX3_setShort_27 : decode cX3_setShort 27 = .ok (.sipush 128, 3) := by decide +kernel
theorem dX3_setShort_30 : decode cX3_setShort 30 = .ok (.if_icmp .ge 14, 3) := by decide +kernel
theorem dX3_setShort_33 : decode cX3_setShort 33 = .ok (.aload_n 0, 1) := by decide +kernel
theorem dX3_setShort_34 : decode cX3_setShort 34 = .ok (.getfield 37, 3) := by decide +kernel
theorem dX3_setShort_37 : decode cX3_setShort 37 = .ok (.iload_n 1, 1) := by decide +kernel
theorem dX3_setShort_38 : decode cX3_setShort 38 = .ok (.iload_n 2, 1) := by decide +kernel
theorem dX3_setShort_39 : decode cX3_setShort 39 = .ok (.iconst 1, 1) := by decide +kernel
theorem dX3_setShort_40 : decode cX3_setShort 40 = .ok (.isub, 1) := by decide +kernel
theorem dX3_setShort_41 : decode cX3_setShort 41 = .ok (.iconst 2, 1) := by decide +kernel
theorem dX3_setShort_42 : decode cX3_setShort 42 = .ok (.idiv, 1) := by decide +kernel
theorem dX3_setShort_43 : decode cX3_setShort 43 = .ok (.iastore, 1) := by decide +kernel
theorem dX3_setShort_44 : decode cX3_setShort 44 = .ok (.return_, 1) := by decide +kernel
theorem dX3_change_0 : decode cX3_change 0 = .ok (.aload_n 0, 1) := by decide +kernel
theorem dX3_change_1 : decode cX3_change 1 = .ok (.getfield 43, 3) := by decide +kernel
theorem dX3_change_4 : decode cX3_change 4 = .ok (.iload_n 1, 1) := by decide +kernel
theorem dX3_change_5 : decode cX3_change 5 = .ok (.iaload, 1) := by decide +kernel
theorem dX3_change_6 : decode cX3_change 6 = .ok (.istore_n 3, 1) := by decide +kernel
theorem dX3_change_7 : decode cX3_change 7 = .ok (.iload_n 2, 1) := by decide +kernel
theorem dX3_change_8 : decode cX3_change 8 = .ok (.bipush 16, 2) := by decide +kernel
theorem dX3_change_10 : decode cX3_change 10 = .ok (.irem, 1) := by decide +kernel
theorem dX3_change_11 : decode cX3_change 11 = .ok (.istore 4, 2) := by decide +kernel
theorem dX3_change_13 : decode cX3_change 13 = .ok (.iload_n 2, 1) := by decide +kernel
theorem dX3_change_14 : decode cX3_change 14 = .ok (.bipush 32, 2) := by decide +kernel
theorem dX3_change_16 : decode cX3_change 16 = .ok (.if_icmp .ne 11, 3) := by decide +kernel
theorem dX3_change_19 : decode cX3_change 19 = .ok (.aload_n 0, 1) := by decide +kernel
theorem dX3_change_20 : decode cX3_change 20 = .ok (.iload_n 1, 1) := by decide +kernel
theorem dX3_change_21 : decode cX3_change 21 = .ok (.invokevirtual 85, 3) := by decide +kernel
theorem dX3_change_24 : decode cX3_change 24 = .ok (.goto 328, 3) := by decide +kernel
theorem dX3_change_27 : decode cX3_change 27 = .ok (.iload_n 2, 1) := by decide +kernel
theorem dX3_change_28 : decode cX3_change 28 = .ok (.bipush 33, 2) := by decide +kernel
theorem dX3_change_30 : decode cX3_change 30 = .ok (.if_icmp .ne 18, 3) := by decide +kernel
theorem dX3_change_33 : decode cX3_change 33 = .ok (.aload_n 0, 1) := by decide +kernel
theorem dX3_change_34 : decode cX3_change 34 = .ok (.getfield 43, 3) := by decide +kernel
theorem dX3_change_37 : decode cX3_change 37 = .ok (.iload_n 1, 1) := by decide +kernel
theorem dX3_change_38 : decode cX3_change 38 = .ok (.aload_n 0, 1) := by decide +kernel
theorem dX3_change_39 : decode cX3_change 39 = .ok (.getfield 7, 3) := by decide +kernel
theorem dX3_change_42 : decode cX3_change 42 = .ok (.iload_n 1, 1) := by decide +kernel
theorem dX3_change_43 : decode cX3_change 43 = .ok (.iaload, 1) := by decide +kernel
theorem dX3_change_44 : decode cX3_change 44 = .ok (.iastore, 1) := by decide +kernel
theorem dX3_change_45 : decode cX3_change 45 = .ok (.goto 307, 3) := by decide +kernel
theorem dX3_change_48 : decode cX3_change 48 = .ok (.iload_n 2, 1) := by decide +kernel
theorem dX3_change_49 : decode cX3_change 49 = .ok (.bipush 42, 2) := by decide +kernel
theorem dX3_change_51 : decode cX3_change 51 = .ok (.if_icmp .ne 50, 3) := by decide +kernel
theorem dX3_change_54 : decode cX3_change 54 = .ok (.aload_n 0, 1) := by decide +kernel
theorem dX3_change_55 : decode cX3_change 55 = .ok (.getfield 16, 3) := by decide +kernel
theorem dX3_change_58 : decode cX3_change 58 = .ok (.iload_n 1, 1) := by decide +kernel
theorem dX3_change_59 : decode cX3_change 59 = .ok (.iload_n 3, 1) := by decide +kernel
theorem dX3_change_60 : decode cX3_change 60 = .ok (.aload_n 0, 1) := by decide +kernel
theorem dX3_change_61 : decode cX3_change 61 = .ok (.getfield 13, 3) := by decide +kernel
theorem dX3_change_64 : decode cX3_change 64 = .ok (.iload_n 1, 1) := by decide +kernel
theorem dX3_change_65 : decode cX3_change 65 = .ok (.iaload, 1) := by decide +kernel
theorem dX3_change_66 : decode cX3_change 66 = .ok (.if_icmp .ge 12, 3) := by decide +kernel
theorem dX3_change_69 : decode cX3_change 69 = .ok (.aload_n 0, 1) := by decide +kernel
theorem dX3_change_70 : decode cX3_change 70 = .ok (.getfield 13, 3) := by decide +kernel
theorem dX3_change_73 : decode cX3_change 73 = .ok (.iload_n 1, 1) := by decide +kernel
theorem dX3_change_74 : decode cX3_change 74 = .ok (.iaload, 1) := by decide +kernel
theorem dX3_change_75 : decode cX3_change 75 = .ok (.goto 17, 3) := by decide +kernel
theorem dX3_change_78 : decode cX3_change 78 = .ok (.iload_n 3, 1) := by decide +kernel
theorem dX3_change_79 : decode cX3_change 79 = .ok (.sipush 254, 3) := by decide +kernel
theorem dX3_change_82 : decode cX3_change 82 = .ok (.if_icmp .le 9, 3) := by decide +kernel
theorem dX3_change_85 : decode cX3_change 85 = .ok (.sipush 254, 3) := by decide +kernel
theorem dX3_change_88 : decode cX3_change 88 = .ok (.goto 4, 3) := by decide +kernel
theorem dX3_change_91 : decode cX3_change 91 = .ok (.iload_n 3, 1) := by decide +kernel
theorem dX3_change_92 : decode cX3_change 92 = .ok (.iastore, 1) := by decide +kernel
theorem dX3_change_93 : decode cX3_change 93 = .ok (.aload_n 0, 1) := by decide +kernel
theorem dX3_change_94 : decode cX3_change 94 = .ok (.iload_n 1, 1) := by decide +kernel
theorem dX3_change_95 : decode cX3_change 95 = .ok (.invokevirtual 123, 3) := by decide +kernel
theorem dX3_change_98 : decode cX3_change 98 = .ok (.goto 254, 3) := by decide +kernel
theorem dX3_change_101 : decode cX3_change 101 = .ok (.iload_n 2, 1) := by decide +kernel
theorem dX3_change_102 : decode cX3_change 102 = .ok (.bipush 43, 2) := by decide +kernel
theorem dX3_change_104 : decode cX3_change 104 = .ok (.if_icmp .ne 46, 3) := by decide +kernel
theorem dX3_change_107 : decode cX3_change 107 = .ok (.aload_n 0, 1) := by decide +kernel
theorem dX3_change_108 : decode cX3_change 108 = .ok (.getfield 13, 3) := by decide +kernel
theorem dX3_change_111 : decode cX3_change 111 = .ok (.iload_n 1, 1) := by decide +kernel
theorem dX3_change_112 : decode cX3_change 112 = .ok (.iload_n 3, 1) := by decide +kernel
theorem dX3_change_113 : decode cX3_change 113 = .ok (.iconst 1, 1) := by decide +kernel
theorem dX3_change_114 : decode cX3_change 114 = .ok (.if_icmp .ge 7, 3) := by decide +kernel
theorem dX3_change_117 : decode cX3_change 117 = .ok (.iconst 1, 1) := by decide +kernel
theorem dX3_change_118 : decode cX3_change 118 = .ok (.goto 23, 3) := by decide +kernel
theorem dX3_change_121 : decode cX3_change 121 = .ok (.iload_n 3, 1) := by decide +kernel
theorem dX3_change_122 : decode cX3_change 122 = .ok (.aload_n 0, 1) := by decide +kernel
theorem dX3_change_123 : decode cX3_change 123 = .ok (.getfield 16, 3) := by decide +kernel
theorem dX3_change_126 : decode cX3_change 126 = .ok (.iload_n 1, 1) := by decide +kernel
theorem dX3_change_127 : decode cX3_change 127 = .ok (.iaload, 1) := by decide +kernel
theorem dX3_change_128 : decode cX3_change 128 = .ok (.if_icmp .le 12, 3) := by decide +kernel
theorem dX3_change_131 : decode cX3_change 131 = .ok (.aload_n 0, 1) := by decide +kernel
theorem dX3_change_132 : decode cX3_change 132 = .ok (.getfield 16, 3) := by decide +kernel
theorem dX3_change_135 : decode cX3_change 135 = .ok (.iload_n 1, 1) := by decide +kernel
theorem dX3_change_136 : decode cX3_change 136 = .ok (.iaload, 1) := by decide +kernel
theorem dX3_change_137 : decode cX3_change 137 = .ok (.goto 4, 3) := by decide +kernel
theorem dX3_change_140 : decode cX3_change 140 = .ok (.iload_n 3, 1) := by decide +kernel
theorem dX3_change_141 : decode cX3_change 141 = .ok (.iastore, 1) := by decide +kernel
theorem dX3_change_142 : decode cX3_change 142 = .ok (.aload_n 0, 1) := by decide +kernel
theorem dX3_change_143 : decode cX3_change 143 = .ok (.iload_n 1, 1) := by decide +kernel
theorem dX3_change_144 : decode cX3_change 144 = .ok (.invokevirtual 123, 3) := by decide +kernel
theorem dX3_change_147 : decode cX3_change 147 = .ok (.goto 205, 3) := by decide +kernel
theorem dX3_change_150 : decode cX3_change 150 = .ok (.iload_n 2, 1) := by decide +kernel
theorem dX3_change_151 : decode cX3_change 151 = .ok (.bipush 44, 2) := by decide +kernel
theorem dX3_change_153 : decode cX3_change 153 = .ok (.if_icmp .ne 13, 3) := by decide +kernel
theorem dX3_change_156 : decode cX3_change 156 = .ok (.aload_n 0, 1) := by decide +kernel
theorem dX3_change_157 : decode cX3_change 157 = .ok (.getfield 22, 3) := by decide +kernel
theorem dX3_change_160 : decode cX3_change 160 = .ok (.iload_n 1, 1) := by decide +kernel
theorem dX3_change_161 : decode cX3_change 161 = .ok (.iload_n 3, 1) := by decide +kernel
theorem dX3_change_162 : decode cX3_change 162 = .ok (.iastore, 1) := by decide +kernel
theorem dX3_change_163 : decode cX3_change 163 = .ok (.goto 189, 3) := by decide +kernel
theorem dX3_change_166 : decode cX3_change 166 = .ok (.iload_n 2, 1) := by decide +kernel
theorem dX3_change_167 : decode cX3_change 167 = .ok (.bipush 45, 2) := by decide +kernel
theorem dX3_change_169 : decode cX3_change 169 = .ok (.if_icmp .ne 13, 3) := by decide +kernel
theorem dX3_change_172 : decode cX3_change 172 = .ok (.aload_n 0, 1) := by decide +kernel
theorem dX3_change_173 : decode cX3_change 173 = .ok (.getfield 19, 3) := by decide +kernel
theorem dX3_change_176 : decode cX3_change 176 = .ok (.iload_n 1, 1) := by decide +kernel
theorem dX3_change_177 : decode cX3_change 177 = .ok (.iload_n 3, 1) := by decide +kernel
theorem dX3_change_178 : decode cX3_change 178 = .ok (.iastore, 1) := by decide +kernel
theorem dX3_change_179 : decode cX3_change 179 = .ok (.goto 173, 3) := by decide +kernel
theorem dX3_change_182 : decode cX3_change 182 = .ok (.iload_n 2, 1) := by decide +kernel
theorem dX3_change_183 : decode cX3_change 183 = .ok (.bipush 46, 2) := by decide +kernel
theorem dX3_change_185 : decode cX3_change 185 = .ok (.if_icmp .ne 24, 3) := by decide +kernel
theorem dX3_change_188 : decode cX3_change 188 = .ok (.aload_n 0, 1) := by decide +kernel
theorem dX3_change_189 : decode cX3_change 189 = .ok (.getfield 25, 3) := by decide +kernel
theorem dX3_change_192 : decode cX3_change 192 = .ok (.iload_n 1, 1) := by decide +kernel
theorem dX3_change_193 : decode cX3_change 193 = .ok (.iload_n 3, 1) := by decide +kernel
theorem dX3_change_194 : decode cX3_change 194 = .ok (.bipush 15, 2) := by decide +kernel
theorem dX3_change_196 : decode cX3_change 196 = .ok (.if_icmp .le 8, 3) := by decide +kernel
theorem dX3_change_199 : decode cX3_change 199 = .ok (.bipush 15, 2) := by decide +kernel
theorem dX3_change_201 : decode cX3_change 201 = .ok (.goto 4, 3) := by decide +kernel
theorem dX3_change_204 : decode cX3_change 204 = .ok (.iload_n 3, 1) := by decide +kernel
theorem dX3_change_205 : decode cX3_change 205 = .ok (.iastore, 1) := by decide +kernel
theorem dX3_change_206 : decode cX3_change 206 = .ok (.goto 146, 3) := by decide +kernel
theorem dX3_change_209 : decode cX3_change 209 = .ok (.iload_n 2, 1) := by decide +kernel
theorem dX3_change_210 : decode cX3_change 210 = .ok (.bipush 47, 2) := by decide +kernel
theorem dX3_change_212 : decode cX3_change 212 = .ok (.if_icmp .ne 33, 3) := by decide +kernel
theorem dX3_change_215 : decode cX3_change 215 = .ok (.aload_n 0, 1) := by decide +kernel
theorem dX3_change_216 : decode cX3_change 216 = .ok (.getfield 28, 3) := by decide +kernel
theorem dX3_change_219 : decode cX3_change 219 = .ok (.iload_n 1, 1) := by decide +kernel
theorem dX3_change_220 : decode cX3_change 220 = .ok (.iload_n 3, 1) := by decide +kernel
theorem dX3_change_221 : decode cX3_change 221 = .ok (.iconst 1, 1) := by decide +kernel
theorem dX3_change_222 : decode cX3_change 222 = .ok (.if_icmp .ge 7, 3) := by decide +kernel
theorem dX3_change_225 : decode cX3_change 225 = .ok (.iconst 1, 1) := by decide +kernel
theorem dX3_change_226 : decode cX3_change 226 = .ok (.goto 15, 3) := by decide +kernel
theorem dX3_change_229 : decode cX3_change 229 = .ok (.iload_n 3, 1) := by decide +kernel
theorem dX3_change_230 : decode cX3_change 230 = .ok (.bipush 15, 2) := by decide +kernel
theorem dX3_change_232 : decode cX3_change 232 = .ok (.if_icmp .le 8, 3) := by decide +kernel
theorem dX3_change_235 : decode cX3_change 235 = .ok (.bipush 15, 2) := by decide +kernel
theorem dX3_change_237 : decode cX3_change 237 = .ok (.goto 4, 3) := by decide +kernel
theorem dX3_change_240 : decode cX3_change 240 = .ok (.iload_n 3, 1) := by decide +kernel
theorem dX3_change_241 : decode cX3_change 241 = .ok (.iastore, 1) := by decide +kernel
theorem dX3_change_242 : decode cX3_change 242 = .ok (.goto 110, 3) := by decide +kernel
theorem dX3_change_245 : decode cX3_change 245 = .ok (.iload_n 2, 1) := by decide +kernel
theorem dX3_change_246 : decode cX3_change 246 = .ok (.bipush 64, 2) := by decide +kernel
theorem dX3_change_248 : decode cX3_change 248 = .ok (.bipush 95, 2) := by decide +kernel
theorem dX3_change_250 : decode cX3_change 250 = .ok (.invokestatic 93, 3) := by decide +kernel
theorem dX3_change_253 : decode cX3_change 253 = .ok (.ifCond .eq 31, 3) := by decide +kernel
theorem dX3_change_256 : decode cX3_change 256 = .ok (.aload_n 0, 1) := by decide +kernel
theorem dX3_change_257 : decode cX3_change 257 = .ok (.getfield 34, 3) := by decide +kernel
theorem dX3_change_260 : decode cX3_change 260 = .ok (.bipush 16, 2) := by decide +kernel
theorem dX3_change_262 : decode cX3_change 262 = .ok (.iload_n 1, 1) := by decide +kernel
theorem dX3_change_263 : decode cX3_change 263 = .ok (.imul, 1) := by decide +kernel
theorem dX3_change_264 : decode cX3_change 264 = .ok (.iload 4, 2) := by decide +kernel
theorem dX3_change_266 : decode cX3_change 266 = .ok (.iadd, 1) := by decide +kernel
theorem dX3_change_267 : decode cX3_change 267 = .ok (.iload_n 2, 1) := by decide +kernel
theorem dX3_change_268 : decode cX3_change 268 = .ok (.bipush 80, 2) := by decide +kernel
theorem dX3_change_270 : decode cX3_change 270 = .ok (.if_icmp .ge 7, 3) := by decide +kernel
theorem dX3_change_273 : decode cX3_change 273 = .ok (.iload_n 3, 1) := by decide +kernel
theorem dX3_change_274 : decode cX3_change 274 = .ok (.goto 6, 3) := by decide +kernel
theorem dX3_change_277 : decode cX3_change 277 = .ok (.sipush 255, 3) := by decide +kernel
theorem dX3_change_280 : decode cX3_change 280 = .ok (.iastore, 1) := by decide +kernel
theorem dX3_change_281 : decode cX3_change 281 = .ok (.goto 71, 3) := by decide +kernel
theorem dX3_change_284 : decode cX3_change 284 = .ok (.iload_n 2, 1) := by decide +kernel
theorem dX3_change_285 : decode cX3_change 285 = .ok (.bipush 96, 2) := by decide +kernel
theorem dX3_change_287 : decode cX3_change 287 = .ok (.bipush 127, 2) := by decide +kernel
theorem dX3_change_289 : decode cX3_change 289 = .ok (.invokestatic 93, 3) := by decide +kernel
theorem dX3_change_292 : decode cX3_change 292 = .ok (.ifCond .eq 47, 3) := by decide +kernel
theorem dX3_change_295 : decode cX3_change 295 = .ok (.iconst 1, 1) := by decide +kernel
theorem dX3_change_296 : decode cX3_change 296 = .ok (.iload 4, 2) := by decide +kernel
theorem dX3_change_298 : decode cX3_change 298 = .ok (.ishl, 1) := by decide +kernel
theorem dX3_change_299 : decode cX3_change 299 = .ok (.istore 5, 2) := by decide +kernel
theorem dX3_change_301 : decode cX3_change 301 = .ok (.aload_n 0, 1) := by decide +kernel
theorem dX3_change_302 : decode cX3_change 302 = .ok (.getfield 31, 3) := by decide +kernel
theorem dX3_change_305 : decode cX3_change 305 = .ok (.iload_n 1, 1) := by decide +kernel
theorem dX3_change_306 : decode cX3_change 306 = .ok (.iload_n 2, 1) := by decide +kernel
theorem dX3_change_307 : decode cX3_change 307 = .ok (.bipush 112, 2) := by decide +kernel
theorem dX3_change_309 : decode cX3_change 309 = .ok (.if_icmp .ge 15, 3) := by decide +kernel
theorem dX3_change_312 : decode cX3_change 312 = .ok (.aload_n 0, 1) := by decide +kernel
theorem dX3_change_313 : decode cX3_change 313 = .ok (.getfield 31, 3) := by decide +kernel
theorem dX3_change_316 : decode cX3_change 316 = .ok (.iload_n 1, 1) := by decide +kernel
theorem dX3_change_317 : decode cX3_change 317 = .ok (.iaload, 1) := by decide +kernel
theorem dX3_change_318 : decode cX3_change 318 = .ok (.iload 5, 2) := by decide +kernel
theorem dX3_change_320 : decode cX3_change 320 = .ok (.ior, 1) := by decide +kernel
theorem dX3_change_321 : decode cX3_change 321 = .ok (.goto 14, 3) := by decide +kernel
theorem dX3_change_324 : decode cX3_change 324 = .ok (.aload_n 0, 1) := by decide +kernel
theorem dX3_change_325 : decode cX3_change 325 = .ok (.getfield 31, 3) := by decide +kernel
theorem dX3_change_328 : decode cX3_change 328 = .ok (.iload_n 1, 1) := by decide +kernel
theorem dX3_change_329 : decode cX3_change 329 = .ok (.iaload, 1) := by decide +kernel
theorem dX3_change_330 : decode cX3_change 330 = .ok (.iload 5, 2) := by decide +kernel
theorem dX3_change_332 : decode cX3_change 332 = .ok (.iconst (-1), 1) := by decide +kernel
theorem dX3_change_333 : decode cX3_change 333 = .ok (.ixor, 1) := by decide +kernel
theorem dX3_change_334 : decode cX3_change 334 = .ok (.iand, 1) := by decide +kernel
theorem dX3_change_335 : decode cX3_change 335 = .ok (.iastore, 1) := by decide +kernel
theorem dX3_change_336 : decode cX3_change 336 = .ok (.goto 16, 3) := by decide +kernel
theorem dX3_change_339 : decode cX3_change 339 = .ok (.iload_n 2, 1) := by decide +kernel
theorem dX3_change_340 : decode cX3_change 340 = .ok (.sipush 128, 3) := by decide +kernel
theorem dX3_change_343 : decode cX3_change 343 = .ok (.if_icmp .ne 9, 3) := by decide +kernel
theorem dX3_change_346 : decode cX3_change 346 = .ok (.aload_n 0, 1) := by decide +kernel
theorem dX3_change_347 : decode cX3_change 347 = .ok (.iload_n 1, 1) := by decide +kernel
theorem dX3_change_348 : decode cX3_change 348 = .ok (.iload_n 3, 1) := by decide +kernel
theorem dX3_change_349 : decode cX3_change 349 = .ok (.invokevirtual 126, 3) := by decide +kernel
theorem dX3_change_352 : decode cX3_change 352 = .ok (.return_, 1) := by decide +kernel
theorem dX3_ask_0 : decode cX3_ask 0 = .ok (.iload_n 2, 1) := by decide +kernel
theorem dX3_ask_1 : decode cX3_ask 1 = .ok (.sipush 176, 3) := by decide +kernel
theorem dX3_ask_4 : decode cX3_ask 4 = .ok (.sipush 191, 3) := by decide +kernel
theorem dX3_ask_7 : decode cX3_ask 7 = .ok (.invokestatic 93, 3) := by decide +kernel
theorem dX3_ask_10 : decode cX3_ask 10 = .ok (.ifCond .eq 23, 3) := by decide +kernel
theorem dX3_ask_13 : decode cX3_ask 13 = .ok (.aload_n 0, 1) := by decide +kernel
theorem dX3_ask_14 : decode cX3_ask 14 = .ok (.aload_n 0, 1) := by decide +kernel
theorem dX3_ask_15 : decode cX3_ask 15 = .ok (.getfield 34, 3) := by decide +kernel
theorem dX3_ask_18 : decode cX3_ask 18 = .ok (.bipush 16, 2) := by decide +kernel
theorem dX3_ask_20 : decode cX3_ask 20 = .ok (.iload_n 1, 1) := by decide +kernel
theorem dX3_ask_21 : decode cX3_ask 21 = .ok (.imul, 1) := by decide +kernel
theorem dX3_ask_22 : decode cX3_ask 22 = .ok (.iload_n 2, 1) := by decide +kernel
theorem dX3_ask_23 : decode cX3_ask 23 = .ok (.iadd, 1) := by decide +kernel
theorem dX3_ask_24 : decode cX3_ask 24 = .ok (.sipush 176, 3) := by decide +kernel
theorem dX3_ask_27 : decode cX3_ask 27 = .ok (.isub, 1) := by decide +kernel
theorem dX3_ask_28 : decode cX3_ask 28 = .ok (.iaload, 1) := by decide +kernel
theorem dX3_ask_29 : decode cX3_ask 29 = .ok (.invokevirtual 129, 3) := by decide +kernel
theorem dX3_ask_32 : decode cX3_ask 32 = .ok (.return_, 1) := by decide +kernel
theorem dX3_ask_33 : decode cX3_ask 33 = .ok (.iload_n 2, 1) := by decide +kernel
theorem dX3_ask_34 : decode cX3_ask 34 = .ok (.tableswitch 523 144 196 #[226, 283, 523, 293, 523, 523, 312, 523, 334, 523, 523, 523, 523, 523, 523, 523, 347, 360, 373, 386, 399, 412, 523, 523, 523, 523, 523, 523, 523, 523, 523, 523, 523, 523, 523, 523, 523, 523, 523, 523, 523, 523, 523, 523, 523, 523, 523, 523, 435, 452, 469, 485, 506], 226) := by decide +kernel
theorem dX3_ask_260 : decode cX3_ask 260 = .ok (.aload_n 0, 1) := by decide +kernel
theorem dX3_ask_261 : decode cX3_ask 261 = .ok (.aload_n 0, 1) := by decide +kernel
theorem dX3_ask_262 : decode cX3_ask 262 = .ok (.getfield 7, 3) := by decide +kernel
theorem dX3_ask_265 : decode cX3_ask 265 = .ok (.iload_n 1, 1) := by decide +kernel
theorem dX3_ask_266 : decode cX3_ask 266 = .ok (.iaload, 1) := by decide +kernel
theorem dX3_ask_267 : decode cX3_ask 267 = .ok (.ifCond .le 7, 3) := by decide +kernel
theorem dX3_ask_270 : decode cX3_ask 270 = .ok (.iconst 4, 1) := by decide +kernel
theorem dX3_ask_271 : decode cX3_ask 271 = .ok (.goto 4, 3) := by decide +kernel
theorem dX3_ask_274 : decode cX3_ask 274 = .ok (.iconst 0, 1) := by decide +kernel
theorem dX3_ask_275 : decode cX3_ask 275 = .ok (.aload_n 0, 1) := by decide +kernel
theorem dX3_ask_276 : decode cX3_ask 276 = .ok (.getfield 59, 3) := by decide +kernel
theorem dX3_ask_279 : decode cX3_ask 279 = .ok (.iload_n 1, 1) := by decide +kernel
theorem dX3_ask_280 : decode cX3_ask 280 = .ok (.iaload, 1) := by decide +kernel
theorem dX3_ask_281 : decode cX3_ask 281 = .ok (.iconst (-1), 1) := by decide +kernel
theorem dX3_ask_282 : decode cX3_ask 282 = .ok (.if_icmp .eq 8, 3) := by decide +kernel
theorem dX3_ask_285 : decode cX3_ask 285 = .ok (.bipush 16, 2) := by decide +kernel
theorem dX3_ask_287 : decode cX3_ask 287 = .ok (.goto 4, 3) := by decide +kernel
theorem dX3_ask_290 : decode cX3_ask 290 = .ok (.iconst 0, 1) := by decide +kernel
theorem dX3_ask_291 : decode cX3_ask 291 = .ok (.iadd, 1) := by decide +kernel
theorem dX3_ask_292 : decode cX3_ask 292 = .ok (.aload_n 0, 1) := by decide +kernel
theorem dX3_ask_293 : decode cX3_ask 293 = .ok (.getfield 37, 3) := by decide +kernel
theorem dX3_ask_296 : decode cX3_ask 296 = .ok (.iload_n 1, 1) := by decide +kernel
theorem dX3_ask_297 : decode cX3_ask 297 = .ok (.iaload, 1) := by decide +kernel
theorem dX3_ask_298 : decode cX3_ask 298 = .ok (.sipush 255, 3) := by decide +kernel
theorem dX3_ask_301 : decode cX3_ask 301 = .ok (.if_icmp .ne 8, 3) := by decide +kernel
theorem dX3_ask_304 : decode cX3_ask 304 = .ok (.bipush 64, 2) := by decide +kernel
theorem dX3_ask_306 : decode cX3_ask 306 = .ok (.goto 4, 3) := by decide +kernel
theorem dX3_ask_309 : decode cX3_ask 309 = .ok (.iconst 0, 1) := by decide +kernel
theorem dX3_ask_310 : decode cX3_ask 310 = .ok (.iadd, 1) := by decide +kernel
theorem dX3_ask_311 : decode cX3_ask 311 = .ok (.invokevirtual 129, 3) := by decide +kernel
theorem dX3_ask_314 : decode cX3_ask 314 = .ok (.goto 243, 3) := by decide +kernel
theorem dX3_ask_317 : decode cX3_ask 317 = .ok (.aload_n 0, 1) := by decide +kernel
theorem dX3_ask_318 : decode cX3_ask 318 = .ok (.sipush 255, 3) := by decide +kernel
theorem dX3_ask_321 : decode cX3_ask 321 = .ok (.invokevirtual 129, 3) := by decide +kernel
theorem dX3_ask_324 : decode cX3_ask 324 = .ok (.goto 233, 3) := by decide +kernel
theorem dX3_ask_327 : decode cX3_ask 327 = .ok (.aload_n 0, 1) := by decide +kernel
theorem dX3_ask_328 : decode cX3_ask 328 = .ok (.getfield 7, 3) := by decide +kernel
theorem dX3_ask_331 : decode cX3_ask 331 = .ok (.iload_n 1, 1) := by decide +kernel
theorem dX3_ask_332 : decode cX3_ask 332 = .ok (.iaload, 1) := by decide +kernel
theorem dX3_ask_333 : decode cX3_ask 333 = .ok (.ifCond .le 224, 3) := by decide +kernel
theorem dX3_ask_336 : decode cX3_ask 336 = .ok (.aload_n 0, 1) := by decide +kernel
theorem dX3_ask_337 : decode cX3_ask 337 = .ok (.sipush 255, 3) := by decide +kernel
theorem dX3_ask_340 : decode cX3_ask 340 = .ok (.invokevirtual 129, 3) := by decide +kernel
theorem dX3_ask_343 : decode cX3_ask 343 = .ok (.goto 214, 3) := by decide +kernel
theorem dX3_ask_346 : decode cX3_ask 346 = .ok (.aload_n 0, 1) := by decide +kernel
theorem dX3_ask_347 : decode cX3_ask 347 = .ok (.getfield 37, 3) := by decide +kernel
theorem dX3_ask_350 : decode cX3_ask 350 = .ok (.iload_n 1, 1) := by decide +kernel
theorem dX3_ask_351 : decode cX3_ask 351 = .ok (.iaload, 1) := by decide +kernel
theorem dX3_ask_352 : decode cX3_ask 352 = .ok (.sipush 255, 3) := by decide +kernel
theorem dX3_ask_355 : decode cX3_ask 355 = .ok (.if_icmp .ne 202, 3) := by decide +kernel
theorem dX3_ask_358 : decode cX3_ask 358 = .ok (.aload_n 0, 1) := by decide +kernel
theorem dX3_ask_359 : decode cX3_ask 359 = .ok (.sipush 255, 3) := by decide +kernel
theorem dX3_ask_362 : decode cX3_ask 362 = .ok (.invokevirtual 129, 3) := by decide +kernel
theorem dX3_ask_365 : decode cX3_ask 365 = .ok (.goto 192, 3) := by decide +kernel
theorem dX3_ask_368 : decode cX3_ask 368 = .ok (.aload_n 0, 1) := by decide +kernel
theorem dX3_ask_369 : decode cX3_ask 369 = .ok (.aload_n 0, 1) := by decide +kernel
theorem dX3_ask_370 : decode cX3_ask 370 = .ok (.getfield 43, 3) := by decide +kernel
theorem dX3_ask_373 : decode cX3_ask 373 = .ok (.iload_n 1, 1) := by decide +kernel
theorem dX3_ask_374 : decode cX3_ask 374 = .ok (.iaload, 1) := by decide +kernel
theorem dX3_ask_375 : decode cX3_ask 375 = .ok (.invokevirtual 129, 3) := by decide +kernel
theorem dX3_ask_378 : decode cX3_ask 378 = .ok (.goto 179, 3) := by decide +kernel
theorem dX3_ask_381 : decode cX3_ask 381 = .ok (.aload_n 0, 1) := by decide +kernel
theorem dX3_ask_382 : decode cX3_ask 382 = .ok (.aload_n 0, 1) := by decide +kernel
theorem dX3_ask_383 : decode cX3_ask 383 = .ok (.getfield 7, 3) := by decide +kernel
theorem dX3_ask_386 : decode cX3_ask 386 = .ok (.iload_n 1, 1) := by decide +kernel
theorem dX3_ask_387 : decode cX3_ask 387 = .ok (.iaload, 1) := by decide +kernel
theorem dX3_ask_388 : decode cX3_ask 388 = .ok (.invokevirtual 129, 3) := by decide +kernel
theorem dX3_ask_391 : decode cX3_ask 391 = .ok (.goto 166, 3) := by decide +kernel
theorem dX3_ask_394 : decode cX3_ask 394 = .ok (.aload_n 0, 1) := by decide +kernel
theorem dX3_ask_395 : decode cX3_ask 395 = .ok (.aload_n 0, 1) := by decide +kernel
theorem dX3_ask_396 : decode cX3_ask 396 = .ok (.getfield 16, 3) := by decide +kernel
theorem dX3_ask_399 : decode cX3_ask 399 = .ok (.iload_n 1, 1) := by decide +kernel
theorem dX3_ask_400 : decode cX3_ask 400 = .ok (.iaload, 1) := by decide +kernel
theorem dX3_ask_401 : decode cX3_ask 401 = .ok (.invokevirtual 129, 3) := by decide +kernel
theorem dX3_ask_404 : decode cX3_ask 404 = .ok (.goto 153, 3) := by decide +kernel
theorem dX3_ask_407 : decode cX3_ask 407 = .ok (.aload_n 0, 1) := by decide +kernel
theorem dX3_ask_408 : decode cX3_ask 408 = .ok (.aload_n 0, 1) := by decide +kernel
theorem dX3_ask_409 : decode cX3_ask 409 = .ok (.getfield 13, 3) := by decide +kernel
theorem dX3_ask_412 : decode cX3_ask 412 = .ok (.iload_n 1, 1) := by decide +kernel
theorem dX3_ask_413 : decode cX3_ask 413 = .ok (.iaload, 1) := by decide +kernel
theorem dX3_ask_414 : decode cX3_ask 414 = .ok (.invokevirtual 129, 3) := by decide +kernel
theorem dX3_ask_417 : decode cX3_ask 417 = .ok (.goto 140, 3) := by decide +kernel
theorem dX3_ask_420 : decode cX3_ask 420 = .ok (.aload_n 0, 1) := by decide +kernel
theorem dX3_ask_421 : decode cX3_ask 421 = .ok (.aload_n 0, 1) := by decide +kernel
theorem dX3_ask_422 : decode cX3_ask 422 = .ok (.getfield 19, 3) := by decide +kernel
theorem dX3_ask_425 : decode cX3_ask 425 = .ok (.iload_n 1, 1) := by decide +kernel
theorem dX3_ask_426 : decode cX3_ask 426 = .ok (.iaload, 1) := by decide +kernel
theorem dX3_ask_427 : decode cX3_ask 427 = .ok (.invokevirtual 129, 3) := by decide +kernel
theorem dX3_ask_430 : decode cX3_ask 430 = .ok (.goto 127, 3) := by decide +kernel
theorem dX3_ask_433 : decode cX3_ask 433 = .ok (.aload_n 0, 1) := by decide +kernel
theorem dX3_ask_434 : decode cX3_ask 434 = .ok (.aload_n 0, 1) := by decide +kernel
theorem dX3_ask_435 : decode cX3_ask 435 = .ok (.getfield 22, 3) := by decide +kernel
theorem dX3_ask_438 : decode cX3_ask 438 = .ok (.iload_n 1, 1) := by decide +kernel
theorem dX3_ask_439 : decode cX3_ask 439 = .ok (.iaload, 1) := by decide +kernel
theorem dX3_ask_440 : decode cX3_ask 440 = .ok (.invokevirtual 129, 3) := by decide +kernel
theorem dX3_ask_443 : decode cX3_ask 443 = .ok (.goto 114, 3) := by decide +kernel
theorem dX3_ask_446 : decode cX3_ask 446 = .ok (.aload_n 0, 1) := by decide +kernel
theorem dX3_ask_447 : decode cX3_ask 447 = .ok (.bipush 16, 2) := by decide +kernel
theorem dX3_ask_449 : decode cX3_ask 449 = .ok (.aload_n 0, 1) := by decide +kernel
theorem dX3_ask_450 : decode cX3_ask 450 = .ok (.getfield 25, 3) := by decide +kernel
theorem dX3_ask_453 : decode cX3_ask 453 = .ok (.iload_n 1, 1) := by decide +kernel
theorem dX3_ask_454 : decode cX3_ask 454 = .ok (.iaload, 1) := by decide +kernel
theorem dX3_ask_455 : decode cX3_ask 455 = .ok (.imul, 1) := by decide +kernel
theorem dX3_ask_456 : decode cX3_ask 456 = .ok (.aload_n 0, 1) := by decide +kernel
theorem dX3_ask_457 : decode cX3_ask 457 = .ok (.getfield 28, 3) := by decide +kernel
theorem dX3_ask_460 : decode cX3_ask 460 = .ok (.iload_n 1, 1) := by decide +kernel
theorem dX3_ask_461 : decode cX3_ask 461 = .ok (.iaload, 1) := by decide +kernel
theorem dX3_ask_462 : decode cX3_ask 462 = .ok (.iadd, 1) := by decide +kernel
theorem dX3_ask_463 : decode cX3_ask 463 = .ok (.invokevirtual 129, 3) := by decide +kernel
theorem dX3_ask_466 : decode cX3_ask 466 = .ok (.goto 91, 3) := by decide +kernel
theorem dX3_ask_469 : decode cX3_ask 469 = .ok (.aload_n 0, 1) := by decide +kernel
theorem dX3_ask_470 : decode cX3_ask 470 = .ok (.aload_n 0, 1) := by decide +kernel
theorem dX3_ask_471 : decode cX3_ask 471 = .ok (.getfield 31, 3) := by decide +kernel
theorem dX3_ask_474 : decode cX3_ask 474 = .ok (.iload_n 1, 1) := by decide +kernel
theorem dX3_ask_475 : decode cX3_ask 475 = .ok (.iaload, 1) := by decide +kernel
theorem dX3_ask_476 : decode cX3_ask 476 = .ok (.sipush 256, 3) := by decide +kernel
theorem dX3_ask_479 : decode cX3_ask 479 = .ok (.irem, 1) := by decide +kernel
theorem dX3_ask_480 : decode cX3_ask 480 = .ok (.invokevirtual 129, 3) := by decide +kernel
theorem dX3_ask_483 : decode cX3_ask 483 = .ok (.goto 74, 3) := by decide +kernel
theorem dX3_ask_486 : decode cX3_ask 486 = .ok (.aload_n 0, 1) := by decide +kernel
theorem dX3_ask_487 : decode cX3_ask 487 = .ok (.aload_n 0, 1) := by decide +kernel
theorem dX3_ask_488 : decode cX3_ask 488 = .ok (.getfield 31, 3) := by decide +kernel
theorem dX3_ask_491 : decode cX3_ask 491 = .ok (.iload_n 1, 1) := by decide +kernel
theorem dX3_ask_492 : decode cX3_ask 492 = .ok (.iaload, 1) := by decide +kernel
theorem dX3_ask_493 : decode cX3_ask 493 = .ok (.sipush 256, 3) := by decide +kernel
theorem dX3_ask_496 : decode cX3_ask 496 = .ok (.idiv, 1) := by decide +kernel
theorem dX3_ask_497 : decode cX3_ask 497 = .ok (.invokevirtual 129, 3) := by decide +kernel
theorem dX3_ask_500 : decode cX3_ask 500 = .ok (.goto 57, 3) := by decide +kernel
theorem dX3_ask_503 : decode cX3_ask 503 = .ok (.aload_n 0, 1) := by decide +kernel
theorem dX3_ask_504 : decode cX3_ask 504 = .ok (.aload_n 0, 1) := by decide +kernel
theorem dX3_ask_505 : decode cX3_ask 505 = .ok (.getfield 40, 3) := by decide +kernel
theorem dX3_ask_508 : decode cX3_ask 508 = .ok (.iload_n 1, 1) := by decide +kernel
theorem dX3_ask_509 : decode cX3_ask 509 = .ok (.iaload, 1) := by decide +kernel
theorem dX3_ask_510 : decode cX3_ask 510 = .ok (.ldc 132, 2) := by decide +kernel
theorem dX3_ask_512 : decode cX3_ask 512 = .ok (.idiv, 1) := by decide +kernel
theorem dX3_ask_513 : decode cX3_ask 513 = .ok (.invokevirtual 129, 3) := by decide +kernel
theorem dX3_ask_516 : decode cX3_ask 516 = .ok (.goto 41, 3) := by decide +kernel
theorem dX3_ask_519 : decode cX3_ask 519 = .ok (.aload_n 0, 1) := by decide +kernel
theorem dX3_ask_520 : decode cX3_ask 520 = .ok (.aload_n 0, 1) := by decide +kernel
theorem dX3_ask_521 : decode cX3_ask 521 = .ok (.getfield 40, 3) := by decide +kernel
theorem dX3_ask_524 : decode cX3_ask 524 = .ok (.iload_n 1, 1) := by decide +kernel
theorem dX3_ask_525 : decode cX3_ask 525 = .ok (.iaload, 1) := by decide +kernel
theorem dX3_ask_526 : decode cX3_ask 526 = .ok (.sipush 256, 3) := by decide +kernel
theorem dX3_ask_529 : decode cX3_ask 529 = .ok (.idiv, 1) := by decide +kernel
theorem dX3_ask_530 : decode cX3_ask 530 = .ok (.sipush 256, 3) := by decide +kernel
theorem dX3_ask_533 : decode cX3_ask 533 = .ok (.irem, 1) := by decide +kernel
theorem dX3_ask_534 : decode cX3_ask 534 = .ok (.invokevirtual 129, 3) := by decide +kernel
theorem dX3_ask_537 : decode cX3_ask 537 = .ok (.goto 20, 3) := by decide +kernel
theorem dX3_ask_540 : decode cX3_ask 540 = .ok (.aload_n 0, 1) := by decide +kernel
theorem dX3_ask_541 : decode cX3_ask 541 = .ok (.aload_n 0, 1) := by decide +kernel
theorem dX3_ask_542 : decode cX3_ask 542 = .ok (.getfield 40, 3) := by decide +kernel
theorem dX3_ask_545 : decode cX3_ask 545 = .ok (.iload_n 1, 1) := by decide +kernel
theorem dX3_ask_546 : decode cX3_ask 546 = .ok (.iaload, 1) := by decide +kernel
theorem dX3_ask_547 : decode cX3_ask 547 = .ok (.sipush 256, 3) := by decide +kernel
theorem dX3_ask_550 : decode cX3_ask 550 = .ok (.irem, 1) := by decide +kernel
theorem dX3_ask_551 : decode cX3_ask 551 = .ok (.invokevirtual 129, 3) := by decide +kernel
theorem dX3_ask_554 : decode cX3_ask 554 = .ok (.goto 3, 3) := by decide +kernel
theorem dX3_ask_557 : decode cX3_ask 557 = .ok (.return_, 1) := by decide +kernel
theorem dX3_special_0 : decode cX3_special 0 = .ok (.iload_n 3, 1) := by decide +kernel
theorem dX3_special_1 : decode cX3_special 1 = .ok (.iconst 2, 1) := by decide +kernel
theorem dX3_special_2 : decode cX3_special 2 = .ok (.irem, 1) := by decide +kernel
theorem dX3_special_3 : decode cX3_special 3 = .ok (.iconst 1, 1) := by decide +kernel
theorem dX3_special_4 : decode cX3_special 4 = .ok (.if_icmp .ne 14, 3) := by decide +kernel
theorem dX3_special_7 : decode cX3_special 7 = .ok (.iload_n 3, 1) := by decide +kernel
theorem dX3_special_8 : decode cX3_special 8 = .ok (.sipush 128, 3) := by decide +kernel
theorem dX3_special_11 : decode cX3_special 11 = .ok (.if_icmp .ge 7, 3) := by decide +kernel
theorem dX3_special_14 : decode cX3_special 14 = .ok (.iconst 1, 1) := by decide +kernel
theorem dX3_special_15 : decode cX3_special 15 = .ok (.goto 4, 3) := by decide +kernel
theorem dX3_special_18 : decode cX3_special 18 = .ok (.iconst 0, 1) := by decide +kernel
theorem dX3_special_19 : decode cX3_special 19 = .ok (.istore 5, 2) := by decide +kernel
theorem dX3_special_21 : decode cX3_special 21 = .ok (.aload_n 0, 1) := by decide +kernel
theorem dX3_special_22 : decode cX3_special 22 = .ok (.getfield 52, 3) := by decide +kernel
theorem dX3_special_25 : decode cX3_special 25 = .ok (.iload_n 1, 1) := by decide +kernel
theorem dX3_special_26 : decode cX3_special 26 = .ok (.baload, 1) := by decide +kernel
theorem dX3_special_27 : decode cX3_special 27 = .ok (.ifCond .eq 31, 3) := by decide +kernel
theorem dX3_special_30 : decode cX3_special 30 = .ok (.aload_n 0, 1) := by decide +kernel
theorem dX3_special_31 : decode cX3_special 31 = .ok (.getfield 56, 3) := by decide +kernel
theorem dX3_special_34 : decode cX3_special 34 = .ok (.iload_n 1, 1) := by decide +kernel
theorem dX3_special_35 : decode cX3_special 35 = .ok (.baload, 1) := by decide +kernel
theorem dX3_special_36 : decode cX3_special 36 = .ok (.ifCond .ne 22, 3) := by decide +kernel
theorem dX3_special_39 : decode cX3_special 39 = .ok (.aload_n 0, 1) := by decide +kernel
theorem dX3_special_40 : decode cX3_special 40 = .ok (.getfield 40, 3) := by decide +kernel
theorem dX3_special_43 : decode cX3_special 43 = .ok (.iload_n 1, 1) := by decide +kernel
theorem dX3_special_44 : decode cX3_special 44 = .ok (.iaload, 1) := by decide +kernel
theorem dX3_special_45 : decode cX3_special 45 = .ok (.aload_n 0, 1) := by decide +kernel
theorem dX3_special_46 : decode cX3_special 46 = .ok (.getfield 46, 3) := by decide +kernel
theorem dX3_special_49 : decode cX3_special 49 = .ok (.iload_n 1, 1) := by decide +kernel
theorem dX3_special_50 : decode cX3_special 50 = .ok (.iaload, 1) := by decide +kernel
theorem dX3_special_51 : decode cX3_special 51 = .ok (.if_icmp .ne 7, 3) := by decide +kernel
theorem dX3_special_54 : decode cX3_special 54 = .ok (.iconst 1, 1) := by decide +kernel
theorem dX3_special_55 : decode cX3_special 55 = .ok (.goto 4, 3) := by decide +kernel
theorem dX3_special_58 : decode cX3_special 58 = .ok (.iconst 0, 1) := by decide +kernel
theorem dX3_special_59 : decode cX3_special 59 = .ok (.istore 6, 2) := by decide +kernel
theorem dX3_special_61 : decode cX3_special 61 = .ok (.iload_n 2, 1) := by decide +kernel
theorem dX3_special_62 : decode cX3_special 62 = .ok (.tableswitch 489 161 187 #[122, 489, 132, 489, 142, 489, 206, 489, 244, 489, 287, 489, 489, 489, 489, 489, 315, 489, 338, 489, 376, 489, 401, 489, 415, 489, 449], 122) := by decide +kernel
theorem dX3_special_184 : decode cX3_special 184 = .ok (.aload_n 0, 1) := by decide +kernel
theorem dX3_special_185 : decode cX3_special 185 = .ok (.getfield 52, 3) := by decide +kernel
theorem dX3_special_188 : decode cX3_special 188 = .ok (.iload_n 1, 1) := by decide +kernel
theorem dX3_special_189 : decode cX3_special 189 = .ok (.iconst 0, 1) := by decide +kernel
theorem dX3_special_190 : decode cX3_special 190 = .ok (.bastore, 1) := by decide +kernel
theorem dX3_special_191 : decode cX3_special 191 = .ok (.goto 360, 3) := by decide +kernel
theorem dX3_special_194 : decode cX3_special 194 = .ok (.aload_n 0, 1) := by decide +kernel
theorem dX3_special_195 : decode cX3_special 195 = .ok (.getfield 43, 3) := by decide +kernel
theorem dX3_special_198 : decode cX3_special 198 = .ok (.iload_n 1, 1) := by decide +kernel
theorem dX3_special_199 : decode cX3_special 199 = .ok (.iload_n 3, 1) := by decide +kernel
theorem dX3_special_200 : decode cX3_special 200 = .ok (.iastore, 1) := by decide +kernel
theorem dX3_special_201 : decode cX3_special 201 = .ok (.goto 350, 3) := by decide +kernel
theorem dX3_special_204 : decode cX3_special 204 = .ok (.iload 4, 2) := by decide +kernel
theorem dX3_special_206 : decode cX3_special 206 = .ok (.ifCond .eq 345, 3) := by decide +kernel
theorem dX3_special_209 : decode cX3_special 209 = .ok (.iload_n 3, 1) := by decide +kernel
theorem dX3_special_210 : decode cX3_special 210 = .ok (.ifCond .eq 41, 3) := by decide +kernel
theorem dX3_special_213 : decode cX3_special 213 = .ok (.iload_n 3, 1) := by decide +kernel
theorem dX3_special_214 : decode cX3_special 214 = .ok (.sipush 255, 3) := by decide +kernel
theorem dX3_special_217 : decode cX3_special 217 = .ok (.if_icmp .ne 15, 3) := by decide +kernel
theorem dX3_special_220 : decode cX3_special 220 = .ok (.aload_n 0, 1) := by decide +kernel
theorem dX3_special_221 : decode cX3_special 221 = .ok (.getfield 37, 3) := by decide +kernel
theorem dX3_special_224 : decode cX3_special 224 = .ok (.iload_n 1, 1) := by decide +kernel
theorem dX3_special_225 : decode cX3_special 225 = .ok (.iaload, 1) := by decide +kernel
theorem dX3_special_226 : decode cX3_special 226 = .ok (.sipush 255, 3) := by decide +kernel
theorem dX3_special_229 : decode cX3_special 229 = .ok (.if_icmp .eq 22, 3) := by decide +kernel
theorem dX3_special_232 : decode cX3_special 232 = .ok (.iload 5, 2) := by decide +kernel
theorem dX3_special_234 : decode cX3_special 234 = .ok (.ifCond .eq 317, 3) := by decide +kernel
theorem dX3_special_237 : decode cX3_special 237 = .ok (.aload_n 0, 1) := by decide +kernel
theorem dX3_special_238 : decode cX3_special 238 = .ok (.getfield 37, 3) := by decide +kernel
theorem dX3_special_241 : decode cX3_special 241 = .ok (.iload_n 1, 1) := by decide +kernel
theorem dX3_special_242 : decode cX3_special 242 = .ok (.iaload, 1) := by decide +kernel
theorem dX3_special_243 : decode cX3_special 243 = .ok (.iload_n 3, 1) := by decide +kernel
theorem dX3_special_244 : decode cX3_special 244 = .ok (.iconst 1, 1) := by decide +kernel
theorem dX3_special_245 : decode cX3_special 245 = .ok (.isub, 1) := by decide +kernel
theorem dX3_special_246 : decode cX3_special 246 = .ok (.iconst 2, 1) := by decide +kernel
theorem dX3_special_247 : decode cX3_special 247 = .ok (.idiv, 1) := by decide +kernel
theorem dX3_special_248 : decode cX3_special 248 = .ok (.if_icmp .ne 303, 3) := by decide +kernel
theorem dX3_special_251 : decode cX3_special 251 = .ok (.aload_n 0, 1) := by decide +kernel
theorem dX3_special_252 : decode cX3_special 252 = .ok (.getfield 52, 3) := by decide +kernel
theorem dX3_special_255 : decode cX3_special 255 = .ok (.iload_n 1, 1) := by decide +kernel
theorem dX3_special_256 : decode cX3_special 256 = .ok (.iconst 1, 1) := by decide +kernel
theorem dX3_special_257 : decode cX3_special 257 = .ok (.bastore, 1) := by decide +kernel
theorem dX3_special_258 : decode cX3_special 258 = .ok (.aload_n 0, 1) := by decide +kernel
theorem dX3_special_259 : decode cX3_special 259 = .ok (.getfield 56, 3) := by decide +kernel
theorem dX3_special_262 : decode cX3_special 262 = .ok (.iload_n 1, 1) := by decide +kernel
theorem dX3_special_263 : decode cX3_special 263 = .ok (.iconst 0, 1) := by decide +kernel
theorem dX3_special_264 : decode cX3_special 264 = .ok (.bastore, 1) := by decide +kernel
theorem dX3_special_265 : decode cX3_special 265 = .ok (.goto 286, 3) := by decide +kernel
theorem dX3_special_268 : decode cX3_special 268 = .ok (.aload_n 0, 1) := by decide +kernel
theorem dX3_special_269 : decode cX3_special 269 = .ok (.getfield 40, 3) := by decide +kernel
theorem dX3_special_272 : decode cX3_special 272 = .ok (.iload_n 1, 1) := by decide +kernel
theorem dX3_special_273 : decode cX3_special 273 = .ok (.iload 4, 2) := by decide +kernel
theorem dX3_special_275 : decode cX3_special 275 = .ok (.ifCond .eq 21, 3) := by decide +kernel
theorem dX3_special_278 : decode cX3_special 278 = .ok (.aload_n 0, 1) := by decide +kernel
theorem dX3_special_279 : decode cX3_special 279 = .ok (.getfield 52, 3) := by decide +kernel
theorem dX3_special_282 : decode cX3_special 282 = .ok (.iload_n 1, 1) := by decide +kernel
theorem dX3_special_283 : decode cX3_special 283 = .ok (.baload, 1) := by decide +kernel
theorem dX3_special_284 : decode cX3_special 284 = .ok (.ifCond .eq 12, 3) := by decide +kernel
theorem dX3_special_287 : decode cX3_special 287 = .ok (.aload_n 0, 1) := by decide +kernel
theorem dX3_special_288 : decode cX3_special 288 = .ok (.getfield 49, 3) := by decide +kernel
theorem dX3_special_291 : decode cX3_special 291 = .ok (.iload_n 1, 1) := by decide +kernel
theorem dX3_special_292 : decode cX3_special 292 = .ok (.iaload, 1) := by decide +kernel
theorem dX3_special_293 : decode cX3_special 293 = .ok (.goto 9, 3) := by decide +kernel
theorem dX3_special_296 : decode cX3_special 296 = .ok (.aload_n 0, 1) := by decide +kernel
theorem dX3_special_297 : decode cX3_special 297 = .ok (.getfield 40, 3) := by decide +kernel
theorem dX3_special_300 : decode cX3_special 300 = .ok (.iload_n 1, 1) := by decide +kernel
theorem dX3_special_301 : decode cX3_special 301 = .ok (.iaload, 1) := by decide +kernel
theorem dX3_special_302 : decode cX3_special 302 = .ok (.iastore, 1) := by decide +kernel
theorem dX3_special_303 : decode cX3_special 303 = .ok (.goto 248, 3) := by decide +kernel
theorem dX3_special_306 : decode cX3_special 306 = .ok (.aload_n 0, 1) := by decide +kernel
theorem dX3_special_307 : decode cX3_special 307 = .ok (.getfield 52, 3) := by decide +kernel
theorem dX3_special_310 : decode cX3_special 310 = .ok (.iload_n 1, 1) := by decide +kernel
theorem dX3_special_311 : decode cX3_special 311 = .ok (.baload, 1) := by decide +kernel
theorem dX3_special_312 : decode cX3_special 312 = .ok (.ifCond .eq 239, 3) := by decide +kernel
theorem dX3_special_315 : decode cX3_special 315 = .ok (.aload_n 0, 1) := by decide +kernel
theorem dX3_special_316 : decode cX3_special 316 = .ok (.getfield 56, 3) := by decide +kernel
theorem dX3_special_319 : decode cX3_special 319 = .ok (.iload_n 1, 1) := by decide +kernel
theorem dX3_special_320 : decode cX3_special 320 = .ok (.baload, 1) := by decide +kernel
theorem dX3_special_321 : decode cX3_special 321 = .ok (.ifCond .ne 230, 3) := by decide +kernel
theorem dX3_special_324 : decode cX3_special 324 = .ok (.aload_n 0, 1) := by decide +kernel
