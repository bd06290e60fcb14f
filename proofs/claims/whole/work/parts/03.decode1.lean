theorem dX0_init_0 : decode cX0_init 0 = .ok (.aload_n 0, 1) := by decide +kernel
theorem dX0_init_1 : decode cX0_init 1 = .ok (.invokespecial 3, 3) := by decide +kernel
theorem dX0_init_4 : decode cX0_init 4 = .ok (.aload_n 0, 1) := by decide +kernel
theorem dX0_init_5 : decode cX0_init 5 = .ok (.new 9, 3) := by decide +kernel
theorem dX0_init_8 : decode cX0_init 8 = .ok (.dup, 1) := by decide +kernel
theorem dX0_init_9 : decode cX0_init 9 = .ok (.invokespecial 11, 3) := by decide +kernel
theorem dX0_init_12 : decode cX0_init 12 = .ok (.putfield 12, 3) := by decide +kernel
theorem dX0_init_15 : decode cX0_init 15 = .ok (.aload_n 0, 1) := by decide +kernel
theorem dX0_init_16 : decode cX0_init 16 = .ok (.bipush 16, 2) := by decide +kernel
theorem dX0_init_18 : decode cX0_init 18 = .ok (.newarray .int, 2) := by decide +kernel
theorem dX0_init_20 : decode cX0_init 20 = .ok (.putfield 18, 3) := by decide +kernel
theorem dX0_init_23 : decode cX0_init 23 = .ok (.aload_n 0, 1) := by decide +kernel
theorem dX0_init_24 : decode cX0_init 24 = .ok (.sipush 255, 3) := by decide +kernel
theorem dX0_init_27 : decode cX0_init 27 = .ok (.putfield 22, 3) := by decide +kernel
theorem dX0_init_30 : decode cX0_init 30 = .ok (.aload_n 0, 1) := by decide +kernel
theorem dX0_init_31 : decode cX0_init 31 = .ok (.invokevirtual 26, 3) := by decide +kernel
theorem dX0_init_34 : decode cX0_init 34 = .ok (.aload_n 0, 1) := by decide +kernel
theorem dX0_init_35 : decode cX0_init 35 = .ok (.invokevirtual 29, 3) := by decide +kernel
theorem dX0_init_38 : decode cX0_init 38 = .ok (.return_, 1) := by decide +kernel
theorem dX0_reset_0 : decode cX0_reset 0 = .ok (.aload_n 0, 1) := by decide +kernel
theorem dX0_reset_1 : decode cX0_reset 1 = .ok (.getfield 12, 3) := by decide +kernel
theorem dX0_reset_4 : decode cX0_reset 4 = .ok (.invokevirtual 32, 3) := by decide +kernel
theorem dX0_reset_7 : decode cX0_reset 7 = .ok (.aload_n 0, 1) := by decide +kernel
theorem dX0_reset_8 : decode cX0_reset 8 = .ok (.sipush 254, 3) := by decide +kernel
theorem dX0_reset_11 : decode cX0_reset 11 = .ok (.putfield 33, 3) := by decide +kernel
theorem dX0_reset_14 : decode cX0_reset 14 = .ok (.aload_n 0, 1) := by decide +kernel
theorem dX0_reset_15 : decode cX0_reset 15 = .ok (.sipush 254, 3) := by decide +kernel
theorem dX0_reset_18 : decode cX0_reset 18 = .ok (.putfield 36, 3) := by decide +kernel
theorem dX0_reset_21 : decode cX0_reset 21 = .ok (.aload_n 0, 1) := by decide +kernel
theorem dX0_reset_22 : decode cX0_reset 22 = .ok (.iconst 0, 1) := by decide +kernel
theorem dX0_reset_23 : decode cX0_reset 23 = .ok (.putfield 39, 3) := by decide +kernel
theorem dX0_reset_26 : decode cX0_reset 26 = .ok (.aload_n 0, 1) := by decide +kernel
theorem dX0_reset_27 : decode cX0_reset 27 = .ok (.getfield 18, 3) := by decide +kernel
theorem dX0_reset_30 : decode cX0_reset 30 = .ok (.sipush 255, 3) := by decide +kernel
theorem dX0_reset_33 : decode cX0_reset 33 = .ok (.invokestatic 42, 3) := by decide +kernel
theorem dX0_reset_36 : decode cX0_reset 36 = .ok (.aload_n 0, 1) := by decide +kernel
theorem dX0_reset_37 : decode cX0_reset 37 = .ok (.ldc 48, 2) := by decide +kernel
theorem dX0_reset_39 : decode cX0_reset 39 = .ok (.putfield 49, 3) := by decide +kernel
theorem dX0_reset_42 : decode cX0_reset 42 = .ok (.return_, 1) := by decide +kernel
theorem dX0_forgetSearch_0 : decode cX0_forgetSearch 0 = .ok (.aload_n 0, 1) := by decide +kernel
theorem dX0_forgetSearch_1 : decode cX0_forgetSearch 1 = .ok (.ldc 48, 2) := by decide +kernel
theorem dX0_forgetSearch_3 : decode cX0_forgetSearch 3 = .ok (.putfield 52, 3) := by decide +kernel
theorem dX0_forgetSearch_6 : decode cX0_forgetSearch 6 = .ok (.aload_n 0, 1) := by decide +kernel
theorem dX0_forgetSearch_7 : decode cX0_forgetSearch 7 = .ok (.iconst 0, 1) := by decide +kernel
theorem dX0_forgetSearch_8 : decode cX0_forgetSearch 8 = .ok (.putfield 55, 3) := by decide +kernel
theorem dX0_forgetSearch_11 : decode cX0_forgetSearch 11 = .ok (.aload_n 0, 1) := by decide +kernel
theorem dX0_forgetSearch_12 : decode cX0_forgetSearch 12 = .ok (.iconst 0, 1) := by decide +kernel
theorem dX0_forgetSearch_13 : decode cX0_forgetSearch 13 = .ok (.putfield 58, 3) := by decide +kernel
theorem dX0_forgetSearch_16 : decode cX0_forgetSearch 16 = .ok (.aload_n 0, 1) := by decide +kernel
theorem dX0_forgetSearch_17 : decode cX0_forgetSearch 17 = .ok (.iconst 0, 1) := by decide +kernel
theorem dX0_forgetSearch_18 : decode cX0_forgetSearch 18 = .ok (.putfield 62, 3) := by decide +kernel
theorem dX0_forgetSearch_21 : decode cX0_forgetSearch 21 = .ok (.return_, 1) := by decide +kernel
theorem dX0_startAgain_0 : decode cX0_startAgain 0 = .ok (.aload_n 0, 1) := by decide +kernel
theorem dX0_startAgain_1 : decode cX0_startAgain 1 = .ok (.getfield 12, 3) := by decide +kernel
theorem dX0_startAgain_4 : decode cX0_startAgain 4 = .ok (.invokevirtual 65, 3) := by decide +kernel
theorem dX0_startAgain_7 : decode cX0_startAgain 7 = .ok (.aload_n 0, 1) := by decide +kernel
theorem dX0_startAgain_8 : decode cX0_startAgain 8 = .ok (.getfield 33, 3) := by decide +kernel
theorem dX0_startAgain_11 : decode cX0_startAgain 11 = .ok (.sipush 255, 3) := by decide +kernel
theorem dX0_startAgain_14 : decode cX0_startAgain 14 = .ok (.if_icmp .eq 21, 3) := by decide +kernel
theorem dX0_startAgain_17 : decode cX0_startAgain 17 = .ok (.aload_n 0, 1) := by decide +kernel
theorem dX0_startAgain_18 : decode cX0_startAgain 18 = .ok (.getfield 12, 3) := by decide +kernel
theorem dX0_startAgain_21 : decode cX0_startAgain 21 = .ok (.aload_n 0, 1) := by decide +kernel
theorem dX0_startAgain_22 : decode cX0_startAgain 22 = .ok (.getfield 12, 3) := by decide +kernel
theorem dX0_startAgain_25 : decode cX0_startAgain 25 = .ok (.aload_n 0, 1) := by decide +kernel
theorem dX0_startAgain_26 : decode cX0_startAgain 26 = .ok (.getfield 33, 3) := by decide +kernel
theorem dX0_startAgain_29 : decode cX0_startAgain 29 = .ok (.invokevirtual 68, 3) := by decide +kernel
theorem dX0_startAgain_32 : decode cX0_startAgain 32 = .ok (.invokevirtual 72, 3) := by decide +kernel
theorem dX0_startAgain_35 : decode cX0_startAgain 35 = .ok (.aload_n 0, 1) := by decide +kernel
theorem dX0_startAgain_36 : decode cX0_startAgain 36 = .ok (.invokevirtual 29, 3) := by decide +kernel
theorem dX0_startAgain_39 : decode cX0_startAgain 39 = .ok (.return_, 1) := by decide +kernel
theorem dX0_isMeantBy_0 : decode cX0_isMeantBy 0 = .ok (.iload_n 1, 1) := by decide +kernel
theorem dX0_isMeantBy_1 : decode cX0_isMeantBy 1 = .ok (.sipush 128, 3) := by decide +kernel
theorem dX0_isMeantBy_4 : decode cX0_isMeantBy 4 = .ok (.if_icmp .ge 19, 3) := by decide +kernel
theorem dX0_isMeantBy_7 : decode cX0_isMeantBy 7 = .ok (.aload_n 0, 1) := by decide +kernel
theorem dX0_isMeantBy_8 : decode cX0_isMeantBy 8 = .ok (.getfield 22, 3) := by decide +kernel
theorem dX0_isMeantBy_11 : decode cX0_isMeantBy 11 = .ok (.iload_n 1, 1) := by decide +kernel
theorem dX0_isMeantBy_12 : decode cX0_isMeantBy 12 = .ok (.iconst 2, 1) := by decide +kernel
theorem dX0_isMeantBy_13 : decode cX0_isMeantBy 13 = .ok (.idiv, 1) := by decide +kernel
theorem dX0_isMeantBy_14 : decode cX0_isMeantBy 14 = .ok (.if_icmp .ne 7, 3) := by decide +kernel
theorem dX0_isMeantBy_17 : decode cX0_isMeantBy 17 = .ok (.iconst 1, 1) := by decide +kernel
theorem dX0_isMeantBy_18 : decode cX0_isMeantBy 18 = .ok (.goto 4, 3) := by decide +kernel
theorem dX0_isMeantBy_21 : decode cX0_isMeantBy 21 = .ok (.iconst 0, 1) := by decide +kernel
theorem dX0_isMeantBy_22 : decode cX0_isMeantBy 22 = .ok (.ireturn, 1) := by decide +kernel
theorem dX0_isMeantBy_23 : decode cX0_isMeantBy 23 = .ok (.iload_n 1, 1) := by decide +kernel
theorem dX0_isMeantBy_24 : decode cX0_isMeantBy 24 = .ok (.sipush 160, 3) := by decide +kernel
theorem dX0_isMeantBy_27 : decode cX0_isMeantBy 27 = .ok (.if_icmp .ge 27, 3) := by decide +kernel
theorem dX0_isMeantBy_30 : decode cX0_isMeantBy 30 = .ok (.aload_n 0, 1) := by decide +kernel
theorem dX0_isMeantBy_31 : decode cX0_isMeantBy 31 = .ok (.getfield 39, 3) := by decide +kernel
theorem dX0_isMeantBy_34 : decode cX0_isMeantBy 34 = .ok (.iload_n 1, 1) := by decide +kernel
theorem dX0_isMeantBy_35 : decode cX0_isMeantBy 35 = .ok (.sipush 128, 3) := by decide +kernel
theorem dX0_isMeantBy_38 : decode cX0_isMeantBy 38 = .ok (.isub, 1) := by decide +kernel
theorem dX0_isMeantBy_39 : decode cX0_isMeantBy 39 = .ok (.iconst 2, 1) := by decide +kernel
theorem dX0_isMeantBy_40 : decode cX0_isMeantBy 40 = .ok (.idiv, 1) := by decide +kernel
theorem dX0_isMeantBy_41 : decode cX0_isMeantBy 41 = .ok (.ishr, 1) := by decide +kernel
theorem dX0_isMeantBy_42 : decode cX0_isMeantBy 42 = .ok (.iconst 1, 1) := by decide +kernel
theorem dX0_isMeantBy_43 : decode cX0_isMeantBy 43 = .ok (.iand, 1) := by decide +kernel
theorem dX0_isMeantBy_44 : decode cX0_isMeantBy 44 = .ok (.iconst 1, 1) := by decide +kernel
theorem dX0_isMeantBy_45 : decode cX0_isMeantBy 45 = .ok (.if_icmp .ne 7, 3) := by decide +kernel
theorem dX0_isMeantBy_48 : decode cX0_isMeantBy 48 = .ok (.iconst 1, 1) := by decide +kernel
theorem dX0_isMeantBy_49 : decode cX0_isMeantBy 49 = .ok (.goto 4, 3) := by decide +kernel
theorem dX0_isMeantBy_52 : decode cX0_isMeantBy 52 = .ok (.iconst 0, 1) := by decide +kernel
theorem dX0_isMeantBy_53 : decode cX0_isMeantBy 53 = .ok (.ireturn, 1) := by decide +kernel
theorem dX0_isMeantBy_54 : decode cX0_isMeantBy 54 = .ok (.iload_n 1, 1) := by decide +kernel
theorem dX0_isMeantBy_55 : decode cX0_isMeantBy 55 = .ok (.sipush 254, 3) := by decide +kernel
theorem dX0_isMeantBy_58 : decode cX0_isMeantBy 58 = .ok (.if_icmp .lt 7, 3) := by decide +kernel
theorem dX0_isMeantBy_61 : decode cX0_isMeantBy 61 = .ok (.iconst 1, 1) := by decide +kernel
theorem dX0_isMeantBy_62 : decode cX0_isMeantBy 62 = .ok (.goto 4, 3) := by decide +kernel
theorem dX0_isMeantBy_65 : decode cX0_isMeantBy 65 = .ok (.iconst 0, 1) := by decide +kernel
theorem dX0_isMeantBy_66 : decode cX0_isMeantBy 66 = .ok (.ireturn, 1) := by decide +kernel
theorem dX0_hearLevel_0 : decode cX0_hearLevel 0 = .ok (.iload_n 1, 1) := by decide +kernel
theorem dX0_hearLevel_1 : decode cX0_hearLevel 1 = .ok (.sipush 255, 3) := by decide +kernel
theorem dX0_hearLevel_4 : decode cX0_hearLevel 4 = .ok (.if_icmp .ne 13, 3) := by decide +kernel
theorem dX0_hearLevel_7 : decode cX0_hearLevel 7 = .ok (.aload_n 0, 1) := by decide +kernel
theorem dX0_hearLevel_8 : decode cX0_hearLevel 8 = .ok (.getfield 12, 3) := by decide +kernel
theorem dX0_hearLevel_11 : decode cX0_hearLevel 11 = .ok (.invokevirtual 65, 3) := by decide +kernel
theorem dX0_hearLevel_14 : decode cX0_hearLevel 14 = .ok (.goto 11, 3) := by decide +kernel
theorem dX0_hearLevel_17 : decode cX0_hearLevel 17 = .ok (.aload_n 0, 1) := by decide +kernel
theorem dX0_hearLevel_18 : decode cX0_hearLevel 18 = .ok (.getfield 12, 3) := by decide +kernel
theorem dX0_hearLevel_21 : decode cX0_hearLevel 21 = .ok (.iload_n 1, 1) := by decide +kernel
theorem dX0_hearLevel_22 : decode cX0_hearLevel 22 = .ok (.invokevirtual 76, 3) := by decide +kernel
theorem dX0_hearLevel_25 : decode cX0_hearLevel 25 = .ok (.return_, 1) := by decide +kernel
theorem dX0_goToUnlessUnset_0 : decode cX0_goToUnlessUnset 0 = .ok (.iload_n 1, 1) := by decide +kernel
theorem dX0_goToUnlessUnset_1 : decode cX0_goToUnlessUnset 1 = .ok (.sipush 255, 3) := by decide +kernel
theorem dX0_goToUnlessUnset_4 : decode cX0_goToUnlessUnset 4 = .ok (.if_icmp .eq 11, 3) := by decide +kernel
theorem dX0_goToUnlessUnset_7 : decode cX0_goToUnlessUnset 7 = .ok (.aload_n 0, 1) := by decide +kernel
theorem dX0_goToUnlessUnset_8 : decode cX0_goToUnlessUnset 8 = .ok (.getfield 12, 3) := by decide +kernel
theorem dX0_goToUnlessUnset_11 : decode cX0_goToUnlessUnset 11 = .ok (.iload_n 1, 1) := by decide +kernel
theorem dX0_goToUnlessUnset_12 : decode cX0_goToUnlessUnset 12 = .ok (.invokevirtual 76, 3) := by decide +kernel
theorem dX0_goToUnlessUnset_15 : decode cX0_goToUnlessUnset 15 = .ok (.return_, 1) := by decide +kernel
theorem dX0_hearCommand_0 : decode cX0_hearCommand 0 = .ok (.iload_n 1, 1) := by decide +kernel
theorem dX0_hearCommand_1 : decode cX0_hearCommand 1 = .ok (.sipush 144, 3) := by decide +kernel
theorem dX0_hearCommand_4 : decode cX0_hearCommand 4 = .ok (.if_icmp .lt 9, 3) := by decide +kernel
theorem dX0_hearCommand_7 : decode cX0_hearCommand 7 = .ok (.aload_n 0, 1) := by decide +kernel
theorem dX0_hearCommand_8 : decode cX0_hearCommand 8 = .ok (.iload_n 1, 1) := by decide +kernel
theorem dX0_hearCommand_9 : decode cX0_hearCommand 9 = .ok (.invokevirtual 79, 3) := by decide +kernel
theorem dX0_hearCommand_12 : decode cX0_hearCommand 12 = .ok (.ireturn, 1) := by decide +kernel
theorem dX0_hearCommand_13 : decode cX0_hearCommand 13 = .ok (.iload_n 1, 1) := by decide +kernel
theorem dX0_hearCommand_14 : decode cX0_hearCommand 14 = .ok (.bipush 32, 2) := by decide +kernel
theorem dX0_hearCommand_16 : decode cX0_hearCommand 16 = .ok (.if_icmp .ge 11, 3) := by decide +kernel
theorem dX0_hearCommand_19 : decode cX0_hearCommand 19 = .ok (.aload_n 0, 1) := by decide +kernel
theorem dX0_hearCommand_20 : decode cX0_hearCommand 20 = .ok (.iload_n 1, 1) := by decide +kernel
theorem dX0_hearCommand_21 : decode cX0_hearCommand 21 = .ok (.invokevirtual 82, 3) := by decide +kernel
theorem dX0_hearCommand_24 : decode cX0_hearCommand 24 = .ok (.goto 12, 3) := by decide +kernel
theorem dX0_hearCommand_27 : decode cX0_hearCommand 27 = .ok (.iload_n 2, 1) := by decide +kernel
theorem dX0_hearCommand_28 : decode cX0_hearCommand 28 = .ok (.ifCond .eq 8, 3) := by decide +kernel
theorem dX0_hearCommand_31 : decode cX0_hearCommand 31 = .ok (.aload_n 0, 1) := by decide +kernel
theorem dX0_hearCommand_32 : decode cX0_hearCommand 32 = .ok (.iload_n 1, 1) := by decide +kernel
theorem dX0_hearCommand_33 : decode cX0_hearCommand 33 = .ok (.invokevirtual 85, 3) := by decide +kernel
theorem dX0_hearCommand_36 : decode cX0_hearCommand 36 = .ok (.iconst (-1), 1) := by decide +kernel
theorem dX0_hearCommand_37 : decode cX0_hearCommand 37 = .ok (.ireturn, 1) := by decide +kernel
theorem dX0_light_0 : decode cX0_light 0 = .ok (.iload_n 1, 1) := by decide +kernel
theorem dX0_light_1 : decode cX0_light 1 = .ok (.tableswitch 155 0 8 #[51, 60, 75, 91, 100, 109, 124, 139, 147], 51) := by decide +kernel
theorem dX0_light_52 : decode cX0_light 52 = .ok (.aload_n 0, 1) := by decide +kernel
theorem dX0_light_53 : decode cX0_light 53 = .ok (.getfield 12, 3) := by decide +kernel
theorem dX0_light_56 : decode cX0_light 56 = .ok (.iconst 0, 1) := by decide +kernel
theorem dX0_light_57 : decode cX0_light 57 = .ok (.invokevirtual 72, 3) := by decide +kernel
theorem dX0_light_60 : decode cX0_light 60 = .ok (.return_, 1) := by decide +kernel
theorem dX0_light_61 : decode cX0_light 61 = .ok (.aload_n 0, 1) := by decide +kernel
theorem dX0_light_62 : decode cX0_light 62 = .ok (.getfield 12, 3) := by decide +kernel
theorem dX0_light_65 : decode cX0_light 65 = .ok (.aload_n 0, 1) := by decide +kernel
theorem dX0_light_66 : decode cX0_light 66 = .ok (.getfield 12, 3) := by decide +kernel
theorem dX0_light_69 : decode cX0_light 69 = .ok (.invokevirtual 88, 3) := by decide +kernel
theorem dX0_light_72 : decode cX0_light 72 = .ok (.invokevirtual 92, 3) := by decide +kernel
theorem dX0_light_75 : decode cX0_light 75 = .ok (.return_, 1) := by decide +kernel
theorem dX0_light_76 : decode cX0_light 76 = .ok (.aload_n 0, 1) := by decide +kernel
theorem dX0_light_77 : decode cX0_light 77 = .ok (.getfield 12, 3) := by decide +kernel
theorem dX0_light_80 : decode cX0_light 80 = .ok (.aload_n 0, 1) := by decide +kernel
theorem dX0_light_81 : decode cX0_light 81 = .ok (.getfield 12, 3) := by decide +kernel
theorem dX0_light_84 : decode cX0_light 84 = .ok (.invokevirtual 88, 3) := by decide +kernel
theorem dX0_light_87 : decode cX0_light 87 = .ok (.ineg, 1) := by decide +kernel
theorem dX0_light_88 : decode cX0_light 88 = .ok (.invokevirtual 92, 3) := by decide +kernel
theorem dX0_light_91 : decode cX0_light 91 = .ok (.return_, 1) := by decide +kernel
theorem dX0_light_92 : decode cX0_light 92 = .ok (.aload_n 0, 1) := by decide +kernel
theorem dX0_light_93 : decode cX0_light 93 = .ok (.getfield 12, 3) := by decide +kernel
theorem dX0_light_96 : decode cX0_light 96 = .ok (.iconst 1, 1) := by decide +kernel
theorem dX0_light_97 : decode cX0_light 97 = .ok (.invokevirtual 92, 3) := by decide +kernel
theorem dX0_light_100 : decode cX0_light 100 = .ok (.return_, 1) := by decide +kernel
theorem dX0_light_101 : decode cX0_light 101 = .ok (.aload_n 0, 1) := by decide +kernel
theorem dX0_light_102 : decode cX0_light 102 = .ok (.getfield 12, 3) := by decide +kernel
theorem dX0_light_105 : decode cX0_light 105 = .ok (.iconst (-1), 1) := by decide +kernel
theorem dX0_light_106 : decode cX0_light 106 = .ok (.invokevirtual 92, 3) := by decide +kernel
theorem dX0_light_109 : decode cX0_light 109 = .ok (.return_, 1) := by decide +kernel
theorem dX0_light_110 : decode cX0_light 110 = .ok (.aload_n 0, 1) := by decide +kernel
theorem dX0_light_111 : decode cX0_light 111 = .ok (.getfield 12, 3) := by decide +kernel
theorem dX0_light_114 : decode cX0_light 114 = .ok (.aload_n 0, 1) := by decide +kernel
theorem dX0_light_115 : decode cX0_light 115 = .ok (.getfield 12, 3) := by decide +kernel
theorem dX0_light_118 : decode cX0_light 118 = .ok (.getfield 95, 3) := by decide +kernel
theorem dX0_light_121 : decode cX0_light 121 = .ok (.invokevirtual 72, 3) := by decide +kernel
theorem dX0_light_124 : decode cX0_light 124 = .ok (.return_, 1) := by decide +kernel
theorem dX0_light_125 : decode cX0_light 125 = .ok (.aload_n 0, 1) := by decide +kernel
theorem dX0_light_126 : decode cX0_light 126 = .ok (.getfield 12, 3) := by decide +kernel
theorem dX0_light_129 : decode cX0_light 129 = .ok (.aload_n 0, 1) := by decide +kernel
theorem dX0_light_130 : decode cX0_light 130 = .ok (.getfield 12, 3) := by decide +kernel
theorem dX0_light_133 : decode cX0_light 133 = .ok (.getfield 98, 3) := by decide +kernel
theorem dX0_light_136 : decode cX0_light 136 = .ok (.invokevirtual 72, 3) := by decide +kernel
theorem dX0_light_139 : decode cX0_light 139 = .ok (.return_, 1) := by decide +kernel
theorem dX0_light_140 : decode cX0_light 140 = .ok (.aload_n 0, 1) := by decide +kernel
theorem dX0_light_141 : decode cX0_light 141 = .ok (.getfield 12, 3) := by decide +kernel
theorem dX0_light_144 : decode cX0_light 144 = .ok (.invokevirtual 101, 3) := by decide +kernel
theorem dX0_light_147 : decode cX0_light 147 = .ok (.return_, 1) := by decide +kernel
theorem dX0_light_148 : decode cX0_light 148 = .ok (.aload_n 0, 1) := by decide +kernel
theorem dX0_light_149 : decode cX0_light 149 = .ok (.getfield 12, 3) := by decide +kernel
theorem dX0_light_152 : decode cX0_light 152 = .ok (.invokevirtual 104, 3) := by decide +kernel
theorem dX0_light_155 : decode cX0_light 155 = .ok (.return_, 1) := by decide +kernel
theorem dX0_light_156 : decode cX0_light 156 = .ok (.iload_n 1, 1) := by decide +kernel
theorem dX0_light_157 : decode cX0_light 157 = .ok (.bipush 16, 2) := by decide +kernel
theorem dX0_light_159 : decode cX0_light 159 = .ok (.if_icmp .lt 16, 3) := by decide +kernel
theorem dX0_light_162 : decode cX0_light 162 = .ok (.aload_n 0, 1) := by decide +kernel
theorem dX0_light_163 : decode cX0_light 163 = .ok (.aload_n 0, 1) := by decide +kernel
theorem dX0_light_164 : decode cX0_light 164 = .ok (.getfield 18, 3) := by decide +kernel
theorem dX0_light_167 : decode cX0_light 167 = .ok (.iload_n 1, 1) := by decide +kernel
theorem dX0_light_168 : decode cX0_light 168 = .ok (.bipush 15, 2) := by decide +kernel
theorem dX0_light_170 : decode cX0_light 170 = .ok (.iand, 1) := by decide +kernel
theorem dX0_light_171 : decode cX0_light 171 = .ok (.iaload, 1) := by decide +kernel
theorem dX0_light_172 : decode cX0_light 172 = .ok (.invokevirtual 107, 3) := by decide +kernel
theorem dX0_light_175 : decode cX0_light 175 = .ok (.return_, 1) := by decide +kernel
theorem dX0_configure_0 : decode cX0_configure 0 = .ok (.iload_n 1, 1) := by decide +kernel
theorem dX0_configure_1 : decode cX0_configure 1 = .ok (.lookupswitch 175 #[(32, 83), (33, 88), (42, 100), (43, 112), (44, 124), (45, 133), (46, 142), (47, 154), (128, 166)], 83) := by decide +kernel
theorem dX0_configure_84 : decode cX0_configure 84 = .ok (.aload_n 0, 1) := by decide +kernel
theorem dX0_configure_85 : decode cX0_configure 85 = .ok (.invokevirtual 26, 3) := by decide +kernel
theorem dX0_configure_88 : decode cX0_configure 88 = .ok (.return_, 1) := by decide +kernel
theorem dX0_configure_89 : decode cX0_configure 89 = .ok (.aload_n 0, 1) := by decide +kernel
theorem dX0_configure_90 : decode cX0_configure 90 = .ok (.aload_n 0, 1) := by decide +kernel
theorem dX0_configure_91 : decode cX0_configure 91 = .ok (.getfield 12, 3) := by decide +kernel
theorem dX0_configure_94 : decode cX0_configure 94 = .ok (.getfield 110, 3) := by decide +kernel
theorem dX0_configure_97 : decode cX0_configure 97 = .ok (.putfield 55, 3) := by decide +kernel
theorem dX0_configure_100 : decode cX0_configure 100 = .ok (.return_, 1) := by decide +kernel
theorem dX0_configure_101 : decode cX0_configure 101 = .ok (.aload_n 0, 1) := by decide +kernel
theorem dX0_configure_102 : decode cX0_configure 102 = .ok (.getfield 12, 3) := by decide +kernel
theorem dX0_configure_105 : decode cX0_configure 105 = .ok (.aload_n 0, 1) := by decide +kernel
theorem dX0_configure_106 : decode cX0_configure 106 = .ok (.getfield 55, 3) := by decide +kernel
theorem dX0_configure_109 : decode cX0_configure 109 = .ok (.invokevirtual 113, 3) := by decide +kernel
theorem dX0_configure_112 : decode cX0_configure 112 = .ok (.return_, 1) := by decide +kernel
theorem dX0_configure_113 : decode cX0_configure 113 = .ok (.aload_n 0, 1) := by decide +kernel
theorem dX0_configure_114 : decode cX0_configure 114 = .ok (.getfield 12, 3) := by decide +kernel
theorem dX0_configure_117 : decode cX0_configure 117 = .ok (.aload_n 0, 1) := by decide +kernel
theorem dX0_configure_118 : decode cX0_configure 118 = .ok (.getfield 55, 3) := by decide +kernel
theorem dX0_configure_121 : decode cX0_configure 121 = .ok (.invokevirtual 116, 3) := by decide +kernel
theorem dX0_configure_124 : decode cX0_configure 124 = .ok (.return_, 1) := by decide +kernel
theorem dX0_configure_125 : decode cX0_configure 125 = .ok (.aload_n 0, 1) := by decide +kernel
theorem dX0_configure_126 : decode cX0_configure 126 = .ok (.aload_n 0, 1) := by decide +kernel
theorem dX0_configure_127 : decode cX0_configure 127 = .ok (.getfield 55, 3) := by decide +kernel
theorem dX0_configure_130 : decode cX0_configure 130 = .ok (.putfield 36, 3) := by decide +kernel
theorem dX0_configure_133 : decode cX0_configure 133 = .ok (.return_, 1) := by decide +kernel
theorem dX0_configure_134 : decode cX0_configure 134 = .ok (.aload_n 0, 1) := by decide +kernel
theorem dX0_configure_135 : decode cX0_configure 135 = .ok (.aload_n 0, 1) := by decide +kernel
theorem dX0_configure_136 : decode cX0_configure 136 = .ok (.getfield 55, 3) := by decide +kernel
theorem dX0_configure_139 : decode cX0_configure 139 = .ok (.putfield 33, 3) := by decide +kernel
theorem dX0_configure_142 : decode cX0_configure 142 = .ok (.return_, 1) := by decide +kernel
theorem dX0_configure_143 : decode cX0_configure 143 = .ok (.aload_n 0, 1) := by decide +kernel
theorem dX0_configure_144 : decode cX0_configure 144 = .ok (.getfield 12, 3) := by decide +kernel
theorem dX0_configure_147 : decode cX0_configure 147 = .ok (.aload_n 0, 1) := by decide +kernel
theorem dX0_configure_148 : decode cX0_configure 148 = .ok (.getfield 55, 3) := by decide +kernel
theorem dX0_configure_151 : decode cX0_configure 151 = .ok (.invokevirtual 119, 3) := by decide +kernel
theorem dX0_configure_154 : decode cX0_configure 154 = .ok (.return_, 1) := by decide +kernel
theorem dX0_configure_155 : decode cX0_configure 155 = .ok (.aload_n 0, 1) := by decide +kernel
theorem dX0_configure_156 : decode cX0_configure 156 = .ok (.getfield 12, 3) := by decide +kernel
theorem dX0_configure_159 : decode cX0_configure 159 = .ok (.aload_n 0, 1) := by decide +kernel
theorem dX0_configure_160 : decode cX0_configure 160 = .ok (.getfield 55, 3) := by decide +kernel
theorem dX0_configure_163 : decode cX0_configure 163 = .ok (.invokevirtual 122, 3) := by decide +kernel
theorem dX0_configure_166 : decode cX0_configure 166 = .ok (.return_, 1) := by decide +kernel
theorem dX0_configure_167 : decode cX0_configure 167 = .ok (.aload_n 0, 1) := by decide +kernel
theorem dX0_configure_168 : decode cX0_configure 168 = .ok (.aload_n 0, 1) := by decide +kernel
theorem dX0_configure_169 : decode cX0_configure 169 = .ok (.getfield 55, 3) := by decide +kernel
theorem dX0_configure_172 : decode cX0_configure 172 = .ok (.invokevirtual 125, 3) := by decide +kernel
theorem dX0_configure_175 : decode cX0_configure 175 = .ok (.return_, 1) := by decide +kernel
theorem dX0_configure_176 : decode cX0_configure 176 = .ok (.aload_n 0, 1) := by decide +kernel
theorem dX0_configure_177 : decode cX0_configure 177 = .ok (.iload_n 1, 1) := by decide +kernel
theorem dX0_configure_178 : decode cX0_configure 178 = .ok (.iconst 4, 1) := by decide +kernel
theorem dX0_configure_179 : decode cX0_configure 179 = .ok (.ishr, 1) := by decide +kernel
theorem dX0_configure_180 : decode cX0_configure 180 = .ok (.iload_n 1, 1) := by decide +kernel
theorem dX0_configure_181 : decode cX0_configure 181 = .ok (.bipush 15, 2) := by decide +kernel
theorem dX0_configure_183 : decode cX0_configure 183 = .ok (.iand, 1) := by decide +kernel
theorem dX0_configure_184 : decode cX0_configure 184 = .ok (.invokevirtual 128, 3) := by decide +kernel
theorem dX0_configure_187 : decode cX0_configure 187 = .ok (.return_, 1) := by decide +kernel
theorem dX0_configureNumbered_0 : decode cX0_configureNumbered 0 = .ok (.iload_n 1, 1) := by decide +kernel
theorem dX0_configureNumbered_1 : decode cX0_configureNumbered 1 = .ok (.tableswitch 86 4 7 #[31, 45, 58, 71], 31) := by decide +kernel
theorem dX0_configureNumbered_32 : decode cX0_configureNumbered 32 = .ok (.aload_n 0, 1) := by decide +kernel
theorem dX0_configureNumbered_33 : decode cX0_configureNumbered 33 = .ok (.getfield 18, 3) := by decide +kernel
theorem dX0_configureNumbered_36 : decode cX0_configureNumbered 36 = .ok (.iload_n 2, 1) := by decide +kernel
theorem dX0_configureNumbered_37 : decode cX0_configureNumbered 37 = .ok (.bipush 15, 2) := by decide +kernel
theorem dX0_configureNumbered_39 : decode cX0_configureNumbered 39 = .ok (.iand, 1) := by decide +kernel
theorem dX0_configureNumbered_40 : decode cX0_configureNumbered 40 = .ok (.aload_n 0, 1) := by decide +kernel
theorem dX0_configureNumbered_41 : decode cX0_configureNumbered 41 = .ok (.getfield 55, 3) := by decide +kernel
theorem dX0_configureNumbered_44 : decode cX0_configureNumbered 44 = .ok (.iastore, 1) := by decide +kernel
theorem dX0_configureNumbered_45 : decode cX0_configureNumbered 45 = .ok (.return_, 1) := by decide +kernel
theorem dX0_configureNumbered_46 : decode cX0_configureNumbered 46 = .ok (.aload_n 0, 1) := by decide +kernel
theorem dX0_configureNumbered_47 : decode cX0_configureNumbered 47 = .ok (.getfield 18, 3) := by decide +kernel
theorem dX0_configureNumbered_50 : decode cX0_configureNumbered 50 = .ok (.iload_n 2, 1) := by decide +kernel
theorem dX0_configureNumbered_51 : decode cX0_configureNumbered 51 = .ok (.bipush 15, 2) := by decide +kernel
theorem dX0_configureNumbered_53 : decode cX0_configureNumbered 53 = .ok (.iand, 1) := by decide +kernel
theorem dX0_configureNumbered_54 : decode cX0_configureNumbered 54 = .ok (.sipush 255, 3) := by decide +kernel
theorem dX0_configureNumbered_57 : decode cX0_configureNumbered 57 = .ok (.iastore, 1) := by decide +kernel
theorem dX0_configureNumbered_58 : decode cX0_configureNumbered 58 = .ok (.return_, 1) := by decide +kernel
theorem dX0_configureNumbered_59 : decode cX0_configureNumbered 59 = .ok (.aload_n 0, 1) := by decide +kernel
theorem dX0_configureNumbered_60 : decode cX0_configureNumbered 60 = .ok (.dup, 1) := by decide +kernel
theorem dX0_configureNumbered_61 : decode cX0_configureNumbered 61 = .ok (.getfield 39, 3) := by decide +kernel
theorem dX0_configureNumbered_64 : decode cX0_configureNumbered 64 = .ok (.iconst 1, 1) := by decide +kernel
theorem dX0_configureNumbered_65 : decode cX0_configureNumbered 65 = .ok (.iload_n 2, 1) := by decide +kernel
theorem dX0_configureNumbered_66 : decode cX0_configureNumbered 66 = .ok (.ishl, 1) := by decide +kernel
theorem dX0_configureNumbered_67 : decode cX0_configureNumbered 67 = .ok (.ior, 1) := by decide +kernel
theorem dX0_configureNumbered_68 : decode cX0_configureNumbered 68 = .ok (.putfield 39, 3) := by decide +kernel
theorem dX0_configureNumbered_71 : decode cX0_configureNumbered 71 = .ok (.return_, 1) := by decide +kernel
theorem dX0_configureNumbered_72 : decode cX0_configureNumbered 72 = .ok (.aload_n 0, 1) := by decide +kernel
theorem dX0_configureNumbered_73 : decode cX0_configureNumbered 73 = .ok (.dup, 1) := by decide +kernel
theorem dX0_configureNumbered_74 : decode cX0_configureNumbered 74 = .ok (.getfield 39, 3) := by decide +kernel
theorem dX0_configureNumbered_77 : decode cX0_configureNumbered 77 = .ok (.iconst 1, 1) := by decide +kernel
theorem dX0_configureNumbered_78 : decode cX0_configureNumbered 78 = .ok (.iload_n 2, 1) := by decide +kernel
theorem dX0_configureNumbered_79 : decode cX0_configureNumbered 79 = .ok (.ishl, 1) := by decide +kernel
theorem dX0_configureNumbered_80 : decode cX0_configureNumbered 80 = .ok (.iconst (-1), 1) := by decide +kernel
theorem dX0_configureNumbered_81 : decode cX0_configureNumbered 81 = .ok (.ixor, 1) := by decide +kernel
theorem dX0_configureNumbered_82 : decode cX0_configureNumbered 82 = .ok (.iand, 1) := by decide +kernel
theorem dX0_configureNumbered_83 : decode cX0_configureNumbered 83 = .ok (.putfield 39, 3) := by decide +kernel
theorem dX0_configureNumbered_86 : decode cX0_configureNumbered 86 = .ok (.return_, 1) := by decide +kernel
theorem dX0_configureNumbered_87 : decode cX0_configureNumbered 87 = .ok (.return_, 1) := by decide +kernel
theorem dX0_answerTo_0 : decode cX0_answerTo 0 = .ok (.iload_n 1, 1) := by decide +kernel
theorem dX0_answerTo_1 : decode cX0_answerTo 1 = .ok (.tableswitch 386 144 196 #[227, 232, 386, 236, 386, 386, 255, 386, 274, 386, 386, 386, 386, 386, 386, 386, 279, 287, 295, 303, 308, 313, 386, 386, 386, 386, 386, 386, 386, 386, 386, 386, 386, 386, 386, 386, 386, 386, 386, 386, 386, 386, 386, 386, 386, 386, 386, 386, 332, 341, 353, 365, 377], 227) := by decide +kernel
theorem dX0_answerTo_228 : decode cX0_answerTo 228 = .ok (.aload_n 0, 1) := by decide +kernel
theorem dX0_answerTo_229 : decode cX0_answerTo 229 = .ok (.invokevirtual 132, 3) := by decide +kernel
theorem dX0_answerTo_232 : decode cX0_answerTo 232 = .ok (.ireturn, 1) := by decide +kernel
theorem dX0_answerTo_233 : decode cX0_answerTo 233 = .ok (.sipush 255, 3) := by decide +kernel
theorem dX0_answerTo_236 : decode cX0_answerTo 236 = .ok (.ireturn, 1) := by decide +kernel
theorem dX0_answerTo_237 : decode cX0_answerTo 237 = .ok (.aload_n 0, 1) := by decide +kernel
theorem dX0_answerTo_238 : decode cX0_answerTo 238 = .ok (.getfield 12, 3) := by decide +kernel
theorem dX0_answerTo_241 : decode cX0_answerTo 241 = .ok (.getfield 110, 3) := by decide +kernel
theorem dX0_answerTo_244 : decode cX0_answerTo 244 = .ok (.ifCond .le 7, 3) := by decide +kernel
theorem dX0_answerTo_247 : decode cX0_answerTo 247 = .ok (.iconst 1, 1) := by decide +kernel
theorem dX0_answerTo_248 : decode cX0_answerTo 248 = .ok (.goto 4, 3) := by decide +kernel
theorem dX0_answerTo_251 : decode cX0_answerTo 251 = .ok (.iconst 0, 1) := by decide +kernel
theorem dX0_answerTo_252 : decode cX0_answerTo 252 = .ok (.invokestatic 135, 3) := by decide +kernel
theorem dX0_answerTo_255 : decode cX0_answerTo 255 = .ok (.ireturn, 1) := by decide +kernel
theorem dX0_answerTo_256 : decode cX0_answerTo 256 = .ok (.aload_n 0, 1) := by decide +kernel
theorem dX0_answerTo_257 : decode cX0_answerTo 257 = .ok (.getfield 22, 3) := by decide +kernel
theorem dX0_answerTo_260 : decode cX0_answerTo 260 = .ok (.sipush 255, 3) := by decide +kernel
theorem dX0_answerTo_263 : decode cX0_answerTo 263 = .ok (.if_icmp .ne 7, 3) := by decide +kernel
theorem dX0_answerTo_266 : decode cX0_answerTo 266 = .ok (.iconst 1, 1) := by decide +kernel
theorem dX0_answerTo_267 : decode cX0_answerTo 267 = .ok (.goto 4, 3) := by decide +kernel
theorem dX0_answerTo_270 : decode cX0_answerTo 270 = .ok (.iconst 0, 1) := by decide +kernel
theorem dX0_answerTo_271 : decode cX0_answerTo 271 = .ok (.invokestatic 135, 3) := by decide +kernel
theorem dX0_answerTo_274 : decode cX0_answerTo 274 = .ok (.ireturn, 1) := by decide +kernel
theorem dX0_answerTo_275 : decode cX0_answerTo 275 = .ok (.aload_n 0, 1) := by decide +kernel
theorem dX0_answerTo_276 : decode cX0_answerTo 276 = .ok (.getfield 55, 3) := by decide +kernel
theorem dX0_answerTo_279 : decode cX0_answerTo 279 = .ok (.ireturn, 1) := by decide +kernel
theorem dX0_answerTo_280 : decode cX0_answerTo 280 = .ok (.aload_n 0, 1) := by decide +kernel
theorem dX0_answerTo_281 : decode cX0_answerTo 281 = .ok (.getfield 12, 3) := by decide +kernel
theorem dX0_answerTo_284 : decode cX0_answerTo 284 = .ok (.getfield 110, 3) := by decide +kernel
theorem dX0_answerTo_287 : decode cX0_answerTo 287 = .ok (.ireturn, 1) := by decide +kernel
theorem dX0_answerTo_288 : decode cX0_answerTo 288 = .ok (.aload_n 0, 1) := by decide +kernel
theorem dX0_answerTo_289 : decode cX0_answerTo 289 = .ok (.getfield 12, 3) := by decide +kernel
theorem dX0_answerTo_292 : decode cX0_answerTo 292 = .ok (.getfield 95, 3) := by decide +kernel
theorem dX0_answerTo_295 : decode cX0_answerTo 295 = .ok (.ireturn, 1) := by decide +kernel
theorem dX0_answerTo_296 : decode cX0_answerTo 296 = .ok (.aload_n 0, 1) := by decide +kernel
theorem dX0_answerTo_297 : decode cX0_answerTo 297 = .ok (.getfield 12, 3) := by decide +kernel
theorem dX0_answerTo_300 : decode cX0_answerTo 300 = .ok (.getfield 98, 3) := by decide +kernel
theorem dX0_answerTo_303 : decode cX0_answerTo 303 = .ok (.ireturn, 1) := by decide +kernel
theorem dX0_answerTo_304 : decode cX0_answerTo 304 = .ok (.aload_n 0, 1) := by decide +kernel
theorem dX0_answerTo_305 : decode cX0_answerTo 305 = .ok (.getfield 33, 3) := by decide +kernel
theorem dX0_answerTo_308 : decode cX0_answerTo 308 = .ok (.ireturn, 1) := by decide +kernel
theorem dX0_answerTo_309 : decode cX0_answerTo 309 = .ok (.aload_n 0, 1) := by decide +kernel
theorem dX0_answerTo_310 : decode cX0_answerTo 310 = .ok (.getfield 36, 3) := by decide +kernel
theorem dX0_answerTo_313 : decode cX0_answerTo 313 = .ok (.ireturn, 1) := by decide +kernel
theorem dX0_answerTo_314 : decode cX0_answerTo 314 = .ok (.bipush 16, 2) := by decide +kernel
theorem dX0_answerTo_316 : decode cX0_answerTo 316 = .ok (.aload_n 0, 1) := by decide +kernel
theorem dX0_answerTo_317 : decode cX0_answerTo 317 = .ok (.getfield 12, 3) := by decide +kernel
theorem dX0_answerTo_320 : decode cX0_answerTo 320 = .ok (.getfield 139, 3) := by decide +kernel
theorem dX0_answerTo_323 : decode cX0_answerTo 323 = .ok (.imul, 1) := by decide +kernel
theorem dX0_answerTo_324 : decode cX0_answerTo 324 = .ok (.aload_n 0, 1) := by decide +kernel
theorem dX0_answerTo_325 : decode cX0_answerTo 325 = .ok (.getfield 12, 3) := by decide +kernel
theorem dX0_answerTo_328 : decode cX0_answerTo 328 = .ok (.getfield 142, 3) := by decide +kernel
theorem dX0_answerTo_331 : decode cX0_answerTo 331 = .ok (.iadd, 1) := by decide +kernel
theorem dX0_answerTo_332 : decode cX0_answerTo 332 = .ok (.ireturn, 1) := by decide +kernel
theorem dX0_answerTo_333 : decode cX0_answerTo 333 = .ok (.aload_n 0, 1) := by decide +kernel
theorem dX0_answerTo_334 : decode cX0_answerTo 334 = .ok (.getfield 39, 3) := by decide +kernel
theorem dX0_answerTo_337 : decode cX0_answerTo 337 = .ok (.sipush 255, 3) := by decide +kernel
theorem dX0_answerTo_340 : decode cX0_answerTo 340 = .ok (.iand, 1) := by decide +kernel
theorem dX0_answerTo_341 : decode cX0_answerTo 341 = .ok (.ireturn, 1) := by decide +kernel
theorem dX0_answerTo_342 : decode cX0_answerTo 342 = .ok (.aload_n 0, 1) := by decide +kernel
theorem dX0_answerTo_343 : decode cX0_answerTo 343 = .ok (.getfield 39, 3) := by decide +kernel
theorem dX0_answerTo_346 : decode cX0_answerTo 346 = .ok (.bipush 8, 2) := by decide +kernel
theorem dX0_answerTo_348 : decode cX0_answerTo 348 = .ok (.ishr, 1) := by decide +kernel
theorem dX0_answerTo_349 : decode cX0_answerTo 349 = .ok (.sipush 255, 3) := by decide +kernel
theorem dX0_answerTo_352 : decode cX0_answerTo 352 = .ok (.iand, 1) := by decide +kernel
theorem dX0_answerTo_353 : decode cX0_answerTo 353 = .ok (.ireturn, 1) := by decide +kernel
theorem dX0_answerTo_354 : decode cX0_answerTo 354 = .ok (.aload_n 0, 1) := by decide +kernel
theorem dX0_answerTo_355 : decode cX0_answerTo 355 = .ok (.getfield 49, 3) := by decide +kernel
theorem dX0_answerTo_358 : decode cX0_answerTo 358 = .ok (.bipush 16, 2) := by decide +kernel
theorem dX0_answerTo_360 : decode cX0_answerTo 360 = .ok (.ishr, 1) := by decide +kernel
theorem dX0_answerTo_361 : decode cX0_answerTo 361 = .ok (.sipush 255, 3) := by decide +kernel
theorem dX0_answerTo_364 : decode cX0_answerTo 364 = .ok (.iand, 1) := by decide +kernel
theorem dX0_answerTo_365 : decode cX0_answerTo 365 = .ok (.ireturn, 1) := by decide +kernel
theorem dX0_answerTo_366 : decode cX0_answerTo 366 = .ok (.aload_n 0, 1) := by decide +kernel
theorem dX0_answerTo_367 : decode cX0_answerTo 367 = .ok (.getfield 49, 3) := by decide +kernel
theorem dX0_answerTo_370 : decode cX0_answerTo 370 = .ok (.bipush 8, 2) := by decide +kernel
theorem dX0_answerTo_372 : decode cX0_answerTo 372 = .ok (.ishr, 1) := by decide +kernel
theorem dX0_answerTo_373 : decode cX0_answerTo 373 = .ok (.sipush 255, 3) := by decide +kernel
theorem dX0_answerTo_376 : decode cX0_answerTo 376 = .ok (.iand, 1) := by decide +kernel
theorem dX0_answerTo_377 : decode cX0_answerTo 377 = .ok (.ireturn, 1) := by decide +kernel
theorem dX0_answerTo_378 : decode cX0_answerTo 378 = .ok (.aload_n 0, 1) := by decide +kernel
theorem dX0_answerTo_379 : decode cX0_answerTo 379 = .ok (.getfield 49, 3) := by decide +kernel
theorem dX0_answerTo_382 : decode cX0_answerTo 382 = .ok (.sipush 255, 3) := by decide +kernel
theorem dX0_answerTo_385 : decode cX0_answerTo 385 = .ok (.iand, 1) := by decide +kernel
theorem dX0_answerTo_386 : decode cX0_answerTo 386 = .ok (.ireturn, 1) := by decide +kernel
theorem dX0_answerTo_387 : decode cX0_answerTo 387 = .ok (.iload_n 1, 1) := by decide +kernel
theorem dX0_answerTo_388 : decode cX0_answerTo 388 = .ok (.iconst 4, 1) := by decide +kernel
theorem dX0_answerTo_389 : decode cX0_answerTo 389 = .ok (.ishr, 1) := by decide +kernel
theorem dX0_answerTo_390 : decode cX0_answerTo 390 = .ok (.bipush 11, 2) := by decide +kernel
theorem dX0_answerTo_392 : decode cX0_answerTo 392 = .ok (.if_icmp .ne 15, 3) := by decide +kernel
theorem dX0_answerTo_395 : decode cX0_answerTo 395 = .ok (.aload_n 0, 1) := by decide +kernel
theorem dX0_answerTo_396 : decode cX0_answerTo 396 = .ok (.getfield 18, 3) := by decide +kernel
theorem dX0_answerTo_399 : decode cX0_answerTo 399 = .ok (.iload_n 1, 1) := by decide +kernel
theorem dX0_answerTo_400 : decode cX0_answerTo 400 = .ok (.bipush 15, 2) := by decide +kernel
theorem dX0_answerTo_402 : decode cX0_answerTo 402 = .ok (.iand, 1) := by decide +kernel
theorem dX0_answerTo_403 : decode cX0_answerTo 403 = .ok (.iaload, 1) := by decide +kernel
theorem dX0_answerTo_404 : decode cX0_answerTo 404 = .ok (.goto 4, 3) := by decide +kernel
theorem dX0_answerTo_407 : decode cX0_answerTo 407 = .ok (.iconst (-1), 1) := by decide +kernel
theorem dX0_answerTo_408 : decode cX0_answerTo 408 = .ok (.ireturn, 1) := by decide +kernel
theorem dX0_status_0 : decode cX0_status 0 = .ok (.aload_n 0, 1) := by decide +kernel
theorem dX0_status_1 : decode cX0_status 1 = .ok (.getfield 12, 3) := by decide +kernel
theorem dX0_status_4 : decode cX0_status 4 = .ok (.getfield 110, 3) := by decide +kernel
theorem dX0_status_7 : decode cX0_status 7 = .ok (.ifCond .le 7, 3) := by decide +kernel
theorem dX0_status_10 : decode cX0_status 10 = .ok (.iconst 4, 1) := by decide +kernel
theorem dX0_status_11 : decode cX0_status 11 = .ok (.goto 4, 3) := by decide +kernel
theorem dX0_status_14 : decode cX0_status 14 = .ok (.iconst 0, 1) := by decide +kernel
theorem dX0_status_15 : decode cX0_status 15 = .ok (.istore_n 1, 1) := by decide +kernel
theorem dX0_status_16 : decode cX0_status 16 = .ok (.aload_n 0, 1) := by decide +kernel
theorem dX0_status_17 : decode cX0_status 17 = .ok (.getfield 12, 3) := by decide +kernel
theorem dX0_status_20 : decode cX0_status 20 = .ok (.invokevirtual 145, 3) := by decide +kernel
theorem dX0_status_23 : decode cX0_status 23 = .ok (.ifCond .eq 8, 3) := by decide +kernel
theorem dX0_status_26 : decode cX0_status 26 = .ok (.bipush 16, 2) := by decide +kernel
theorem dX0_status_28 : decode cX0_status 28 = .ok (.goto 4, 3) := by decide +kernel
theorem dX0_status_31 : decode cX0_status 31 = .ok (.iconst 0, 1) := by decide +kernel
theorem dX0_status_32 : decode cX0_status 32 = .ok (.istore_n 2, 1) := by decide +kernel
theorem dX0_status_33 : decode cX0_status 33 = .ok (.aload_n 0, 1) := by decide +kernel
theorem dX0_status_34 : decode cX0_status 34 = .ok (.getfield 22, 3) := by decide +kernel
theorem dX0_status_37 : decode cX0_status 37 = .ok (.sipush 255, 3) := by decide +kernel
theorem dX0_status_40 : decode cX0_status 40 = .ok (.if_icmp .ne 8, 3) := by decide +kernel
theorem dX0_status_43 : decode cX0_status 43 = .ok (.bipush 64, 2) := by decide +kernel
theorem dX0_status_45 : decode cX0_status 45 = .ok (.goto 4, 3) := by decide +kernel
theorem dX0_status_48 : decode cX0_status 48 = .ok (.iconst 0, 1) := by decide +kernel
theorem dX0_status_49 : decode cX0_status 49 = .ok (.istore_n 3, 1) := by decide +kernel
theorem dX0_status_50 : decode cX0_status 50 = .ok (.iload_n 1, 1) := by decide +kernel
theorem dX0_status_51 : decode cX0_status 51 = .ok (.iload_n 2, 1) := by decide +kernel
theorem dX0_status_52 : decode cX0_status 52 = .ok (.iadd, 1) := by decide +kernel
theorem dX0_status_53 : decode cX0_status 53 = .ok (.iload_n 3, 1) := by decide +kernel
theorem dX0_status_54 : decode cX0_status 54 = .ok (.iadd, 1) := by decide +kernel
theorem dX0_status_55 : decode cX0_status 55 = .ok (.ireturn, 1) := by decide +kernel
theorem dX0_yesIf_0 : decode cX0_yesIf 0 = .ok (.iload_n 0, 1) := by decide +kernel
theorem dX0_yesIf_1 : decode cX0_yesIf 1 = .ok (.ifCond .eq 9, 3) := by decide +kernel
theorem dX0_yesIf_4 : decode cX0_yesIf 4 = .ok (.sipush 255, 3) := by decide +kernel
theorem dX0_yesIf_7 : decode cX0_yesIf 7 = .ok (.goto 4, 3) := by decide +kernel
theorem dX0_yesIf_10 : decode cX0_yesIf 10 = .ok (.iconst (-1), 1) := by decide +kernel
theorem dX0_yesIf_11 : decode cX0_yesIf 11 = .ok (.ireturn, 1) := by decide +kernel
theorem dX0_hearSpecial_0 : decode cX0_hearSpecial 0 = .ok (.iload_n 1, 1) := by decide +kernel
theorem dX0_hearSpecial_1 : decode cX0_hearSpecial 1 = .ok (.tableswitch 209 161 181 #[99, 209, 106, 209, 164, 209, 188, 209, 209, 209, 209, 209, 209, 209, 209, 209, 113, 209, 131, 209, 149], 99) := by decide +kernel
theorem dX0_hearSpecial_100 : decode cX0_hearSpecial 100 = .ok (.aload_n 0, 1) := by decide +kernel
theorem dX0_hearSpecial_101 : decode cX0_hearSpecial 101 = .ok (.iconst 0, 1) := by decide +kernel
theorem dX0_hearSpecial_102 : decode cX0_hearSpecial 102 = .ok (.putfield 58, 3) := by decide +kernel
theorem dX0_hearSpecial_105 : decode cX0_hearSpecial 105 = .ok (.iconst (-1), 1) := by decide +kernel
theorem dX0_hearSpecial_106 : decode cX0_hearSpecial 106 = .ok (.ireturn, 1) := by decide +kernel
theorem dX0_hearSpecial_107 : decode cX0_hearSpecial 107 = .ok (.aload_n 0, 1) := by decide +kernel
theorem dX0_hearSpecial_108 : decode cX0_hearSpecial 108 = .ok (.iload_n 2, 1) := by decide +kernel
theorem dX0_hearSpecial_109 : decode cX0_hearSpecial 109 = .ok (.putfield 55, 3) := by decide +kernel
theorem dX0_hearSpecial_112 : decode cX0_hearSpecial 112 = .ok (.iconst (-1), 1) := by decide +kernel
theorem dX0_hearSpecial_113 : decode cX0_hearSpecial 113 = .ok (.ireturn, 1) := by decide +kernel
theorem dX0_hearSpecial_114 : decode cX0_hearSpecial 114 = .ok (.aload_n 0, 1) := by decide +kernel
theorem dX0_hearSpecial_115 : decode cX0_hearSpecial 115 = .ok (.aload_n 0, 1) := by decide +kernel
theorem dX0_hearSpecial_116 : decode cX0_hearSpecial 116 = .ok (.getfield 52, 3) := by decide +kernel
theorem dX0_hearSpecial_119 : decode cX0_hearSpecial 119 = .ok (.ldc 149, 2) := by decide +kernel
theorem dX0_hearSpecial_121 : decode cX0_hearSpecial 121 = .ok (.iand, 1) := by decide +kernel
theorem dX0_hearSpecial_122 : decode cX0_hearSpecial 122 = .ok (.iload_n 2, 1) := by decide +kernel
theorem dX0_hearSpecial_123 : decode cX0_hearSpecial 123 = .ok (.bipush 16, 2) := by decide +kernel
theorem dX0_hearSpecial_125 : decode cX0_hearSpecial 125 = .ok (.ishl, 1) := by decide +kernel
theorem dX0_hearSpecial_126 : decode cX0_hearSpecial 126 = .ok (.ior, 1) := by decide +kernel
theorem dX0_hearSpecial_127 : decode cX0_hearSpecial 127 = .ok (.putfield 52, 3) := by decide +kernel
theorem dX0_hearSpecial_130 : decode cX0_hearSpecial 130 = .ok (.iconst (-1), 1) := by decide +kernel
theorem dX0_hearSpecial_131 : decode cX0_hearSpecial 131 = .ok (.ireturn, 1) := by decide +kernel
theorem dX0_hearSpecial_132 : decode cX0_hearSpecial 132 = .ok (.aload_n 0, 1) := by decide +kernel
theorem dX0_hearSpecial_133 : decode cX0_hearSpecial 133 = .ok (.aload_n 0, 1) := by decide +kernel
theorem dX0_hearSpecial_134 : decode cX0_hearSpecial 134 = .ok (.getfield 52, 3) := by decide +kernel
theorem dX0_hearSpecial_137 : decode cX0_hearSpecial 137 = .ok (.ldc 150, 2) := by decide +kernel
theorem dX0_hearSpecial_139 : decode cX0_hearSpecial 139 = .ok (.iand, 1) := by decide +kernel
theorem dX0_hearSpecial_140 : decode cX0_hearSpecial 140 = .ok (.iload_n 2, 1) := by decide +kernel
theorem dX0_hearSpecial_141 : decode cX0_hearSpecial 141 = .ok (.bipush 8, 2) := by decide +kernel
theorem dX0_hearSpecial_143 : decode cX0_hearSpecial 143 = .ok (.ishl, 1) := by decide +kernel
theorem dX0_hearSpecial_144 : decode cX0_hearSpecial 144 = .ok (.ior, 1) := by decide +kernel
theorem dX0_hearSpecial_145 : decode cX0_hearSpecial 145 = .ok (.putfield 52, 3) := by decide +kernel
theorem dX0_hearSpecial_148 : decode cX0_hearSpecial 148 = .ok (.iconst (-1), 1) := by decide +kernel
theorem dX0_hearSpecial_149 : decode cX0_hearSpecial 149 = .ok (.ireturn, 1) := by decide +kernel
theorem dX0_hearSpecial_150 : decode cX0_hearSpecial 150 = .ok (.aload_n 0, 1) := by decide +kernel
theorem dX0_hearSpecial_151 : decode cX0_hearSpecial 151 = .ok (.aload_n 0, 1) := by decide +kernel
theorem dX0_hearSpecial_152 : decode cX0_hearSpecial 152 = .ok (.getfield 52, 3) := by decide +kernel
theorem dX0_hearSpecial_155 : decode cX0_hearSpecial 155 = .ok (.ldc 151, 2) := by decide +kernel
theorem dX0_hearSpecial_157 : decode cX0_hearSpecial 157 = .ok (.iand, 1) := by decide +kernel
theorem dX0_hearSpecial_158 : decode cX0_hearSpecial 158 = .ok (.iload_n 2, 1) := by decide +kernel
theorem dX0_hearSpecial_159 : decode cX0_hearSpecial 159 = .ok (.ior, 1) := by decide +kernel
theorem dX0_hearSpecial_160 : decode cX0_hearSpecial 160 = .ok (.putfield 52, 3) := by decide +kernel
theorem dX0_hearSpecial_163 : decode cX0_hearSpecial 163 = .ok (.iconst (-1), 1) := by decide +kernel
theorem dX0_hearSpecial_164 : decode cX0_hearSpecial 164 = .ok (.ireturn, 1) := by decide +kernel
theorem dX0_hearSpecial_165 : decode cX0_hearSpecial 165 = .ok (.iload_n 3, 1) := by decide +kernel
theorem dX0_hearSpecial_166 : decode cX0_hearSpecial 166 = .ok (.ifCond .eq 21, 3) := by decide +kernel
theorem dX0_hearSpecial_169 : decode cX0_hearSpecial 169 = .ok (.aload_n 0, 1) := by decide +kernel
theorem dX0_hearSpecial_170 : decode cX0_hearSpecial 170 = .ok (.iload_n 2, 1) := by decide +kernel
theorem dX0_hearSpecial_171 : decode cX0_hearSpecial 171 = .ok (.invokevirtual 152, 3) := by decide +kernel
theorem dX0_hearSpecial_174 : decode cX0_hearSpecial 174 = .ok (.ifCond .eq 13, 3) := by decide +kernel
theorem dX0_hearSpecial_177 : decode cX0_hearSpecial 177 = .ok (.aload_n 0, 1) := by decide +kernel
theorem dX0_hearSpecial_178 : decode cX0_hearSpecial 178 = .ok (.iconst 1, 1) := by decide +kernel
theorem dX0_hearSpecial_179 : decode cX0_hearSpecial 179 = .ok (.putfield 58, 3) := by decide +kernel
theorem dX0_hearSpecial_182 : decode cX0_hearSpecial 182 = .ok (.aload_n 0, 1) := by decide +kernel
theorem dX0_hearSpecial_183 : decode cX0_hearSpecial 183 = .ok (.iconst 0, 1) := by decide +kernel
theorem dX0_hearSpecial_184 : decode cX0_hearSpecial 184 = .ok (.putfield 62, 3) := by decide +kernel
theorem dX0_hearSpecial_187 : decode cX0_hearSpecial 187 = .ok (.iconst (-1), 1) := by decide +kernel
theorem dX0_hearSpecial_188 : decode cX0_hearSpecial 188 = .ok (.ireturn, 1) := by decide +kernel
theorem dX0_hearSpecial_189 : decode cX0_hearSpecial 189 = .ok (.iload_n 3, 1) := by decide +kernel
theorem dX0_hearSpecial_190 : decode cX0_hearSpecial 190 = .ok (.ifCond .eq 18, 3) := by decide +kernel
theorem dX0_hearSpecial_193 : decode cX0_hearSpecial 193 = .ok (.aload_n 0, 1) := by decide +kernel
theorem dX0_hearSpecial_194 : decode cX0_hearSpecial 194 = .ok (.getfield 58, 3) := by decide +kernel
theorem dX0_hearSpecial_197 : decode cX0_hearSpecial 197 = .ok (.ifCond .eq 11, 3) := by decide +kernel
theorem dX0_hearSpecial_200 : decode cX0_hearSpecial 200 = .ok (.aload_n 0, 1) := by decide +kernel
theorem dX0_hearSpecial_201 : decode cX0_hearSpecial 201 = .ok (.aload_n 0, 1) := by decide +kernel
theorem dX0_hearSpecial_202 : decode cX0_hearSpecial 202 = .ok (.getfield 156, 3) := by decide +kernel
theorem dX0_hearSpecial_205 : decode cX0_hearSpecial 205 = .ok (.putfield 49, 3) := by decide +kernel
theorem dX0_hearSpecial_208 : decode cX0_hearSpecial 208 = .ok (.iconst (-1), 1) := by decide +kernel
theorem dX0_hearSpecial_209 : decode cX0_hearSpecial 209 = .ok (.ireturn, 1) := by decide +kernel
theorem dX0_hearSpecial_210 : decode cX0_hearSpecial 210 = .ok (.aload_n 0, 1) := by decide +kernel
theorem dX0_hearSpecial_211 : decode cX0_hearSpecial 211 = .ok (.getfield 58, 3) := by decide +kernel
theorem dX0_hearSpecial_214 : decode cX0_hearSpecial 214 = .ok (.ifCond .eq 19, 3) := by decide +kernel
theorem dX0_hearSpecial_217 : decode cX0_hearSpecial 217 = .ok (.aload_n 0, 1) := by decide +kernel
theorem dX0_hearSpecial_218 : decode cX0_hearSpecial 218 = .ok (.getfield 62, 3) := by decide +kernel
theorem dX0_hearSpecial_221 : decode cX0_hearSpecial 221 = .ok (.ifCond .ne 12, 3) := by decide +kernel
theorem dX0_hearSpecial_224 : decode cX0_hearSpecial 224 = .ok (.aload_n 0, 1) := by decide +kernel
theorem dX0_hearSpecial_225 : decode cX0_hearSpecial 225 = .ok (.iload_n 1, 1) := by decide +kernel
theorem dX0_hearSpecial_226 : decode cX0_hearSpecial 226 = .ok (.iload_n 2, 1) := by decide +kernel
theorem dX0_hearSpecial_227 : decode cX0_hearSpecial 227 = .ok (.invokevirtual 159, 3) := by decide +kernel
theorem dX0_hearSpecial_230 : decode cX0_hearSpecial 230 = .ok (.goto 4, 3) := by decide +kernel
theorem dX0_hearSpecial_233 : decode cX0_hearSpecial 233 = .ok (.iconst (-1), 1) := by decide +kernel
theorem dX0_hearSpecial_234 : decode cX0_hearSpecial 234 = .ok (.ireturn, 1) := by decide +kernel
theorem dX0_isToInitialise_0 : decode cX0_isToInitialise 0 = .ok (.iload_n 1, 1) := by decide +kernel
theorem dX0_isToInitialise_1 : decode cX0_isToInitialise 1 = .ok (.ifCond .ne 5, 3) := by decide +kernel
theorem dX0_isToInitialise_4 : decode cX0_isToInitialise 4 = .ok (.iconst 1, 1) := by decide +kernel
theorem dX0_isToInitialise_5 : decode cX0_isToInitialise 5 = .ok (.ireturn, 1) := by decide +kernel
theorem dX0_isToInitialise_6 : decode cX0_isToInitialise 6 = .ok (.iload_n 1, 1) := by decide +kernel
theorem dX0_isToInitialise_7 : decode cX0_isToInitialise 7 = .ok (.sipush 255, 3) := by decide +kernel
theorem dX0_isToInitialise_10 : decode cX0_isToInitialise 10 = .ok (.if_icmp .ne 21, 3) := by decide +kernel
theorem dX0_isToInitialise_13 : decode cX0_isToInitialise 13 = .ok (.aload_n 0, 1) := by decide +kernel
theorem dX0_isToInitialise_14 : decode cX0_isToInitialise 14 = .ok (.getfield 22, 3) := by decide +kernel
theorem dX0_isToInitialise_17 : decode cX0_isToInitialise 17 = .ok (.sipush 255, 3) := by decide +kernel
theorem dX0_isToInitialise_20 : decode cX0_isToInitialise 20 = .ok (.if_icmp .ne 7, 3) := by decide +kernel
theorem dX0_isToInitialise_23 : decode cX0_isToInitialise 23 = .ok (.iconst 1, 1) := by decide +kernel
theorem dX0_isToInitialise_24 : decode cX0_isToInitialise 24 = .ok (.goto 12, 3) := by decide +kernel
theorem dX0_isToInitialise_27 : decode cX0_isToInitialise 27 = .ok (.iconst 0, 1) := by decide +kernel
theorem dX0_isToInitialise_28 : decode cX0_isToInitialise 28 = .ok (.goto 8, 3) := by decide +kernel
theorem dX0_isToInitialise_31 : decode cX0_isToInitialise 31 = .ok (.aload_n 0, 1) := by decide +kernel
theorem dX0_isToInitialise_32 : decode cX0_isToInitialise 32 = .ok (.iload_n 1, 1) := by decide +kernel
theorem dX0_isToInitialise_33 : decode cX0_isToInitialise 33 = .ok (.invokevirtual 163, 3) := by decide +kernel
theorem dX0_isToInitialise_36 : decode cX0_isToInitialise 36 = .ok (.ireturn, 1) := by decide +kernel
theorem dX0_hearInSearch_0 : decode cX0_hearInSearch 0 = .ok (.iload_n 1, 1) := by decide +kernel
theorem dX0_hearInSearch_1 : decode cX0_hearInSearch 1 = .ok (.sipush 169, 3) := by decide +kernel
theorem dX0_hearInSearch_4 : decode cX0_hearInSearch 4 = .ok (.if_icmp .ne 23, 3) := by decide +kernel
theorem dX0_hearInSearch_7 : decode cX0_hearInSearch 7 = .ok (.aload_n 0, 1) := by decide +kernel
theorem dX0_hearInSearch_8 : decode cX0_hearInSearch 8 = .ok (.getfield 49, 3) := by decide +kernel
theorem dX0_hearInSearch_11 : decode cX0_hearInSearch 11 = .ok (.aload_n 0, 1) := by decide +kernel
theorem dX0_hearInSearch_12 : decode cX0_hearInSearch 12 = .ok (.getfield 52, 3) := by decide +kernel
theorem dX0_hearInSearch_15 : decode cX0_hearInSearch 15 = .ok (.if_icmp .gt 7, 3) := by decide +kernel
theorem dX0_hearInSearch_18 : decode cX0_hearInSearch 18 = .ok (.iconst 1, 1) := by decide +kernel
theorem dX0_hearInSearch_19 : decode cX0_hearInSearch 19 = .ok (.goto 4, 3) := by decide +kernel
theorem dX0_hearInSearch_22 : decode cX0_hearInSearch 22 = .ok (.iconst 0, 1) := by decide +kernel
theorem dX0_hearInSearch_23 : decode cX0_hearInSearch 23 = .ok (.invokestatic 135, 3) := by decide +kernel
theorem dX0_hearInSearch_26 : decode cX0_hearInSearch 26 = .ok (.ireturn, 1) := by decide +kernel
theorem dX0_hearInSearch_27 : decode cX0_hearInSearch 27 = .ok (.aload_n 0, 1) := by decide +kernel
theorem dX0_hearInSearch_28 : decode cX0_hearInSearch 28 = .ok (.getfield 49, 3) := by decide +kernel
theorem dX0_hearInSearch_31 : decode cX0_hearInSearch 31 = .ok (.aload_n 0, 1) := by decide +kernel
theorem dX0_hearInSearch_32 : decode cX0_hearInSearch 32 = .ok (.getfield 52, 3) := by decide +kernel
theorem dX0_hearInSearch_35 : decode cX0_hearInSearch 35 = .ok (.if_icmp .eq 5, 3) := by decide +kernel
theorem dX0_hearInSearch_38 : decode cX0_hearInSearch 38 = .ok (.iconst (-1), 1) := by decide +kernel
theorem dX0_hearInSearch_39 : decode cX0_hearInSearch 39 = .ok (.ireturn, 1) := by decide +kernel
theorem dX0_hearInSearch_40 : decode cX0_hearInSearch 40 = .ok (.iload_n 1, 1) := by decide +kernel
theorem dX0_hearInSearch_41 : decode cX0_hearInSearch 41 = .ok (.lookupswitch 91 #[(171, 43), (183, 50), (185, 57), (187, 66)], 43) := by decide +kernel
theorem dX0_hearInSearch_84 : decode cX0_hearInSearch 84 = .ok (.aload_n 0, 1) := by decide +kernel
theorem dX0_hearInSearch_85 : decode cX0_hearInSearch 85 = .ok (.iconst 1, 1) := by decide +kernel
theorem dX0_hearInSearch_86 : decode cX0_hearInSearch 86 = .ok (.putfield 62, 3) := by decide +kernel
theorem dX0_hearInSearch_89 : decode cX0_hearInSearch 89 = .ok (.iconst (-1), 1) := by decide +kernel
theorem dX0_hearInSearch_90 : decode cX0_hearInSearch 90 = .ok (.ireturn, 1) := by decide +kernel
theorem dX0_hearInSearch_91 : decode cX0_hearInSearch 91 = .ok (.aload_n 0, 1) := by decide +kernel
theorem dX0_hearInSearch_92 : decode cX0_hearInSearch 92 = .ok (.iload_n 2, 1) := by decide +kernel
theorem dX0_hearInSearch_93 : decode cX0_hearInSearch 93 = .ok (.invokevirtual 125, 3) := by decide +kernel
theorem dX0_hearInSearch_96 : decode cX0_hearInSearch 96 = .ok (.iconst (-1), 1) := by decide +kernel
theorem dX0_hearInSearch_97 : decode cX0_hearInSearch 97 = .ok (.ireturn, 1) := by decide +kernel
theorem dX0_hearInSearch_98 : decode cX0_hearInSearch 98 = .ok (.aload_n 0, 1) := by decide +kernel
theorem dX0_hearInSearch_99 : decode cX0_hearInSearch 99 = .ok (.iload_n 2, 1) := by decide +kernel
theorem dX0_hearInSearch_100 : decode cX0_hearInSearch 100 = .ok (.invokevirtual 163, 3) := by decide +kernel
theorem dX0_hearInSearch_103 : decode cX0_hearInSearch 103 = .ok (.invokestatic 135, 3) := by decide +kernel
theorem dX0_hearInSearch_106 : decode cX0_hearInSearch 106 = .ok (.ireturn, 1) := by decide +kernel
theorem dX0_hearInSearch_107 : decode cX0_hearInSearch 107 = .ok (.aload_n 0, 1) := by decide +kernel
theorem dX0_hearInSearch_108 : decode cX0_hearInSearch 108 = .ok (.getfield 22, 3) := by decide +kernel
theorem dX0_hearInSearch_111 : decode cX0_hearInSearch 111 = .ok (.sipush 255, 3) := by decide +kernel
theorem dX0_hearInSearch_114 : decode cX0_hearInSearch 114 = .ok (.if_icmp .ne 9, 3) := by decide +kernel
theorem dX0_hearInSearch_117 : decode cX0_hearInSearch 117 = .ok (.sipush 255, 3) := by decide +kernel
theorem dX0_hearInSearch_120 : decode cX0_hearInSearch 120 = .ok (.goto 11, 3) := by decide +kernel
theorem dX0_hearInSearch_123 : decode cX0_hearInSearch 123 = .ok (.iconst 2, 1) := by decide +kernel
theorem dX0_hearInSearch_124 : decode cX0_hearInSearch 124 = .ok (.aload_n 0, 1) := by decide +kernel
theorem dX0_hearInSearch_125 : decode cX0_hearInSearch 125 = .ok (.getfield 22, 3) := by decide +kernel
theorem dX0_hearInSearch_128 : decode cX0_hearInSearch 128 = .ok (.imul, 1) := by decide +kernel
theorem dX0_hearInSearch_129 : decode cX0_hearInSearch 129 = .ok (.iconst 1, 1) := by decide +kernel
theorem dX0_hearInSearch_130 : decode cX0_hearInSearch 130 = .ok (.iadd, 1) := by decide +kernel
theorem dX0_hearInSearch_131 : decode cX0_hearInSearch 131 = .ok (.ireturn, 1) := by decide +kernel
theorem dX0_hearInSearch_132 : decode cX0_hearInSearch 132 = .ok (.iconst (-1), 1) := by decide +kernel
theorem dX0_hearInSearch_133 : decode cX0_hearInSearch 133 = .ok (.ireturn, 1) := by decide +kernel
theorem dX0_isShortOf_0 : decode cX0_isShortOf 0 = .ok (.aload_n 0, 1) := by decide +kernel
theorem dX0_isShortOf_1 : decode cX0_isShortOf 1 = .ok (.getfield 22, 3) := by decide +kernel
theorem dX0_isShortOf_4 : decode cX0_isShortOf 4 = .ok (.sipush 255, 3) := by decide +kernel
theorem dX0_isShortOf_7 : decode cX0_isShortOf 7 = .ok (.if_icmp .eq 19, 3) := by decide +kernel
theorem dX0_isShortOf_10 : decode cX0_isShortOf 10 = .ok (.iload_n 1, 1) := by decide +kernel
theorem dX0_isShortOf_11 : decode cX0_isShortOf 11 = .ok (.iconst 2, 1) := by decide +kernel
theorem dX0_isShortOf_12 : decode cX0_isShortOf 12 = .ok (.aload_n 0, 1) := by decide +kernel
theorem dX0_isShortOf_13 : decode cX0_isShortOf 13 = .ok (.getfield 22, 3) := by decide +kernel
theorem dX0_isShortOf_16 : decode cX0_isShortOf 16 = .ok (.imul, 1) := by decide +kernel
theorem dX0_isShortOf_17 : decode cX0_isShortOf 17 = .ok (.iconst 1, 1) := by decide +kernel
theorem dX0_isShortOf_18 : decode cX0_isShortOf 18 = .ok (.iadd, 1) := by decide +kernel
theorem dX0_isShortOf_19 : decode cX0_isShortOf 19 = .ok (.if_icmp .ne 7, 3) := by decide +kernel
theorem dX0_isShortOf_22 : decode cX0_isShortOf 22 = .ok (.iconst 1, 1) := by decide +kernel
theorem dX0_isShortOf_23 : decode cX0_isShortOf 23 = .ok (.goto 4, 3) := by decide +kernel
theorem dX0_isShortOf_26 : decode cX0_isShortOf 26 = .ok (.iconst 0, 1) := by decide +kernel
theorem dX0_isShortOf_27 : decode cX0_isShortOf 27 = .ok (.ireturn, 1) := by decide +kernel
theorem dX0_takeShort_0 : decode cX0_takeShort 0 = .ok (.iload_n 1, 1) := by decide +kernel
theorem dX0_takeShort_1 : decode cX0_takeShort 1 = .ok (.sipush 255, 3) := by decide +kernel
theorem dX0_takeShort_4 : decode cX0_takeShort 4 = .ok (.if_icmp .ne 13, 3) := by decide +kernel
theorem dX0_takeShort_7 : decode cX0_takeShort 7 = .ok (.aload_n 0, 1) := by decide +kernel
theorem dX0_takeShort_8 : decode cX0_takeShort 8 = .ok (.sipush 255, 3) := by decide +kernel
theorem dX0_takeShort_11 : decode cX0_takeShort 11 = .ok (.putfield 22, 3) := by decide +kernel
theorem dX0_takeShort_14 : decode cX0_takeShort 14 = .ok (.goto 26, 3) := by decide +kernel
theorem dX0_takeShort_17 : decode cX0_takeShort 17 = .ok (.iload_n 1, 1) := by decide +kernel
theorem dX0_takeShort_18 : decode cX0_takeShort 18 = .ok (.iconst 1, 1) := by decide +kernel
theorem dX0_takeShort_19 : decode cX0_takeShort 19 = .ok (.iand, 1) := by decide +kernel
theorem dX0_takeShort_20 : decode cX0_takeShort 20 = .ok (.iconst 1, 1) := by decide +kernel
theorem dX0_takeShort_21 : decode cX0_takeShort 21 = .ok (.if_icmp .ne 19, 3) := by decide +kernel
theorem dX0_takeShort_24 : decode cX0_takeShort 24 = .ok (.iload_n 1, 1) := by decide +kernel
theorem dX0_takeShort_25 : decode cX0_takeShort 25 = .ok (.sipush 128, 3) := by decide +kernel
theorem dX0_takeShort_28 : decode cX0_takeShort 28 = .ok (.if_icmp .ge 12, 3) := by decide +kernel
theorem dX0_takeShort_31 : decode cX0_takeShort 31 = .ok (.aload_n 0, 1) := by decide +kernel
theorem dX0_takeShort_32 : decode cX0_takeShort 32 = .ok (.iload_n 1, 1) := by decide +kernel
theorem dX0_takeShort_33 : decode cX0_takeShort 33 = .ok (.iconst 1, 1) := by decide +kernel
theorem dX0_takeShort_34 : decode cX0_takeShort 34 = .ok (.isub, 1) := by decide +kernel
theorem dX0_takeShort_35 : decode cX0_takeShort 35 = .ok (.iconst 2, 1) := by decide +kernel
theorem dX0_takeShort_36 : decode cX0_takeShort 36 = .ok (.idiv, 1) := by decide +kernel
theorem dX0_takeShort_37 : decode cX0_takeShort 37 = .ok (.putfield 22, 3) := by decide +kernel
theorem dX0_takeShort_40 : decode cX0_takeShort 40 = .ok (.return_, 1) := by decide +kernel
theorem dX0_valueOf_0 : decode cX0_valueOf 0 = .ok (.iload_n 1, 1) := by decide +kernel
theorem dX0_valueOf_1 : decode cX0_valueOf 1 = .ok (.tableswitch 198 0 14 #[75, 83, 91, 99, 104, 109, 117, 125, 130, 135, 140, 145, 150, 163, 176], 75) := by decide +kernel
theorem dX0_valueOf_76 : decode cX0_valueOf 76 = .ok (.aload_n 0, 1) := by decide +kernel
theorem dX0_valueOf_77 : decode cX0_valueOf 77 = .ok (.getfield 12, 3) := by decide +kernel
theorem dX0_valueOf_80 : decode cX0_valueOf 80 = .ok (.getfield 110, 3) := by decide +kernel
theorem dX0_valueOf_83 : decode cX0_valueOf 83 = .ok (.ireturn, 1) := by decide +kernel
theorem dX0_valueOf_84 : decode cX0_valueOf 84 = .ok (.aload_n 0, 1) := by decide +kernel
theorem dX0_valueOf_85 : decode cX0_valueOf 85 = .ok (.getfield 12, 3) := by decide +kernel
theorem dX0_valueOf_88 : decode cX0_valueOf 88 = .ok (.getfield 98, 3) := by decide +kernel
theorem dX0_valueOf_91 : decode cX0_valueOf 91 = .ok (.ireturn, 1) := by decide +kernel
theorem dX0_valueOf_92 : decode cX0_valueOf 92 = .ok (.aload_n 0, 1) := by decide +kernel
theorem dX0_valueOf_93 : decode cX0_valueOf 93 = .ok (.getfield 12, 3) := by decide +kernel
theorem dX0_valueOf_96 : decode cX0_valueOf 96 = .ok (.getfield 95, 3) := by decide +kernel
theorem dX0_valueOf_99 : decode cX0_valueOf 99 = .ok (.ireturn, 1) := by decide +kernel
theorem dX0_valueOf_100 : decode cX0_valueOf 100 = .ok (.aload_n 0, 1) := by decide +kernel
theorem dX0_valueOf_101 : decode cX0_valueOf 101 = .ok (.getfield 33, 3) := by decide +kernel
theorem dX0_valueOf_104 : decode cX0_valueOf 104 = .ok (.ireturn, 1) := by decide +kernel
theorem dX0_valueOf_105 : decode cX0_valueOf 105 = .ok (.aload_n 0, 1) := by decide +kernel
theorem dX0_valueOf_106 : decode cX0_valueOf 106 = .ok (.getfield 36, 3) := by decide +kernel
theorem dX0_valueOf_109 : decode cX0_valueOf 109 = .ok (.ireturn, 1) := by decide +kernel
theorem dX0_valueOf_110 : decode cX0_valueOf 110 = .ok (.aload_n 0, 1) := by decide +kernel
theorem dX0_valueOf_111 : decode cX0_valueOf 111 = .ok (.getfield 12, 3) := by decide +kernel
theorem dX0_valueOf_114 : decode cX0_valueOf 114 = .ok (.getfield 139, 3) := by decide +kernel
theorem dX0_valueOf_117 : decode cX0_valueOf 117 = .ok (.ireturn, 1) := by decide +kernel
theorem dX0_valueOf_118 : decode cX0_valueOf 118 = .ok (.aload_n 0, 1) := by decide +kernel
theorem dX0_valueOf_119 : decode cX0_valueOf 119 = .ok (.getfield 12, 3) := by decide +kernel
theorem dX0_valueOf_122 : decode cX0_valueOf 122 = .ok (.getfield 142, 3) := by decide +kernel
theorem dX0_valueOf_125 : decode cX0_valueOf 125 = .ok (.ireturn, 1) := by decide +kernel
theorem dX0_valueOf_126 : decode cX0_valueOf 126 = .ok (.aload_n 0, 1) := by decide +kernel
theorem dX0_valueOf_127 : decode cX0_valueOf 127 = .ok (.getfield 39, 3) := by decide +kernel
theorem dX0_valueOf_130 : decode cX0_valueOf 130 = .ok (.ireturn, 1) := by decide +kernel
theorem dX0_valueOf_131 : decode cX0_valueOf 131 = .ok (.aload_n 0, 1) := by decide +kernel
theorem dX0_valueOf_132 : decode cX0_valueOf 132 = .ok (.getfield 22, 3) := by decide +kernel
theorem dX0_valueOf_135 : decode cX0_valueOf 135 = .ok (.ireturn, 1) := by decide +kernel
theorem dX0_valueOf_136 : decode cX0_valueOf 136 = .ok (.aload_n 0, 1) := by decide +kernel
theorem dX0_valueOf_137 : decode cX0_valueOf 137 = .ok (.getfield 49, 3) := by decide +kernel
theorem dX0_valueOf_140 : decode cX0_valueOf 140 = .ok (.ireturn, 1) := by decide +kernel
theorem dX0_valueOf_141 : decode cX0_valueOf 141 = .ok (.aload_n 0, 1) := by decide +kernel
theorem dX0_valueOf_142 : decode cX0_valueOf 142 = .ok (.getfield 55, 3) := by decide +kernel
theorem dX0_valueOf_145 : decode cX0_valueOf 145 = .ok (.ireturn, 1) := by decide +kernel
theorem dX0_valueOf_146 : decode cX0_valueOf 146 = .ok (.aload_n 0, 1) := by decide +kernel
theorem dX0_valueOf_147 : decode cX0_valueOf 147 = .ok (.getfield 52, 3) := by decide +kernel
theorem dX0_valueOf_150 : decode cX0_valueOf 150 = .ok (.ireturn, 1) := by decide +kernel
theorem dX0_valueOf_151 : decode cX0_valueOf 151 = .ok (.aload_n 0, 1) := by decide +kernel
theorem dX0_valueOf_152 : decode cX0_valueOf 152 = .ok (.getfield 58, 3) := by decide +kernel
theorem dX0_valueOf_155 : decode cX0_valueOf 155 = .ok (.ifCond .eq 7, 3) := by decide +kernel
theorem dX0_valueOf_158 : decode cX0_valueOf 158 = .ok (.iconst 1, 1) := by decide +kernel
theorem dX0_valueOf_159 : decode cX0_valueOf 159 = .ok (.goto 4, 3) := by decide +kernel
theorem dX0_valueOf_162 : decode cX0_valueOf 162 = .ok (.iconst 0, 1) := by decide +kernel
theorem dX0_valueOf_163 : decode cX0_valueOf 163 = .ok (.ireturn, 1) := by decide +kernel
theorem dX0_valueOf_164 : decode cX0_valueOf 164 = .ok (.aload_n 0, 1) := by decide +kernel
theorem dX0_valueOf_165 : decode cX0_valueOf 165 = .ok (.getfield 62, 3) := by decide +kernel
theorem dX0_valueOf_168 : decode cX0_valueOf 168 = .ok (.ifCond .eq 7, 3) := by decide +kernel
theorem dX0_valueOf_171 : decode cX0_valueOf 171 = .ok (.iconst 1, 1) := by decide +kernel
theorem dX0_valueOf_172 : decode cX0_valueOf 172 = .ok (.goto 4, 3) := by decide +kernel
theorem dX0_valueOf_175 : decode cX0_valueOf 175 = .ok (.iconst 0, 1) := by decide +kernel
theorem dX0_valueOf_176 : decode cX0_valueOf 176 = .ok (.ireturn, 1) := by decide +kernel
theorem dX0_valueOf_177 : decode cX0_valueOf 177 = .ok (.aload_n 0, 1) := by decide +kernel
theorem dX0_valueOf_178 : decode cX0_valueOf 178 = .ok (.getfield 12, 3) := by decide +kernel
theorem dX0_valueOf_181 : decode cX0_valueOf 181 = .ok (.invokevirtual 145, 3) := by decide +kernel
theorem dX0_valueOf_184 : decode cX0_valueOf 184 = .ok (.ifCond .eq 13, 3) := by decide +kernel
theorem dX0_valueOf_187 : decode cX0_valueOf 187 = .ok (.aload_n 0, 1) := by decide +kernel
theorem dX0_valueOf_188 : decode cX0_valueOf 188 = .ok (.getfield 12, 3) := by decide +kernel
theorem dX0_valueOf_191 : decode cX0_valueOf 191 = .ok (.getfield 166, 3) := by decide +kernel
theorem dX0_valueOf_194 : decode cX0_valueOf 194 = .ok (.goto 4, 3) := by decide +kernel
theorem dX0_valueOf_197 : decode cX0_valueOf 197 = .ok (.iconst (-1), 1) := by decide +kernel
theorem dX0_valueOf_198 : decode cX0_valueOf 198 = .ok (.ireturn, 1) := by decide +kernel
theorem dX0_valueOf_199 : decode cX0_valueOf 199 = .ok (.iload_n 1, 1) := by decide +kernel
theorem dX0_valueOf_200 : decode cX0_valueOf 200 = .ok (.bipush 16, 2) := by decide +kernel
theorem dX0_valueOf_202 : decode cX0_valueOf 202 = .ok (.if_icmp .lt 21, 3) := by decide +kernel
theorem dX0_valueOf_205 : decode cX0_valueOf 205 = .ok (.iload_n 1, 1) := by decide +kernel
theorem dX0_valueOf_206 : decode cX0_valueOf 206 = .ok (.bipush 32, 2) := by decide +kernel
theorem dX0_valueOf_208 : decode cX0_valueOf 208 = .ok (.if_icmp .ge 15, 3) := by decide +kernel
theorem dX0_valueOf_211 : decode cX0_valueOf 211 = .ok (.aload_n 0, 1) := by decide +kernel
theorem dX0_valueOf_212 : decode cX0_valueOf 212 = .ok (.getfield 18, 3) := by decide +kernel
theorem dX0_valueOf_215 : decode cX0_valueOf 215 = .ok (.iload_n 1, 1) := by decide +kernel
theorem dX0_valueOf_216 : decode cX0_valueOf 216 = .ok (.bipush 16, 2) := by decide +kernel
theorem dX0_valueOf_218 : decode cX0_valueOf 218 = .ok (.isub, 1) := by decide +kernel
theorem dX0_valueOf_219 : decode cX0_valueOf 219 = .ok (.iaload, 1) := by decide +kernel
theorem dX0_valueOf_220 : decode cX0_valueOf 220 = .ok (.goto 5, 3) := by decide +kernel
theorem dX0_valueOf_223 : decode cX0_valueOf 223 = .ok (.bipush (-2), 2) := by decide +kernel
theorem dX0_valueOf_225 : decode cX0_valueOf 225 = .ok (.ireturn, 1) := by decide +kernel
theorem dX1_init_0 : decode cX1_init 0 = .ok (.aload_n 0, 1) := by decide +kernel
theorem dX1_init_1 : decode cX1_init 1 = .ok (.invokespecial 1, 3) := by decide +kernel
theorem dX1_init_4 : decode cX1_init 4 = .ok (.return_, 1) := by decide +kernel
theorem dX1_reset_0 : decode cX1_reset 0 = .ok (.aload_n 0, 1) := by decide +kernel
theorem dX1_reset_1 : decode cX1_reset 1 = .ok (.sipush 254, 3) := by decide +kernel
theorem dX1_reset_4 : decode cX1_reset 4 = .ok (.putfield 9, 3) := by decide +kernel
theorem dX1_reset_7 : decode cX1_reset 7 = .ok (.aload_n 0, 1) := by decide +kernel
theorem dX1_reset_8 : decode cX1_reset 8 = .ok (.iconst 1, 1) := by decide +kernel
theorem dX1_reset_9 : decode cX1_reset 9 = .ok (.putfield 13, 3) := by decide +kernel
theorem dX1_reset_12 : decode cX1_reset 12 = .ok (.aload_n 0, 1) := by decide +kernel
theorem dX1_reset_13 : decode cX1_reset 13 = .ok (.sipush 254, 3) := by decide +kernel
theorem dX1_reset_16 : decode cX1_reset 16 = .ok (.putfield 16, 3) := by decide +kernel
theorem dX1_reset_19 : decode cX1_reset 19 = .ok (.aload_n 0, 1) := by decide +kernel
theorem dX1_reset_20 : decode cX1_reset 20 = .ok (.iconst 0, 1) := by decide +kernel
theorem dX1_reset_21 : decode cX1_reset 21 = .ok (.putfield 19, 3) := by decide +kernel
theorem dX1_reset_24 : decode cX1_reset 24 = .ok (.aload_n 0, 1) := by decide +kernel
theorem dX1_reset_25 : decode cX1_reset 25 = .ok (.bipush 7, 2) := by decide +kernel
theorem dX1_reset_27 : decode cX1_reset 27 = .ok (.putfield 22, 3) := by decide +kernel
theorem dX1_reset_30 : decode cX1_reset 30 = .ok (.aload_n 0, 1) := by decide +kernel
theorem dX1_reset_31 : decode cX1_reset 31 = .ok (.invokevirtual 25, 3) := by decide +kernel
theorem dX1_reset_34 : decode cX1_reset 34 = .ok (.return_, 1) := by decide +kernel
theorem dX1_isFading_0 : decode cX1_isFading 0 = .ok (.aload_n 0, 1) := by decide +kernel
theorem dX1_isFading_1 : decode cX1_isFading 1 = .ok (.getfield 28, 3) := by decide +kernel
theorem dX1_isFading_4 : decode cX1_isFading 4 = .ok (.ifCond .le 7, 3) := by decide +kernel
theorem dX1_isFading_7 : decode cX1_isFading 7 = .ok (.iconst 1, 1) := by decide +kernel
theorem dX1_isFading_8 : decode cX1_isFading 8 = .ok (.goto 4, 3) := by decide +kernel
theorem dX1_isFading_11 : decode cX1_isFading 11 = .ok (.iconst 0, 1) := by decide +kernel
theorem dX1_isFading_12 : decode cX1_isFading 12 = .ok (.ireturn, 1) := by decide +kernel
theorem dX1_endFade_0 : decode cX1_endFade 0 = .ok (.aload_n 0, 1) := by decide +kernel
theorem dX1_endFade_1 : decode cX1_endFade 1 = .ok (.iconst 0, 1) := by decide +kernel
theorem dX1_endFade_2 : decode cX1_endFade 2 = .ok (.putfield 28, 3) := by decide +kernel
theorem dX1_endFade_5 : decode cX1_endFade 5 = .ok (.return_, 1) := by decide +kernel
theorem dX1_setLevel_0 : decode cX1_setLevel 0 = .ok (.aload_n 0, 1) := by decide +kernel
theorem dX1_setLevel_1 : decode cX1_setLevel 1 = .ok (.iload_n 1, 1) := by decide +kernel
theorem dX1_setLevel_2 : decode cX1_setLevel 2 = .ok (.putfield 9, 3) := by decide +kernel
theorem dX1_setLevel_5 : decode cX1_setLevel 5 = .ok (.aload_n 0, 1) := by decide +kernel
theorem dX1_setLevel_6 : decode cX1_setLevel 6 = .ok (.invokevirtual 25, 3) := by decide +kernel
theorem dX1_setLevel_9 : decode cX1_setLevel 9 = .ok (.return_, 1) := by decide +kernel
theorem dX1_clamped_0 : decode cX1_clamped 0 = .ok (.iload_n 1, 1) := by decide +kernel
theorem dX1_clamped_1 : decode cX1_clamped 1 = .ok (.aload_n 0, 1) := by decide +kernel
theorem dX1_clamped_2 : decode cX1_clamped 2 = .ok (.getfield 13, 3) := by decide +kernel
theorem dX1_clamped_5 : decode cX1_clamped 5 = .ok (.if_icmp .ge 8, 3) := by decide +kernel
theorem dX1_clamped_8 : decode cX1_clamped 8 = .ok (.aload_n 0, 1) := by decide +kernel
theorem dX1_clamped_9 : decode cX1_clamped 9 = .ok (.getfield 13, 3) := by decide +kernel
theorem dX1_clamped_12 : decode cX1_clamped 12 = .ok (.ireturn, 1) := by decide +kernel
theorem dX1_clamped_13 : decode cX1_clamped 13 = .ok (.iload_n 1, 1) := by decide +kernel
theorem dX1_clamped_14 : decode cX1_clamped 14 = .ok (.aload_n 0, 1) := by decide +kernel
theorem dX1_clamped_15 : decode cX1_clamped 15 = .ok (.getfield 16, 3) := by decide +kernel
theorem dX1_clamped_18 : decode cX1_clamped 18 = .ok (.if_icmp .le 10, 3) := by decide +kernel
theorem dX1_clamped_21 : decode cX1_clamped 21 = .ok (.aload_n 0, 1) := by decide +kernel
theorem dX1_clamped_22 : decode cX1_clamped 22 = .ok (.getfield 16, 3) := by decide +kernel
theorem dX1_clamped_25 : decode cX1_clamped 25 = .ok (.goto 4, 3) := by decide +kernel
theorem dX1_clamped_28 : decode cX1_clamped 28 = .ok (.iload_n 1, 1) := by decide +kernel
theorem dX1_clamped_29 : decode cX1_clamped 29 = .ok (.ireturn, 1) := by decide +kernel
theorem dX1_offOrClamped_0 : decode cX1_offOrClamped 0 = .ok (.iload_n 1, 1) := by decide +kernel
theorem dX1_offOrClamped_1 : decode cX1_offOrClamped 1 = .ok (.ifCond .ne 7, 3) := by decide +kernel
theorem dX1_offOrClamped_4 : decode cX1_offOrClamped 4 = .ok (.iconst 0, 1) := by decide +kernel
theorem dX1_offOrClamped_5 : decode cX1_offOrClamped 5 = .ok (.goto 8, 3) := by decide +kernel
theorem dX1_offOrClamped_8 : decode cX1_offOrClamped 8 = .ok (.aload_n 0, 1) := by decide +kernel
theorem dX1_offOrClamped_9 : decode cX1_offOrClamped 9 = .ok (.iload_n 1, 1) := by decide +kernel
theorem dX1_offOrClamped_10 : decode cX1_offOrClamped 10 = .ok (.invokevirtual 31, 3) := by decide +kernel
theorem dX1_offOrClamped_13 : decode cX1_offOrClamped 13 = .ok (.ireturn, 1) := by decide +kernel
theorem dX1_goTo_0 : decode cX1_goTo 0 = .ok (.aload_n 0, 1) := by decide +kernel
theorem dX1_goTo_1 : decode cX1_goTo 1 = .ok (.iload_n 1, 1) := by decide +kernel
theorem dX1_goTo_2 : decode cX1_goTo 2 = .ok (.invokevirtual 35, 3) := by decide +kernel
theorem dX1_goTo_5 : decode cX1_goTo 5 = .ok (.istore_n 2, 1) := by decide +kernel
theorem dX1_goTo_6 : decode cX1_goTo 6 = .ok (.aload_n 0, 1) := by decide +kernel
theorem dX1_goTo_7 : decode cX1_goTo 7 = .ok (.getfield 19, 3) := by decide +kernel
theorem dX1_goTo_10 : decode cX1_goTo 10 = .ok (.ifCond .eq 25, 3) := by decide +kernel
theorem dX1_goTo_13 : decode cX1_goTo 13 = .ok (.aload_n 0, 1) := by decide +kernel
theorem dX1_goTo_14 : decode cX1_goTo 14 = .ok (.getfield 9, 3) := by decide +kernel
theorem dX1_goTo_17 : decode cX1_goTo 17 = .ok (.ifCond .eq 18, 3) := by decide +kernel
theorem dX1_goTo_20 : decode cX1_goTo 20 = .ok (.iload_n 2, 1) := by decide +kernel
theorem dX1_goTo_21 : decode cX1_goTo 21 = .ok (.ifCond .ne 20, 3) := by decide +kernel
theorem dX1_goTo_24 : decode cX1_goTo 24 = .ok (.aload_n 0, 1) := by decide +kernel
theorem dX1_goTo_25 : decode cX1_goTo 25 = .ok (.getfield 9, 3) := by decide +kernel
theorem dX1_goTo_28 : decode cX1_goTo 28 = .ok (.aload_n 0, 1) := by decide +kernel
theorem dX1_goTo_29 : decode cX1_goTo 29 = .ok (.getfield 13, 3) := by decide +kernel
theorem dX1_goTo_32 : decode cX1_goTo 32 = .ok (.if_icmp .ne 9, 3) := by decide +kernel
theorem dX1_goTo_35 : decode cX1_goTo 35 = .ok (.aload_n 0, 1) := by decide +kernel
theorem dX1_goTo_36 : decode cX1_goTo 36 = .ok (.iload_n 2, 1) := by decide +kernel
theorem dX1_goTo_37 : decode cX1_goTo 37 = .ok (.invokevirtual 38, 3) := by decide +kernel
theorem dX1_goTo_40 : decode cX1_goTo 40 = .ok (.return_, 1) := by decide +kernel
theorem dX1_goTo_41 : decode cX1_goTo 41 = .ok (.aload_n 0, 1) := by decide +kernel
theorem dX1_goTo_42 : decode cX1_goTo 42 = .ok (.aload_n 0, 1) := by decide +kernel
theorem dX1_goTo_43 : decode cX1_goTo 43 = .ok (.getfield 9, 3) := by decide +kernel
theorem dX1_goTo_46 : decode cX1_goTo 46 = .ok (.putfield 42, 3) := by decide +kernel
theorem dX1_goTo_49 : decode cX1_goTo 49 = .ok (.aload_n 0, 1) := by decide +kernel
theorem dX1_goTo_50 : decode cX1_goTo 50 = .ok (.iload_n 2, 1) := by decide +kernel
theorem dX1_goTo_51 : decode cX1_goTo 51 = .ok (.putfield 45, 3) := by decide +kernel
theorem dX1_goTo_54 : decode cX1_goTo 54 = .ok (.aload_n 0, 1) := by decide +kernel
theorem dX1_goTo_55 : decode cX1_goTo 55 = .ok (.iconst 0, 1) := by decide +kernel
theorem dX1_goTo_56 : decode cX1_goTo 56 = .ok (.putfield 48, 3) := by decide +kernel
theorem dX1_goTo_59 : decode cX1_goTo 59 = .ok (.aload_n 0, 1) := by decide +kernel
theorem dX1_goTo_60 : decode cX1_goTo 60 = .ok (.getstatic 51, 3) := by decide +kernel
theorem dX1_goTo_63 : decode cX1_goTo 63 = .ok (.aload_n 0, 1) := by decide +kernel
theorem dX1_goTo_64 : decode cX1_goTo 64 = .ok (.getfield 19, 3) := by decide +kernel
theorem dX1_goTo_67 : decode cX1_goTo 67 = .ok (.bipush 15, 2) := by decide +kernel
theorem dX1_goTo_69 : decode cX1_goTo 69 = .ok (.iand, 1) := by decide +kernel
theorem dX1_goTo_70 : decode cX1_goTo 70 = .ok (.iaload, 1) := by decide +kernel
theorem dX1_goTo_71 : decode cX1_goTo 71 = .ok (.putfield 28, 3) := by decide +kernel
theorem dX1_goTo_74 : decode cX1_goTo 74 = .ok (.return_, 1) := by decide +kernel
theorem dX1_passTicks_0 : decode cX1_passTicks 0 = .ok (.aload_n 0, 1) := by decide +kernel
theorem dX1_passTicks_1 : decode cX1_passTicks 1 = .ok (.getfield 28, 3) := by decide +kernel
theorem dX1_passTicks_4 : decode cX1_passTicks 4 = .ok (.ifCond .gt 4, 3) := by decide +kernel
theorem dX1_passTicks_7 : decode cX1_passTicks 7 = .ok (.return_, 1) := by decide +kernel
theorem dX1_passTicks_8 : decode cX1_passTicks 8 = .ok (.aload_n 0, 1) := by decide +kernel
theorem dX1_passTicks_9 : decode cX1_passTicks 9 = .ok (.dup, 1) := by decide +kernel
theorem dX1_passTicks_10 : decode cX1_passTicks 10 = .ok (.getfield 48, 3) := by decide +kernel
theorem dX1_passTicks_13 : decode cX1_passTicks 13 = .ok (.iload_n 1, 1) := by decide +kernel
theorem dX1_passTicks_14 : decode cX1_passTicks 14 = .ok (.iadd, 1) := by decide +kernel
theorem dX1_passTicks_15 : decode cX1_passTicks 15 = .ok (.putfield 48, 3) := by decide +kernel
theorem dX1_passTicks_18 : decode cX1_passTicks 18 = .ok (.aload_n 0, 1) := by decide +kernel
theorem dX1_passTicks_19 : decode cX1_passTicks 19 = .ok (.getfield 48, 3) := by decide +kernel
theorem dX1_passTicks_22 : decode cX1_passTicks 22 = .ok (.aload_n 0, 1) := by decide +kernel
theorem dX1_passTicks_23 : decode cX1_passTicks 23 = .ok (.getfield 28, 3) := by decide +kernel
theorem dX1_passTicks_26 : decode cX1_passTicks 26 = .ok (.if_icmp .lt 12, 3) := by decide +kernel
theorem dX1_passTicks_29 : decode cX1_passTicks 29 = .ok (.aload_n 0, 1) := by decide +kernel
theorem dX1_passTicks_30 : decode cX1_passTicks 30 = .ok (.aload_n 0, 1) := by decide +kernel
theorem dX1_passTicks_31 : decode cX1_passTicks 31 = .ok (.getfield 45, 3) := by decide +kernel
theorem dX1_passTicks_34 : decode cX1_passTicks 34 = .ok (.invokevirtual 38, 3) := by decide +kernel
theorem dX1_passTicks_37 : decode cX1_passTicks 37 = .ok (.return_, 1) := by decide +kernel
theorem dX1_passTicks_38 : decode cX1_passTicks 38 = .ok (.aload_n 0, 1) := by decide +kernel
theorem dX1_passTicks_39 : decode cX1_passTicks 39 = .ok (.getfield 42, 3) := by decide +kernel
theorem dX1_passTicks_42 : decode cX1_passTicks 42 = .ok (.aload_n 0, 1) := by decide +kernel
theorem dX1_passTicks_43 : decode cX1_passTicks 43 = .ok (.getfield 45, 3) := by decide +kernel
theorem dX1_passTicks_46 : decode cX1_passTicks 46 = .ok (.aload_n 0, 1) := by decide +kernel
theorem dX1_passTicks_47 : decode cX1_passTicks 47 = .ok (.getfield 42, 3) := by decide +kernel
theorem dX1_passTicks_50 : decode cX1_passTicks 50 = .ok (.isub, 1) := by decide +kernel
theorem dX1_passTicks_51 : decode cX1_passTicks 51 = .ok (.aload_n 0, 1) := by decide +kernel
theorem dX1_passTicks_52 : decode cX1_passTicks 52 = .ok (.getfield 48, 3) := by decide +kernel
theorem dX1_passTicks_55 : decode cX1_passTicks 55 = .ok (.imul, 1) := by decide +kernel
theorem dX1_passTicks_56 : decode cX1_passTicks 56 = .ok (.aload_n 0, 1) := by decide +kernel
theorem dX1_passTicks_57 : decode cX1_passTicks 57 = .ok (.getfield 28, 3) := by decide +kernel
theorem dX1_passTicks_60 : decode cX1_passTicks 60 = .ok (.idiv, 1) := by decide +kernel
theorem dX1_passTicks_61 : decode cX1_passTicks 61 = .ok (.iadd, 1) := by decide +kernel
theorem dX1_passTicks_62 : decode cX1_passTicks 62 = .ok (.istore_n 2, 1) := by decide +kernel
theorem dX1_passTicks_63 : decode cX1_passTicks 63 = .ok (.aload_n 0, 1) := by decide +kernel
theorem dX1_passTicks_64 : decode cX1_passTicks 64 = .ok (.iload_n 2, 1) := by decide +kernel
theorem dX1_passTicks_65 : decode cX1_passTicks 65 = .ok (.aload_n 0, 1) := by decide +kernel
theorem dX1_passTicks_66 : decode cX1_passTicks 66 = .ok (.getfield 13, 3) := by decide +kernel
theorem dX1_passTicks_69 : decode cX1_passTicks 69 = .ok (.invokestatic 55, 3) := by decide +kernel
theorem dX1_passTicks_72 : decode cX1_passTicks 72 = .ok (.putfield 9, 3) := by decide +kernel
theorem dX1_passTicks_75 : decode cX1_passTicks 75 = .ok (.return_, 1) := by decide +kernel
theorem dX1_moveBy_0 : decode cX1_moveBy 0 = .ok (.aload_n 0, 1) := by decide +kernel
theorem dX1_moveBy_1 : decode cX1_moveBy 1 = .ok (.getfield 9, 3) := by decide +kernel
theorem dX1_moveBy_4 : decode cX1_moveBy 4 = .ok (.ifCond .le 17, 3) := by decide +kernel
theorem dX1_moveBy_7 : decode cX1_moveBy 7 = .ok (.aload_n 0, 1) := by decide +kernel
theorem dX1_moveBy_8 : decode cX1_moveBy 8 = .ok (.aload_n 0, 1) := by decide +kernel
theorem dX1_moveBy_9 : decode cX1_moveBy 9 = .ok (.aload_n 0, 1) := by decide +kernel
theorem dX1_moveBy_10 : decode cX1_moveBy 10 = .ok (.getfield 9, 3) := by decide +kernel
theorem dX1_moveBy_13 : decode cX1_moveBy 13 = .ok (.iload_n 1, 1) := by decide +kernel
theorem dX1_moveBy_14 : decode cX1_moveBy 14 = .ok (.iadd, 1) := by decide +kernel
theorem dX1_moveBy_15 : decode cX1_moveBy 15 = .ok (.invokevirtual 31, 3) := by decide +kernel
theorem dX1_moveBy_18 : decode cX1_moveBy 18 = .ok (.invokevirtual 38, 3) := by decide +kernel
theorem dX1_moveBy_21 : decode cX1_moveBy 21 = .ok (.return_, 1) := by decide +kernel
theorem dX1_rateStep_0 : decode cX1_rateStep 0 = .ok (.getstatic 61, 3) := by decide +kernel
theorem dX1_rateStep_3 : decode cX1_rateStep 3 = .ok (.aload_n 0, 1) := by decide +kernel
theorem dX1_rateStep_4 : decode cX1_rateStep 4 = .ok (.getfield 22, 3) := by decide +kernel
theorem dX1_rateStep_7 : decode cX1_rateStep 7 = .ok (.bipush 15, 2) := by decide +kernel
theorem dX1_rateStep_9 : decode cX1_rateStep 9 = .ok (.iand, 1) := by decide +kernel
theorem dX1_rateStep_10 : decode cX1_rateStep 10 = .ok (.iaload, 1) := by decide +kernel
theorem dX1_rateStep_11 : decode cX1_rateStep 11 = .ok (.ireturn, 1) := by decide +kernel
theorem dX1_stepDownOrOff_0 : decode cX1_stepDownOrOff 0 = .ok (.aload_n 0, 1) := by decide +kernel
theorem dX1_stepDownOrOff_1 : decode cX1_stepDownOrOff 1 = .ok (.aload_n 0, 1) := by decide +kernel
theorem dX1_stepDownOrOff_2 : decode cX1_stepDownOrOff 2 = .ok (.getfield 9, 3) := by decide +kernel
theorem dX1_stepDownOrOff_5 : decode cX1_stepDownOrOff 5 = .ok (.aload_n 0, 1) := by decide +kernel
theorem dX1_stepDownOrOff_6 : decode cX1_stepDownOrOff 6 = .ok (.getfield 13, 3) := by decide +kernel
theorem dX1_stepDownOrOff_9 : decode cX1_stepDownOrOff 9 = .ok (.if_icmp .gt 7, 3) := by decide +kernel
theorem dX1_stepDownOrOff_12 : decode cX1_stepDownOrOff 12 = .ok (.iconst 0, 1) := by decide +kernel
theorem dX1_stepDownOrOff_13 : decode cX1_stepDownOrOff 13 = .ok (.goto 13, 3) := by decide +kernel
theorem dX1_stepDownOrOff_16 : decode cX1_stepDownOrOff 16 = .ok (.aload_n 0, 1) := by decide +kernel
theorem dX1_stepDownOrOff_17 : decode cX1_stepDownOrOff 17 = .ok (.aload_n 0, 1) := by decide +kernel
theorem dX1_stepDownOrOff_18 : decode cX1_stepDownOrOff 18 = .ok (.getfield 9, 3) := by decide +kernel
theorem dX1_stepDownOrOff_21 : decode cX1_stepDownOrOff 21 = .ok (.iconst 1, 1) := by decide +kernel
theorem dX1_stepDownOrOff_22 : decode cX1_stepDownOrOff 22 = .ok (.isub, 1) := by decide +kernel
theorem dX1_stepDownOrOff_23 : decode cX1_stepDownOrOff 23 = .ok (.invokevirtual 31, 3) := by decide +kernel
theorem dX1_stepDownOrOff_26 : decode cX1_stepDownOrOff 26 = .ok (.invokevirtual 38, 3) := by decide +kernel
theorem dX1_stepDownOrOff_29 : decode cX1_stepDownOrOff 29 = .ok (.return_, 1) := by decide +kernel
theorem dX1_onOrStepUp_0 : decode cX1_onOrStepUp 0 = .ok (.aload_n 0, 1) := by decide +kernel
theorem dX1_onOrStepUp_1 : decode cX1_onOrStepUp 1 = .ok (.aload_n 0, 1) := by decide +kernel
theorem dX1_onOrStepUp_2 : decode cX1_onOrStepUp 2 = .ok (.getfield 9, 3) := by decide +kernel
theorem dX1_onOrStepUp_5 : decode cX1_onOrStepUp 5 = .ok (.ifCond .ne 10, 3) := by decide +kernel
theorem dX1_onOrStepUp_8 : decode cX1_onOrStepUp 8 = .ok (.aload_n 0, 1) := by decide +kernel
theorem dX1_onOrStepUp_9 : decode cX1_onOrStepUp 9 = .ok (.getfield 13, 3) := by decide +kernel
theorem dX1_onOrStepUp_12 : decode cX1_onOrStepUp 12 = .ok (.goto 13, 3) := by decide +kernel
theorem dX1_onOrStepUp_15 : decode cX1_onOrStepUp 15 = .ok (.aload_n 0, 1) := by decide +kernel
theorem dX1_onOrStepUp_16 : decode cX1_onOrStepUp 16 = .ok (.aload_n 0, 1) := by decide +kernel
theorem dX1_onOrStepUp_17 : decode cX1_onOrStepUp 17 = .ok (.getfield 9, 3) := by decide +kernel
theorem dX1_onOrStepUp_20 : decode cX1_onOrStepUp 20 = .ok (.iconst 1, 1) := by decide +kernel
theorem dX1_onOrStepUp_21 : decode cX1_onOrStepUp 21 = .ok (.iadd, 1) := by decide +kernel
theorem dX1_onOrStepUp_22 : decode cX1_onOrStepUp 22 = .ok (.invokevirtual 31, 3) := by decide +kernel
theorem dX1_onOrStepUp_25 : decode cX1_onOrStepUp 25 = .ok (.invokevirtual 38, 3) := by decide +kernel
theorem dX1_onOrStepUp_28 : decode cX1_onOrStepUp 28 = .ok (.return_, 1) := by decide +kernel
theorem dX1_setMost_0 : decode cX1_setMost 0 = .ok (.aload_n 0, 1) := by decide +kernel
theorem dX1_setMost_1 : decode cX1_setMost 1 = .ok (.aload_n 0, 1) := by decide +kernel
theorem dX1_setMost_2 : decode cX1_setMost 2 = .ok (.getfield 13, 3) := by decide +kernel
theorem dX1_setMost_5 : decode cX1_setMost 5 = .ok (.iload_n 1, 1) := by decide +kernel
theorem dX1_setMost_6 : decode cX1_setMost 6 = .ok (.sipush 254, 3) := by decide +kernel
theorem dX1_setMost_9 : decode cX1_setMost 9 = .ok (.invokestatic 64, 3) := by decide +kernel
theorem dX1_setMost_12 : decode cX1_setMost 12 = .ok (.invokestatic 55, 3) := by decide +kernel
theorem dX1_setMost_15 : decode cX1_setMost 15 = .ok (.putfield 16, 3) := by decide +kernel
theorem dX1_setMost_18 : decode cX1_setMost 18 = .ok (.aload_n 0, 1) := by decide +kernel
theorem dX1_setMost_19 : decode cX1_setMost 19 = .ok (.aload_n 0, 1) := by decide +kernel
theorem dX1_setMost_20 : decode cX1_setMost 20 = .ok (.aload_n 0, 1) := by decide +kernel
theorem dX1_setMost_21 : decode cX1_setMost 21 = .ok (.getfield 9, 3) := by decide +kernel
theorem dX1_setMost_24 : decode cX1_setMost 24 = .ok (.invokevirtual 35, 3) := by decide +kernel
theorem dX1_setMost_27 : decode cX1_setMost 27 = .ok (.invokevirtual 38, 3) := by decide +kernel
theorem dX1_setMost_30 : decode cX1_setMost 30 = .ok (.return_, 1) := by decide +kernel
theorem dX1_setLeast_0 : decode cX1_setLeast 0 = .ok (.aload_n 0, 1) := by decide +kernel
theorem dX1_setLeast_1 : decode cX1_setLeast 1 = .ok (.iconst 1, 1) := by decide +kernel
theorem dX1_setLeast_2 : decode cX1_setLeast 2 = .ok (.iload_n 1, 1) := by decide +kernel
theorem dX1_setLeast_3 : decode cX1_setLeast 3 = .ok (.aload_n 0, 1) := by decide +kernel
theorem dX1_setLeast_4 : decode cX1_setLeast 4 = .ok (.getfield 16, 3) := by decide +kernel
theorem dX1_setLeast_7 : decode cX1_setLeast 7 = .ok (.invokestatic 64, 3) := by decide +kernel
theorem dX1_setLeast_10 : decode cX1_setLeast 10 = .ok (.invokestatic 55, 3) := by decide +kernel
theorem dX1_setLeast_13 : decode cX1_setLeast 13 = .ok (.putfield 13, 3) := by decide +kernel
theorem dX1_setLeast_16 : decode cX1_setLeast 16 = .ok (.aload_n 0, 1) := by decide +kernel
theorem dX1_setLeast_17 : decode cX1_setLeast 17 = .ok (.aload_n 0, 1) := by decide +kernel
theorem dX1_setLeast_18 : decode cX1_setLeast 18 = .ok (.aload_n 0, 1) := by decide +kernel
theorem dX1_setLeast_19 : decode cX1_setLeast 19 = .ok (.getfield 9, 3) := by decide +kernel
theorem dX1_setLeast_22 : decode cX1_setLeast 22 = .ok (.invokevirtual 35, 3) := by decide +kernel
theorem dX1_setLeast_25 : decode cX1_setLeast 25 = .ok (.invokevirtual 38, 3) := by decide +kernel
theorem dX1_setLeast_28 : decode cX1_setLeast 28 = .ok (.return_, 1) := by decide +kernel
theorem dX1_setFade_0 : decode cX1_setFade 0 = .ok (.aload_n 0, 1) := by decide +kernel
theorem dX1_setFade_1 : decode cX1_setFade 1 = .ok (.iload_n 1, 1) := by decide +kernel
theorem dX1_setFade_2 : decode cX1_setFade 2 = .ok (.bipush 15, 2) := by decide +kernel
theorem dX1_setFade_4 : decode cX1_setFade 4 = .ok (.invokestatic 64, 3) := by decide +kernel
theorem dX1_setFade_7 : decode cX1_setFade 7 = .ok (.putfield 19, 3) := by decide +kernel
theorem dX1_setFade_10 : decode cX1_setFade 10 = .ok (.return_, 1) := by decide +kernel
theorem dX1_setRate_0 : decode cX1_setRate 0 = .ok (.aload_n 0, 1) := by decide +kernel
theorem dX1_setRate_1 : decode cX1_setRate 1 = .ok (.iconst 1, 1) := by decide +kernel
theorem dX1_setRate_2 : decode cX1_setRate 2 = .ok (.iload_n 1, 1) := by decide +kernel
theorem dX1_setRate_3 : decode cX1_setRate 3 = .ok (.bipush 15, 2) := by decide +kernel
theorem dX1_setRate_5 : decode cX1_setRate 5 = .ok (.invokestatic 64, 3) := by decide +kernel
theorem dX1_setRate_8 : decode cX1_setRate 8 = .ok (.invokestatic 55, 3) := by decide +kernel
theorem dX1_setRate_11 : decode cX1_setRate 11 = .ok (.putfield 22, 3) := by decide +kernel
theorem dX1_setRate_14 : decode cX1_setRate 14 = .ok (.return_, 1) := by decide +kernel
theorem dX2_init_0 : decode cX2_init 0 = .ok (.aload_n 0, 1) := by decide +kernel
theorem dX2_init_1 : decode cX2_init 1 = .ok (.invokespecial 1, 3) := by decide +kernel
theorem dX2_init_4 : decode cX2_init 4 = .ok (.aload_n 0, 1) := by decide +kernel
theorem dX2_init_5 : decode cX2_init 5 = .ok (.new 7, 3) := by decide +kernel
theorem dX2_init_8 : decode cX2_init 8 = .ok (.dup, 1) := by decide +kernel
theorem dX2_init_9 : decode cX2_init 9 = .ok (.invokespecial 9, 3) := by decide +kernel
theorem dX2_init_12 : decode cX2_init 12 = .ok (.putfield 10, 3) := by decide +kernel
theorem dX2_init_15 : decode cX2_init 15 = .ok (.return_, 1) := by decide +kernel
theorem dX2_gear_0 : decode cX2_gear 0 = .ok (.aload_n 0, 1) := by decide +kernel
theorem dX2_gear_1 : decode cX2_gear 1 = .ok (.getfield 10, 3) := by decide +kernel
theorem dX2_gear_4 : decode cX2_gear 4 = .ok (.invokevirtual 16, 3) := by decide +kernel
theorem dX2_gear_7 : decode cX2_gear 7 = .ok (.bipush 16, 2) := by decide +kernel
theorem dX2_gear_9 : decode cX2_gear 9 = .ok (.if_icmp .lt 6, 3) := by decide +kernel
theorem dX2_gear_12 : decode cX2_gear 12 = .ok (.bipush (-2), 2) := by decide +kernel
theorem dX2_gear_14 : decode cX2_gear 14 = .ok (.ireturn, 1) := by decide +kernel
theorem dX2_gear_15 : decode cX2_gear 15 = .ok (.aload_n 0, 1) := by decide +kernel
theorem dX2_gear_16 : decode cX2_gear 16 = .ok (.getfield 10, 3) := by decide +kernel
theorem dX2_gear_19 : decode cX2_gear 19 = .ok (.new 20, 3) := by decide +kernel
theorem dX2_gear_22 : decode cX2_gear 22 = .ok (.dup, 1) := by decide +kernel
theorem dX2_gear_23 : decode cX2_gear 23 = .ok (.invokespecial 22, 3) := by decide +kernel
theorem dX2_gear_26 : decode cX2_gear 26 = .ok (.invokevirtual 23, 3) := by decide +kernel
theorem dX2_gear_29 : decode cX2_gear 29 = .ok (.pop, 1) := by decide +kernel
theorem dX2_gear_30 : decode cX2_gear 30 = .ok (.aload_n 0, 1) := by decide +kernel
theorem dX2_gear_31 : decode cX2_gear 31 = .ok (.getfield 10, 3) := by decide +kernel
theorem dX2_gear_34 : decode cX2_gear 34 = .ok (.invokevirtual 16, 3) := by decide +kernel
theorem dX2_gear_37 : decode cX2_gear 37 = .ok (.iconst 1, 1) := by decide +kernel
theorem dX2_gear_38 : decode cX2_gear 38 = .ok (.isub, 1) := by decide +kernel
theorem dX2_gear_39 : decode cX2_gear 39 = .ok (.ireturn, 1) := by decide +kernel
theorem dX2_give_0 : decode cX2_give 0 = .ok (.aload_n 0, 1) := by decide +kernel
theorem dX2_give_1 : decode cX2_give 1 = .ok (.iload_n 1, 1) := by decide +kernel
theorem dX2_give_2 : decode cX2_give 2 = .ok (.invokevirtual 27, 3) := by decide +kernel
theorem dX2_give_5 : decode cX2_give 5 = .ok (.ifCond .eq 13, 3) := by decide +kernel
theorem dX2_give_8 : decode cX2_give 8 = .ok (.iload_n 2, 1) := by decide +kernel
theorem dX2_give_9 : decode cX2_give 9 = .ok (.ifCond .lt 9, 3) := by decide +kernel
theorem dX2_give_12 : decode cX2_give 12 = .ok (.iload_n 2, 1) := by decide +kernel
theorem dX2_give_13 : decode cX2_give 13 = .ok (.ldc 31, 2) := by decide +kernel
theorem dX2_give_15 : decode cX2_give 15 = .ok (.if_icmp .le 5, 3) := by decide +kernel
theorem dX2_give_18 : decode cX2_give 18 = .ok (.iconst 0, 1) := by decide +kernel
theorem dX2_give_19 : decode cX2_give 19 = .ok (.ireturn, 1) := by decide +kernel
theorem dX2_give_20 : decode cX2_give 20 = .ok (.aload_n 0, 1) := by decide +kernel
theorem dX2_give_21 : decode cX2_give 21 = .ok (.getfield 10, 3) := by decide +kernel
theorem dX2_give_24 : decode cX2_give 24 = .ok (.iload_n 1, 1) := by decide +kernel
theorem dX2_give_25 : decode cX2_give 25 = .ok (.invokevirtual 32, 3) := by decide +kernel
theorem dX2_give_28 : decode cX2_give 28 = .ok (.checkcast 20, 3) := by decide +kernel
theorem dX2_give_31 : decode cX2_give 31 = .ok (.iload_n 2, 1) := by decide +kernel
theorem dX2_give_32 : decode cX2_give 32 = .ok (.putfield 36, 3) := by decide +kernel
theorem dX2_give_35 : decode cX2_give 35 = .ok (.iconst 1, 1) := by decide +kernel
theorem dX2_give_36 : decode cX2_give 36 = .ok (.ireturn, 1) := by decide +kernel
theorem dX2_send_0 : decode cX2_send 0 = .ok (.iload_n 1, 1) := by decide +kernel
theorem dX2_send_1 : decode cX2_send 1 = .ok (.invokestatic 40, 3) := by decide +kernel
theorem dX2_send_4 : decode cX2_send 4 = .ok (.ifCond .eq 10, 3) := by decide +kernel
theorem dX2_send_7 : decode cX2_send 7 = .ok (.iload_n 2, 1) := by decide +kernel
theorem dX2_send_8 : decode cX2_send 8 = .ok (.invokestatic 40, 3) := by decide +kernel
theorem dX2_send_11 : decode cX2_send 11 = .ok (.ifCond .ne 6, 3) := by decide +kernel
theorem dX2_send_14 : decode cX2_send 14 = .ok (.bipush (-2), 2) := by decide +kernel
theorem dX2_send_16 : decode cX2_send 16 = .ok (.ireturn, 1) := by decide +kernel
theorem dX2_send_17 : decode cX2_send 17 = .ok (.iload_n 1, 1) := by decide +kernel
theorem dX2_send_18 : decode cX2_send 18 = .ok (.sipush 160, 3) := by decide +kernel
theorem dX2_send_21 : decode cX2_send 21 = .ok (.if_icmp .lt 14, 3) := by decide +kernel
theorem dX2_send_24 : decode cX2_send 24 = .ok (.iload_n 1, 1) := by decide +kernel
theorem dX2_send_25 : decode cX2_send 25 = .ok (.sipush 254, 3) := by decide +kernel
theorem dX2_send_28 : decode cX2_send 28 = .ok (.if_icmp .ge 7, 3) := by decide +kernel
theorem dX2_send_31 : decode cX2_send 31 = .ok (.iconst 1, 1) := by decide +kernel
theorem dX2_send_32 : decode cX2_send 32 = .ok (.goto 4, 3) := by decide +kernel
theorem dX2_send_35 : decode cX2_send 35 = .ok (.iconst 0, 1) := by decide +kernel
theorem dX2_send_36 : decode cX2_send 36 = .ok (.istore_n 3, 1) := by decide +kernel
theorem dX2_send_37 : decode cX2_send 37 = .ok (.iload_n 3, 1) := by decide +kernel
theorem dX2_send_38 : decode cX2_send 38 = .ok (.ifCond .eq 12, 3) := by decide +kernel
theorem dX2_send_41 : decode cX2_send 41 = .ok (.aload_n 0, 1) := by decide +kernel
theorem dX2_send_42 : decode cX2_send 42 = .ok (.iload_n 1, 1) := by decide +kernel
theorem dX2_send_43 : decode cX2_send 43 = .ok (.iload_n 2, 1) := by decide +kernel
theorem dX2_send_44 : decode cX2_send 44 = .ok (.invokevirtual 43, 3) := by decide +kernel
theorem dX2_send_47 : decode cX2_send 47 = .ok (.goto 9, 3) := by decide +kernel
theorem dX2_send_50 : decode cX2_send 50 = .ok (.aload_n 0, 1) := by decide +kernel
theorem dX2_send_51 : decode cX2_send 51 = .ok (.iload_n 1, 1) := by decide +kernel
theorem dX2_send_52 : decode cX2_send 52 = .ok (.iload_n 2, 1) := by decide +kernel
theorem dX2_send_53 : decode cX2_send 53 = .ok (.invokevirtual 47, 3) := by decide +kernel
theorem dX2_send_56 : decode cX2_send 56 = .ok (.ireturn, 1) := by decide +kernel
theorem dX2_tick_0 : decode cX2_tick 0 = .ok (.iload_n 1, 1) := by decide +kernel
theorem dX2_tick_1 : decode cX2_tick 1 = .ok (.iconst 1, 1) := by decide +kernel
theorem dX2_tick_2 : decode cX2_tick 2 = .ok (.if_icmp .lt 10, 3) := by decide +kernel
theorem dX2_tick_5 : decode cX2_tick 5 = .ok (.iload_n 1, 1) := by decide +kernel
theorem dX2_tick_6 : decode cX2_tick 6 = .ok (.sipush 2000, 3) := by decide +kernel
theorem dX2_tick_9 : decode cX2_tick 9 = .ok (.if_icmp .le 6, 3) := by decide +kernel
theorem dX2_tick_12 : decode cX2_tick 12 = .ok (.bipush (-2), 2) := by decide +kernel
theorem dX2_tick_14 : decode cX2_tick 14 = .ok (.ireturn, 1) := by decide +kernel
theorem dX2_tick_15 : decode cX2_tick 15 = .ok (.aload_n 0, 1) := by decide +kernel
theorem dX2_tick_16 : decode cX2_tick 16 = .ok (.iconst 0, 1) := by decide +kernel
theorem dX2_tick_17 : decode cX2_tick 17 = .ok (.putfield 50, 3) := by decide +kernel
theorem dX2_tick_20 : decode cX2_tick 20 = .ok (.iconst 0, 1) := by decide +kernel
theorem dX2_tick_21 : decode cX2_tick 21 = .ok (.istore_n 2, 1) := by decide +kernel
theorem dX2_tick_22 : decode cX2_tick 22 = .ok (.iconst 0, 1) := by decide +kernel
theorem dX2_tick_23 : decode cX2_tick 23 = .ok (.istore_n 3, 1) := by decide +kernel
theorem dX2_tick_24 : decode cX2_tick 24 = .ok (.iload_n 3, 1) := by decide +kernel
theorem dX2_tick_25 : decode cX2_tick 25 = .ok (.aload_n 0, 1) := by decide +kernel
theorem dX2_tick_26 : decode cX2_tick 26 = .ok (.getfield 10, 3) := by decide +kernel
theorem dX2_tick_29 : decode cX2_tick 29 = .ok (.invokevirtual 16, 3) := by decide +kernel
theorem dX2_tick_32 : decode cX2_tick 32 = .ok (.if_icmp .ge 42, 3) := by decide +kernel
theorem dX2_tick_35 : decode cX2_tick 35 = .ok (.aload_n 0, 1) := by decide +kernel
theorem dX2_tick_36 : decode cX2_tick 36 = .ok (.getfield 10, 3) := by decide +kernel
theorem dX2_tick_39 : decode cX2_tick 39 = .ok (.iload_n 3, 1) := by decide +kernel
theorem dX2_tick_40 : decode cX2_tick 40 = .ok (.invokevirtual 32, 3) := by decide +kernel
theorem dX2_tick_43 : decode cX2_tick 43 = .ok (.checkcast 20, 3) := by decide +kernel
theorem dX2_tick_46 : decode cX2_tick 46 = .ok (.getfield 54, 3) := by decide +kernel
theorem dX2_tick_49 : decode cX2_tick 49 = .ok (.astore 4, 2) := by decide +kernel
theorem dX2_tick_51 : decode cX2_tick 51 = .ok (.aload 4, 2) := by decide +kernel
theorem dX2_tick_53 : decode cX2_tick 53 = .ok (.iload_n 1, 1) := by decide +kernel
theorem dX2_tick_54 : decode cX2_tick 54 = .ok (.invokevirtual 58, 3) := by decide +kernel
theorem dX2_tick_57 : decode cX2_tick 57 = .ok (.aload 4, 2) := by decide +kernel
theorem dX2_tick_59 : decode cX2_tick 59 = .ok (.invokevirtual 64, 3) := by decide +kernel
theorem dX2_tick_62 : decode cX2_tick 62 = .ok (.ifCond .eq 6, 3) := by decide +kernel
theorem dX2_tick_65 : decode cX2_tick 65 = .ok (.iinc 2 1, 3) := by decide +kernel
theorem dX2_tick_68 : decode cX2_tick 68 = .ok (.iinc 3 1, 3) := by decide +kernel
theorem dX2_tick_71 : decode cX2_tick 71 = .ok (.goto (-47), 3) := by decide +kernel
theorem dX2_tick_74 : decode cX2_tick 74 = .ok (.iload_n 2, 1) := by decide +kernel
theorem dX2_tick_75 : decode cX2_tick 75 = .ok (.ireturn, 1) := by decide +kernel
theorem dX2_power_0 : decode cX2_power 0 = .ok (.iconst 0, 1) := by decide +kernel
theorem dX2_power_1 : decode cX2_power 1 = .ok (.istore_n 1, 1) := by decide +kernel
theorem dX2_power_2 : decode cX2_power 2 = .ok (.iload_n 1, 1) := by decide +kernel
theorem dX2_power_3 : decode cX2_power 3 = .ok (.aload_n 0, 1) := by decide +kernel
theorem dX2_power_4 : decode cX2_power 4 = .ok (.getfield 10, 3) := by decide +kernel
theorem dX2_power_7 : decode cX2_power 7 = .ok (.invokevirtual 16, 3) := by decide +kernel
theorem dX2_power_10 : decode cX2_power 10 = .ok (.if_icmp .ge 23, 3) := by decide +kernel
theorem dX2_power_13 : decode cX2_power 13 = .ok (.aload_n 0, 1) := by decide +kernel
theorem dX2_power_14 : decode cX2_power 14 = .ok (.getfield 10, 3) := by decide +kernel
theorem dX2_power_17 : decode cX2_power 17 = .ok (.iload_n 1, 1) := by decide +kernel
theorem dX2_power_18 : decode cX2_power 18 = .ok (.invokevirtual 32, 3) := by decide +kernel
theorem dX2_power_21 : decode cX2_power 21 = .ok (.checkcast 20, 3) := by decide +kernel
theorem dX2_power_24 : decode cX2_power 24 = .ok (.invokevirtual 68, 3) := by decide +kernel
theorem dX2_power_27 : decode cX2_power 27 = .ok (.iinc 1 1, 3) := by decide +kernel
theorem dX2_power_30 : decode cX2_power 30 = .ok (.goto (-28), 3) := by decide +kernel
theorem dX2_power_33 : decode cX2_power 33 = .ok (.return_, 1) := by decide +kernel
theorem dX2_fail_0 : decode cX2_fail 0 = .ok (.iconst 0, 1) := by decide +kernel
theorem dX2_fail_1 : decode cX2_fail 1 = .ok (.istore_n 1, 1) := by decide +kernel
theorem dX2_fail_2 : decode cX2_fail 2 = .ok (.iload_n 1, 1) := by decide +kernel
theorem dX2_fail_3 : decode cX2_fail 3 = .ok (.aload_n 0, 1) := by decide +kernel
theorem dX2_fail_4 : decode cX2_fail 4 = .ok (.getfield 10, 3) := by decide +kernel
theorem dX2_fail_7 : decode cX2_fail 7 = .ok (.invokevirtual 16, 3) := by decide +kernel
theorem dX2_fail_10 : decode cX2_fail 10 = .ok (.if_icmp .ge 29, 3) := by decide +kernel
theorem dX2_fail_13 : decode cX2_fail 13 = .ok (.aload_n 0, 1) := by decide +kernel
theorem dX2_fail_14 : decode cX2_fail 14 = .ok (.getfield 10, 3) := by decide +kernel
theorem dX2_fail_17 : decode cX2_fail 17 = .ok (.iload_n 1, 1) := by decide +kernel
theorem dX2_fail_18 : decode cX2_fail 18 = .ok (.invokevirtual 32, 3) := by decide +kernel
theorem dX2_fail_21 : decode cX2_fail 21 = .ok (.checkcast 20, 3) := by decide +kernel
theorem dX2_fail_24 : decode cX2_fail 24 = .ok (.astore_n 2, 1) := by decide +kernel
theorem dX2_fail_25 : decode cX2_fail 25 = .ok (.aload_n 2, 1) := by decide +kernel
theorem dX2_fail_26 : decode cX2_fail 26 = .ok (.aload_n 2, 1) := by decide +kernel
theorem dX2_fail_27 : decode cX2_fail 27 = .ok (.getfield 71, 3) := by decide +kernel
theorem dX2_fail_30 : decode cX2_fail 30 = .ok (.invokevirtual 74, 3) := by decide +kernel
theorem dX2_fail_33 : decode cX2_fail 33 = .ok (.iinc 1 1, 3) := by decide +kernel
theorem dX2_fail_36 : decode cX2_fail 36 = .ok (.goto (-34), 3) := by decide +kernel
theorem dX2_fail_39 : decode cX2_fail 39 = .ok (.return_, 1) := by decide +kernel
theorem dX2_commission_0 : decode cX2_commission 0 = .ok (.iload_n 1, 1) := by decide +kernel
theorem dX2_commission_1 : decode cX2_commission 1 = .ok (.ifCond .lt 9, 3) := by decide +kernel
theorem dX2_commission_4 : decode cX2_commission 4 = .ok (.iload_n 1, 1) := by decide +kernel
theorem dX2_commission_5 : decode cX2_commission 5 = .ok (.bipush 63, 2) := by decide +kernel
theorem dX2_commission_7 : decode cX2_commission 7 = .ok (.if_icmp .le 6, 3) := by decide +kernel
theorem dX2_commission_10 : decode cX2_commission 10 = .ok (.bipush (-2), 2) := by decide +kernel
theorem dX2_commission_12 : decode cX2_commission 12 = .ok (.ireturn, 1) := by decide +kernel
theorem dX2_commission_13 : decode cX2_commission 13 = .ok (.aload_n 0, 1) := by decide +kernel
theorem dX2_commission_14 : decode cX2_commission 14 = .ok (.iconst 0, 1) := by decide +kernel
theorem dX2_commission_15 : decode cX2_commission 15 = .ok (.putfield 77, 3) := by decide +kernel
theorem dX2_commission_18 : decode cX2_commission 18 = .ok (.aload_n 0, 1) := by decide +kernel
theorem dX2_commission_19 : decode cX2_commission 19 = .ok (.sipush 165, 3) := by decide +kernel
theorem dX2_commission_22 : decode cX2_commission 22 = .ok (.iconst 0, 1) := by decide +kernel
theorem dX2_commission_23 : decode cX2_commission 23 = .ok (.invokevirtual 43, 3) := by decide +kernel
theorem dX2_commission_26 : decode cX2_commission 26 = .ok (.pop, 1) := by decide +kernel
theorem dX2_commission_27 : decode cX2_commission 27 = .ok (.aload_n 0, 1) := by decide +kernel
theorem dX2_commission_28 : decode cX2_commission 28 = .ok (.sipush 165, 3) := by decide +kernel
theorem dX2_commission_31 : decode cX2_commission 31 = .ok (.iconst 0, 1) := by decide +kernel
theorem dX2_commission_32 : decode cX2_commission 32 = .ok (.invokevirtual 43, 3) := by decide +kernel
theorem dX2_commission_35 : decode cX2_commission 35 = .ok (.pop, 1) := by decide +kernel
theorem dX2_commission_36 : decode cX2_commission 36 = .ok (.aload_n 0, 1) := by decide +kernel
theorem dX2_commission_37 : decode cX2_commission 37 = .ok (.sipush 167, 3) := by decide +kernel
theorem dX2_commission_40 : decode cX2_commission 40 = .ok (.iconst 0, 1) := by decide +kernel
theorem dX2_commission_41 : decode cX2_commission 41 = .ok (.invokevirtual 43, 3) := by decide +kernel
theorem dX2_commission_44 : decode cX2_commission 44 = .ok (.pop, 1) := by decide +kernel
theorem dX2_commission_45 : decode cX2_commission 45 = .ok (.aload_n 0, 1) := by decide +kernel
theorem dX2_commission_46 : decode cX2_commission 46 = .ok (.sipush 167, 3) := by decide +kernel
theorem dX2_commission_49 : decode cX2_commission 49 = .ok (.iconst 0, 1) := by decide +kernel
theorem dX2_commission_50 : decode cX2_commission 50 = .ok (.invokevirtual 43, 3) := by decide +kernel
theorem dX2_commission_53 : decode cX2_commission 53 = .ok (.pop, 1) := by decide +kernel
theorem dX2_commission_54 : decode cX2_commission 54 = .ok (.iconst 0, 1) := by decide +kernel
theorem dX2_commission_55 : decode cX2_commission 55 = .ok (.istore_n 2, 1) := by decide +kernel
theorem dX2_commission_56 : decode cX2_commission 56 = .ok (.iload_n 2, 1) := by decide +kernel
theorem dX2_commission_57 : decode cX2_commission 57 = .ok (.bipush 20, 2) := by decide +kernel
theorem dX2_commission_59 : decode cX2_commission 59 = .ok (.if_icmp .ge 52, 3) := by decide +kernel
theorem dX2_commission_62 : decode cX2_commission 62 = .ok (.iload_n 1, 1) := by decide +kernel
theorem dX2_commission_63 : decode cX2_commission 63 = .ok (.iload_n 2, 1) := by decide +kernel
theorem dX2_commission_64 : decode cX2_commission 64 = .ok (.iadd, 1) := by decide +kernel
theorem dX2_commission_65 : decode cX2_commission 65 = .ok (.bipush 63, 2) := by decide +kernel
theorem dX2_commission_67 : decode cX2_commission 67 = .ok (.if_icmp .gt 44, 3) := by decide +kernel
theorem dX2_commission_70 : decode cX2_commission 70 = .ok (.aload_n 0, 1) := by decide +kernel
theorem dX2_commission_71 : decode cX2_commission 71 = .ok (.invokevirtual 80, 3) := by decide +kernel
theorem dX2_commission_74 : decode cX2_commission 74 = .ok (.ifCond .eq 37, 3) := by decide +kernel
theorem dX2_commission_77 : decode cX2_commission 77 = .ok (.aload_n 0, 1) := by decide +kernel
theorem dX2_commission_78 : decode cX2_commission 78 = .ok (.invokevirtual 83, 3) := by decide +kernel
theorem dX2_commission_81 : decode cX2_commission 81 = .ok (.aload_n 0, 1) := by decide +kernel
theorem dX2_commission_82 : decode cX2_commission 82 = .ok (.sipush 183, 3) := by decide +kernel
theorem dX2_commission_85 : decode cX2_commission 85 = .ok (.iconst 2, 1) := by decide +kernel
theorem dX2_commission_86 : decode cX2_commission 86 = .ok (.iload_n 1, 1) := by decide +kernel
theorem dX2_commission_87 : decode cX2_commission 87 = .ok (.iload_n 2, 1) := by decide +kernel
theorem dX2_commission_88 : decode cX2_commission 88 = .ok (.iadd, 1) := by decide +kernel
theorem dX2_commission_89 : decode cX2_commission 89 = .ok (.imul, 1) := by decide +kernel
theorem dX2_commission_90 : decode cX2_commission 90 = .ok (.iconst 1, 1) := by decide +kernel
theorem dX2_commission_91 : decode cX2_commission 91 = .ok (.iadd, 1) := by decide +kernel
theorem dX2_commission_92 : decode cX2_commission 92 = .ok (.invokevirtual 43, 3) := by decide +kernel
theorem dX2_commission_95 : decode cX2_commission 95 = .ok (.pop, 1) := by decide +kernel
theorem dX2_commission_96 : decode cX2_commission 96 = .ok (.aload_n 0, 1) := by decide +kernel
theorem dX2_commission_97 : decode cX2_commission 97 = .ok (.sipush 171, 3) := by decide +kernel
theorem dX2_commission_100 : decode cX2_commission 100 = .ok (.iconst 0, 1) := by decide +kernel
theorem dX2_commission_101 : decode cX2_commission 101 = .ok (.invokevirtual 43, 3) := by decide +kernel
theorem dX2_commission_104 : decode cX2_commission 104 = .ok (.pop, 1) := by decide +kernel
theorem dX2_commission_105 : decode cX2_commission 105 = .ok (.iinc 2 1, 3) := by decide +kernel
theorem dX2_commission_108 : decode cX2_commission 108 = .ok (.goto (-52), 3) := by decide +kernel
theorem dX2_commission_111 : decode cX2_commission 111 = .ok (.aload_n 0, 1) := by decide +kernel
theorem dX2_commission_112 : decode cX2_commission 112 = .ok (.sipush 161, 3) := by decide +kernel
theorem dX2_commission_115 : decode cX2_commission 115 = .ok (.iconst 0, 1) := by decide +kernel
theorem dX2_commission_116 : decode cX2_commission 116 = .ok (.invokevirtual 43, 3) := by decide +kernel
theorem dX2_commission_119 : decode cX2_commission 119 = .ok (.pop, 1) := by decide +kernel
theorem dX2_commission_120 : decode cX2_commission 120 = .ok (.iload_n 2, 1) := by decide +kernel
theorem dX2_commission_121 : decode cX2_commission 121 = .ok (.ireturn, 1) := by decide +kernel
theorem dX2_compares_0 : decode cX2_compares 0 = .ok (.aload_n 0, 1) := by decide +kernel
theorem dX2_compares_1 : decode cX2_compares 1 = .ok (.getfield 77, 3) := by decide +kernel
theorem dX2_compares_4 : decode cX2_compares 4 = .ok (.ireturn, 1) := by decide +kernel
theorem dX2_told_0 : decode cX2_told 0 = .ok (.aload_n 0, 1) := by decide +kernel
theorem dX2_told_1 : decode cX2_told 1 = .ok (.iload_n 1, 1) := by decide +kernel
theorem dX2_told_2 : decode cX2_told 2 = .ok (.invokevirtual 27, 3) := by decide +kernel
theorem dX2_told_5 : decode cX2_told 5 = .ok (.ifCond .eq 21, 3) := by decide +kernel
theorem dX2_told_8 : decode cX2_told 8 = .ok (.aload_n 0, 1) := by decide +kernel
theorem dX2_told_9 : decode cX2_told 9 = .ok (.getfield 10, 3) := by decide +kernel
theorem dX2_told_12 : decode cX2_told 12 = .ok (.iload_n 1, 1) := by decide +kernel
theorem dX2_told_13 : decode cX2_told 13 = .ok (.invokevirtual 32, 3) := by decide +kernel
theorem dX2_told_16 : decode cX2_told 16 = .ok (.checkcast 20, 3) := by decide +kernel
theorem dX2_told_19 : decode cX2_told 19 = .ok (.iload_n 2, 1) := by decide +kernel
theorem dX2_told_20 : decode cX2_told 20 = .ok (.invokevirtual 86, 3) := by decide +kernel
theorem dX2_told_23 : decode cX2_told 23 = .ok (.goto 5, 3) := by decide +kernel
theorem dX2_told_26 : decode cX2_told 26 = .ok (.bipush (-2), 2) := by decide +kernel
theorem dX2_told_28 : decode cX2_told 28 = .ok (.ireturn, 1) := by decide +kernel
theorem dX2_frames_0 : decode cX2_frames 0 = .ok (.aload_n 0, 1) := by decide +kernel
theorem dX2_frames_1 : decode cX2_frames 1 = .ok (.getfield 90, 3) := by decide +kernel
theorem dX2_frames_4 : decode cX2_frames 4 = .ok (.ireturn, 1) := by decide +kernel
theorem dX2_isGear_0 : decode cX2_isGear 0 = .ok (.iload_n 1, 1) := by decide +kernel
theorem dX2_isGear_1 : decode cX2_isGear 1 = .ok (.ifCond .lt 18, 3) := by decide +kernel
theorem dX2_isGear_4 : decode cX2_isGear 4 = .ok (.iload_n 1, 1) := by decide +kernel
theorem dX2_isGear_5 : decode cX2_isGear 5 = .ok (.aload_n 0, 1) := by decide +kernel
theorem dX2_isGear_6 : decode cX2_isGear 6 = .ok (.getfield 10, 3) := by decide +kernel
theorem dX2_isGear_9 : decode cX2_isGear 9 = .ok (.invokevirtual 16, 3) := by decide +kernel
theorem dX2_isGear_12 : decode cX2_isGear 12 = .ok (.if_icmp .ge 7, 3) := by decide +kernel
theorem dX2_isGear_15 : decode cX2_isGear 15 = .ok (.iconst 1, 1) := by decide +kernel
theorem dX2_isGear_16 : decode cX2_isGear 16 = .ok (.goto 4, 3) := by decide +kernel
theorem dX2_isGear_19 : decode cX2_isGear 19 = .ok (.iconst 0, 1) := by decide +kernel
theorem dX2_isGear_20 : decode cX2_isGear 20 = .ok (.ireturn, 1) := by decide +kernel
theorem dX2_isByte_0 : decode cX2_isByte 0 = .ok (.iload_n 0, 1) := by decide +kernel
theorem dX2_isByte_1 : decode cX2_isByte 1 = .ok (.ifCond .lt 14, 3) := by decide +kernel
theorem dX2_isByte_4 : decode cX2_isByte 4 = .ok (.iload_n 0, 1) := by decide +kernel
theorem dX2_isByte_5 : decode cX2_isByte 5 = .ok (.sipush 255, 3) := by decide +kernel
theorem dX2_isByte_8 : decode cX2_isByte 8 = .ok (.if_icmp .gt 7, 3) := by decide +kernel
theorem dX2_isByte_11 : decode cX2_isByte 11 = .ok (.iconst 1, 1) := by decide +kernel
theorem dX2_isByte_12 : decode cX2_isByte 12 = .ok (.goto 4, 3) := by decide +kernel
theorem dX2_isByte_15 : decode cX2_isByte 15 = .ok (.iconst 0, 1) := by decide +kernel
theorem dX2_isByte_16 : decode cX2_isByte 16 = .ok (.ireturn, 1) := by decide +kernel
theorem dX2_sendSpecial_0 : decode cX2_sendSpecial 0 = .ok (.aload_n 0, 1) := by decide +kernel
theorem dX2_sendSpecial_1 : decode cX2_sendSpecial 1 = .ok (.iload_n 1, 1) := by decide +kernel
theorem dX2_sendSpecial_2 : decode cX2_sendSpecial 2 = .ok (.iload_n 2, 1) := by decide +kernel
theorem dX2_sendSpecial_3 : decode cX2_sendSpecial 3 = .ok (.invokevirtual 93, 3) := by decide +kernel
theorem dX2_sendSpecial_6 : decode cX2_sendSpecial 6 = .ok (.istore_n 3, 1) := by decide +kernel
theorem dX2_sendSpecial_7 : decode cX2_sendSpecial 7 = .ok (.iconst (-1), 1) := by decide +kernel
theorem dX2_sendSpecial_8 : decode cX2_sendSpecial 8 = .ok (.istore 4, 2) := by decide +kernel
theorem dX2_sendSpecial_10 : decode cX2_sendSpecial 10 = .ok (.iconst 0, 1) := by decide +kernel
theorem dX2_sendSpecial_11 : decode cX2_sendSpecial 11 = .ok (.istore 5, 2) := by decide +kernel
theorem dX2_sendSpecial_13 : decode cX2_sendSpecial 13 = .ok (.iload 5, 2) := by decide +kernel
theorem dX2_sendSpecial_15 : decode cX2_sendSpecial 15 = .ok (.aload_n 0, 1) := by decide +kernel
theorem dX2_sendSpecial_16 : decode cX2_sendSpecial 16 = .ok (.getfield 10, 3) := by decide +kernel
theorem dX2_sendSpecial_19 : decode cX2_sendSpecial 19 = .ok (.invokevirtual 16, 3) := by decide +kernel
theorem dX2_sendSpecial_22 : decode cX2_sendSpecial 22 = .ok (.if_icmp .ge 34, 3) := by decide +kernel
theorem dX2_sendSpecial_25 : decode cX2_sendSpecial 25 = .ok (.iload 4, 2) := by decide +kernel
theorem dX2_sendSpecial_27 : decode cX2_sendSpecial 27 = .ok (.aload_n 0, 1) := by decide +kernel
theorem dX2_sendSpecial_28 : decode cX2_sendSpecial 28 = .ok (.getfield 10, 3) := by decide +kernel
theorem dX2_sendSpecial_31 : decode cX2_sendSpecial 31 = .ok (.iload 5, 2) := by decide +kernel
theorem dX2_sendSpecial_33 : decode cX2_sendSpecial 33 = .ok (.invokevirtual 32, 3) := by decide +kernel
theorem dX2_sendSpecial_36 : decode cX2_sendSpecial 36 = .ok (.checkcast 20, 3) := by decide +kernel
theorem dX2_sendSpecial_39 : decode cX2_sendSpecial 39 = .ok (.iload_n 1, 1) := by decide +kernel
theorem dX2_sendSpecial_40 : decode cX2_sendSpecial 40 = .ok (.iload_n 2, 1) := by decide +kernel
theorem dX2_sendSpecial_41 : decode cX2_sendSpecial 41 = .ok (.iload_n 3, 1) := by decide +kernel
theorem dX2_sendSpecial_42 : decode cX2_sendSpecial 42 = .ok (.invokevirtual 97, 3) := by decide +kernel
theorem dX2_sendSpecial_45 : decode cX2_sendSpecial 45 = .ok (.invokestatic 101, 3) := by decide +kernel
theorem dX2_sendSpecial_48 : decode cX2_sendSpecial 48 = .ok (.istore 4, 2) := by decide +kernel
theorem dX2_sendSpecial_50 : decode cX2_sendSpecial 50 = .ok (.iinc 5 1, 3) := by decide +kernel
theorem dX2_sendSpecial_53 : decode cX2_sendSpecial 53 = .ok (.goto (-40), 3) := by decide +kernel
theorem dX2_sendSpecial_56 : decode cX2_sendSpecial 56 = .ok (.iload 4, 2) := by decide +kernel
theorem dX2_sendSpecial_58 : decode cX2_sendSpecial 58 = .ok (.ireturn, 1) := by decide +kernel
theorem dX2_sendAddressed_0 : decode cX2_sendAddressed 0 = .ok (.aload_n 0, 1) := by decide +kernel
theorem dX2_sendAddressed_1 : decode cX2_sendAddressed 1 = .ok (.iload_n 1, 1) := by decide +kernel
theorem dX2_sendAddressed_2 : decode cX2_sendAddressed 2 = .ok (.iload_n 2, 1) := by decide +kernel
theorem dX2_sendAddressed_3 : decode cX2_sendAddressed 3 = .ok (.invokevirtual 93, 3) := by decide +kernel
theorem dX2_sendAddressed_6 : decode cX2_sendAddressed 6 = .ok (.istore_n 3, 1) := by decide +kernel
theorem dX2_sendAddressed_7 : decode cX2_sendAddressed 7 = .ok (.iload_n 1, 1) := by decide +kernel
theorem dX2_sendAddressed_8 : decode cX2_sendAddressed 8 = .ok (.iconst 1, 1) := by decide +kernel
theorem dX2_sendAddressed_9 : decode cX2_sendAddressed 9 = .ok (.iand, 1) := by decide +kernel
theorem dX2_sendAddressed_10 : decode cX2_sendAddressed 10 = .ok (.ifCond .ne 7, 3) := by decide +kernel
theorem dX2_sendAddressed_13 : decode cX2_sendAddressed 13 = .ok (.iconst 1, 1) := by decide +kernel
theorem dX2_sendAddressed_14 : decode cX2_sendAddressed 14 = .ok (.goto 4, 3) := by decide +kernel
theorem dX2_sendAddressed_17 : decode cX2_sendAddressed 17 = .ok (.iconst 0, 1) := by decide +kernel
theorem dX2_sendAddressed_18 : decode cX2_sendAddressed 18 = .ok (.istore 4, 2) := by decide +kernel
theorem dX2_sendAddressed_20 : decode cX2_sendAddressed 20 = .ok (.iconst (-1), 1) := by decide +kernel
theorem dX2_sendAddressed_21 : decode cX2_sendAddressed 21 = .ok (.istore 5, 2) := by decide +kernel
theorem dX2_sendAddressed_23 : decode cX2_sendAddressed 23 = .ok (.iconst 0, 1) := by decide +kernel
theorem dX2_sendAddressed_24 : decode cX2_sendAddressed 24 = .ok (.istore 6, 2) := by decide +kernel
theorem dX2_sendAddressed_26 : decode cX2_sendAddressed 26 = .ok (.iload 6, 2) := by decide +kernel
theorem dX2_sendAddressed_28 : decode cX2_sendAddressed 28 = .ok (.aload_n 0, 1) := by decide +kernel
theorem dX2_sendAddressed_29 : decode cX2_sendAddressed 29 = .ok (.getfield 10, 3) := by decide +kernel
theorem dX2_sendAddressed_32 : decode cX2_sendAddressed 32 = .ok (.invokevirtual 16, 3) := by decide +kernel
theorem dX2_sendAddressed_35 : decode cX2_sendAddressed 35 = .ok (.if_icmp .ge 63, 3) := by decide +kernel
theorem dX2_sendAddressed_38 : decode cX2_sendAddressed 38 = .ok (.aload_n 0, 1) := by decide +kernel
theorem dX2_sendAddressed_39 : decode cX2_sendAddressed 39 = .ok (.getfield 10, 3) := by decide +kernel
theorem dX2_sendAddressed_42 : decode cX2_sendAddressed 42 = .ok (.iload 6, 2) := by decide +kernel
theorem dX2_sendAddressed_44 : decode cX2_sendAddressed 44 = .ok (.invokevirtual 32, 3) := by decide +kernel
theorem dX2_sendAddressed_47 : decode cX2_sendAddressed 47 = .ok (.checkcast 20, 3) := by decide +kernel
theorem dX2_sendAddressed_50 : decode cX2_sendAddressed 50 = .ok (.astore 7, 2) := by decide +kernel
theorem dX2_sendAddressed_52 : decode cX2_sendAddressed 52 = .ok (.aload 7, 2) := by decide +kernel
theorem dX2_sendAddressed_54 : decode cX2_sendAddressed 54 = .ok (.iload_n 1, 1) := by decide +kernel
theorem dX2_sendAddressed_55 : decode cX2_sendAddressed 55 = .ok (.invokevirtual 104, 3) := by decide +kernel
theorem dX2_sendAddressed_58 : decode cX2_sendAddressed 58 = .ok (.ifCond .ne 6, 3) := by decide +kernel
theorem dX2_sendAddressed_61 : decode cX2_sendAddressed 61 = .ok (.goto 31, 3) := by decide +kernel
theorem dX2_sendAddressed_64 : decode cX2_sendAddressed 64 = .ok (.iload 4, 2) := by decide +kernel
theorem dX2_sendAddressed_66 : decode cX2_sendAddressed 66 = .ok (.ifCond .eq 12, 3) := by decide +kernel
theorem dX2_sendAddressed_69 : decode cX2_sendAddressed 69 = .ok (.aload 7, 2) := by decide +kernel
theorem dX2_sendAddressed_71 : decode cX2_sendAddressed 71 = .ok (.iload_n 2, 1) := by decide +kernel
theorem dX2_sendAddressed_72 : decode cX2_sendAddressed 72 = .ok (.invokevirtual 107, 3) := by decide +kernel
theorem dX2_sendAddressed_75 : decode cX2_sendAddressed 75 = .ok (.goto 17, 3) := by decide +kernel
theorem dX2_sendAddressed_78 : decode cX2_sendAddressed 78 = .ok (.iload 5, 2) := by decide +kernel
theorem dX2_sendAddressed_80 : decode cX2_sendAddressed 80 = .ok (.aload 7, 2) := by decide +kernel
theorem dX2_sendAddressed_82 : decode cX2_sendAddressed 82 = .ok (.iload_n 2, 1) := by decide +kernel
