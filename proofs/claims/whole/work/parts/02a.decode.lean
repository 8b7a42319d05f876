theorem dX0_saysYes_0 : decode cX0_saysYes 0 = .ok (.aload_n 0, 1) := by decide +kernel
theorem dX0_saysYes_1 : decode cX0_saysYes 1 = .ok (.iload_n 1, 1) := by decide +kernel
theorem dX0_saysYes_2 : decode cX0_saysYes 2 = .ok (.iload_n 3, 1) := by decide +kernel
theorem dX0_saysYes_3 : decode cX0_saysYes 3 = .ok (.aload_n 2, 1) := by decide +kernel
theorem dX0_saysYes_4 : decode cX0_saysYes 4 = .ok (.iload_n 3, 1) := by decide +kernel
theorem dX0_saysYes_5 : decode cX0_saysYes 5 = .ok (.iaload, 1) := by decide +kernel
theorem dX0_saysYes_6 : decode cX0_saysYes 6 = .ok (.invokestatic 9, 3) := by decide +kernel
theorem dX0_saysYes_9 : decode cX0_saysYes 9 = .ok (.ifCond .ne 5, 3) := by decide +kernel
theorem dX0_saysYes_12 : decode cX0_saysYes 12 = .ok (.iconst 0, 1) := by decide +kernel
theorem dX0_saysYes_13 : decode cX0_saysYes 13 = .ok (.ireturn, 1) := by decide +kernel
theorem dX0_saysYes_14 : decode cX0_saysYes 14 = .ok (.iload_n 1, 1) := by decide +kernel
theorem dX0_saysYes_15 : decode cX0_saysYes 15 = .ok (.tableswitch 60 0 3 #[29, 29, 47, 54], 29) := by decide +kernel
theorem dX0_saysYes_44 : decode cX0_saysYes 44 = .ok (.aload_n 0, 1) := by decide +kernel
theorem dX0_saysYes_45 : decode cX0_saysYes 45 = .ok (.aload_n 2, 1) := by decide +kernel
theorem dX0_saysYes_46 : decode cX0_saysYes 46 = .ok (.iload_n 3, 1) := by decide +kernel
theorem dX0_saysYes_47 : decode cX0_saysYes 47 = .ok (.aload_n 2, 1) := by decide +kernel
theorem dX0_saysYes_48 : decode cX0_saysYes 48 = .ok (.iload_n 3, 1) := by decide +kernel
theorem dX0_saysYes_49 : decode cX0_saysYes 49 = .ok (.iaload, 1) := by decide +kernel
theorem dX0_saysYes_50 : decode cX0_saysYes 50 = .ok (.invokestatic 15, 3) := by decide +kernel
theorem dX0_saysYes_53 : decode cX0_saysYes 53 = .ok (.ifCond .ne 7, 3) := by decide +kernel
theorem dX0_saysYes_56 : decode cX0_saysYes 56 = .ok (.iconst 1, 1) := by decide +kernel
theorem dX0_saysYes_57 : decode cX0_saysYes 57 = .ok (.goto 4, 3) := by decide +kernel
theorem dX0_saysYes_60 : decode cX0_saysYes 60 = .ok (.iconst 0, 1) := by decide +kernel
theorem dX0_saysYes_61 : decode cX0_saysYes 61 = .ok (.ireturn, 1) := by decide +kernel
theorem dX0_saysYes_62 : decode cX0_saysYes 62 = .ok (.aload_n 0, 1) := by decide +kernel
theorem dX0_saysYes_63 : decode cX0_saysYes 63 = .ok (.aload_n 2, 1) := by decide +kernel
theorem dX0_saysYes_64 : decode cX0_saysYes 64 = .ok (.iload_n 3, 1) := by decide +kernel
theorem dX0_saysYes_65 : decode cX0_saysYes 65 = .ok (.invokestatic 19, 3) := by decide +kernel
theorem dX0_saysYes_68 : decode cX0_saysYes 68 = .ok (.ireturn, 1) := by decide +kernel
theorem dX0_saysYes_69 : decode cX0_saysYes 69 = .ok (.aload_n 0, 1) := by decide +kernel
theorem dX0_saysYes_70 : decode cX0_saysYes 70 = .ok (.iload_n 3, 1) := by decide +kernel
theorem dX0_saysYes_71 : decode cX0_saysYes 71 = .ok (.invokestatic 23, 3) := by decide +kernel
theorem dX0_saysYes_74 : decode cX0_saysYes 74 = .ok (.ireturn, 1) := by decide +kernel
theorem dX0_saysYes_75 : decode cX0_saysYes 75 = .ok (.aload_n 0, 1) := by decide +kernel
theorem dX0_saysYes_76 : decode cX0_saysYes 76 = .ok (.aload_n 2, 1) := by decide +kernel
theorem dX0_saysYes_77 : decode cX0_saysYes 77 = .ok (.iload_n 3, 1) := by decide +kernel
theorem dX0_saysYes_78 : decode cX0_saysYes 78 = .ok (.invokestatic 27, 3) := by decide +kernel
theorem dX0_saysYes_81 : decode cX0_saysYes 81 = .ok (.ireturn, 1) := by decide +kernel
theorem dX0_suits_0 : decode cX0_suits 0 = .ok (.iload_n 1, 1) := by decide +kernel
theorem dX0_suits_1 : decode cX0_suits 1 = .ok (.tableswitch 119 0 3 #[31, 42, 53, 109], 31) := by decide +kernel
theorem dX0_suits_32 : decode cX0_suits 32 = .ok (.iload_n 3, 1) := by decide +kernel
theorem dX0_suits_33 : decode cX0_suits 33 = .ok (.iconst 2, 1) := by decide +kernel
theorem dX0_suits_34 : decode cX0_suits 34 = .ok (.if_icmp .ge 7, 3) := by decide +kernel
theorem dX0_suits_37 : decode cX0_suits 37 = .ok (.iconst 1, 1) := by decide +kernel
theorem dX0_suits_38 : decode cX0_suits 38 = .ok (.goto 4, 3) := by decide +kernel
theorem dX0_suits_41 : decode cX0_suits 41 = .ok (.iconst 0, 1) := by decide +kernel
theorem dX0_suits_42 : decode cX0_suits 42 = .ok (.ireturn, 1) := by decide +kernel
theorem dX0_suits_43 : decode cX0_suits 43 = .ok (.iload_n 3, 1) := by decide +kernel
theorem dX0_suits_44 : decode cX0_suits 44 = .ok (.iconst 3, 1) := by decide +kernel
theorem dX0_suits_45 : decode cX0_suits 45 = .ok (.if_icmp .ge 7, 3) := by decide +kernel
theorem dX0_suits_48 : decode cX0_suits 48 = .ok (.iconst 1, 1) := by decide +kernel
theorem dX0_suits_49 : decode cX0_suits 49 = .ok (.goto 4, 3) := by decide +kernel
theorem dX0_suits_52 : decode cX0_suits 52 = .ok (.iconst 0, 1) := by decide +kernel
theorem dX0_suits_53 : decode cX0_suits 53 = .ok (.ireturn, 1) := by decide +kernel
theorem dX0_suits_54 : decode cX0_suits 54 = .ok (.aload_n 0, 1) := by decide +kernel
theorem dX0_suits_55 : decode cX0_suits 55 = .ok (.getfield 30, 3) := by decide +kernel
theorem dX0_suits_58 : decode cX0_suits 58 = .ok (.iload_n 2, 1) := by decide +kernel
theorem dX0_suits_59 : decode cX0_suits 59 = .ok (.iaload, 1) := by decide +kernel
theorem dX0_suits_60 : decode cX0_suits 60 = .ok (.iconst 1, 1) := by decide +kernel
theorem dX0_suits_61 : decode cX0_suits 61 = .ok (.if_icmp .ne 7, 3) := by decide +kernel
theorem dX0_suits_64 : decode cX0_suits 64 = .ok (.iconst 1, 1) := by decide +kernel
theorem dX0_suits_65 : decode cX0_suits 65 = .ok (.goto 4, 3) := by decide +kernel
theorem dX0_suits_68 : decode cX0_suits 68 = .ok (.iconst 0, 1) := by decide +kernel
theorem dX0_suits_69 : decode cX0_suits 69 = .ok (.istore 4, 2) := by decide +kernel
theorem dX0_suits_71 : decode cX0_suits 71 = .ok (.iload_n 3, 1) := by decide +kernel
theorem dX0_suits_72 : decode cX0_suits 72 = .ok (.bipush 8, 2) := by decide +kernel
theorem dX0_suits_74 : decode cX0_suits 74 = .ok (.irem, 1) := by decide +kernel
theorem dX0_suits_75 : decode cX0_suits 75 = .ok (.ifCond .ne 24, 3) := by decide +kernel
theorem dX0_suits_78 : decode cX0_suits 78 = .ok (.iload 4, 2) := by decide +kernel
theorem dX0_suits_80 : decode cX0_suits 80 = .ok (.ifCond .eq 15, 3) := by decide +kernel
theorem dX0_suits_83 : decode cX0_suits 83 = .ok (.iload_n 3, 1) := by decide +kernel
theorem dX0_suits_84 : decode cX0_suits 84 = .ok (.bipush 8, 2) := by decide +kernel
theorem dX0_suits_86 : decode cX0_suits 86 = .ok (.idiv, 1) := by decide +kernel
theorem dX0_suits_87 : decode cX0_suits 87 = .ok (.iload_n 2, 1) := by decide +kernel
theorem dX0_suits_88 : decode cX0_suits 88 = .ok (.if_icmp .ne 7, 3) := by decide +kernel
theorem dX0_suits_91 : decode cX0_suits 91 = .ok (.iconst 1, 1) := by decide +kernel
theorem dX0_suits_92 : decode cX0_suits 92 = .ok (.goto 17, 3) := by decide +kernel
theorem dX0_suits_95 : decode cX0_suits 95 = .ok (.iconst 0, 1) := by decide +kernel
theorem dX0_suits_96 : decode cX0_suits 96 = .ok (.goto 13, 3) := by decide +kernel
theorem dX0_suits_99 : decode cX0_suits 99 = .ok (.iload 4, 2) := by decide +kernel
theorem dX0_suits_101 : decode cX0_suits 101 = .ok (.ifCond .ne 7, 3) := by decide +kernel
theorem dX0_suits_104 : decode cX0_suits 104 = .ok (.iconst 1, 1) := by decide +kernel
theorem dX0_suits_105 : decode cX0_suits 105 = .ok (.goto 4, 3) := by decide +kernel
theorem dX0_suits_108 : decode cX0_suits 108 = .ok (.iconst 0, 1) := by decide +kernel
theorem dX0_suits_109 : decode cX0_suits 109 = .ok (.ireturn, 1) := by decide +kernel
theorem dX0_suits_110 : decode cX0_suits 110 = .ok (.iload_n 3, 1) := by decide +kernel
theorem dX0_suits_111 : decode cX0_suits 111 = .ok (.ifCond .ne 7, 3) := by decide +kernel
theorem dX0_suits_114 : decode cX0_suits 114 = .ok (.iconst 1, 1) := by decide +kernel
theorem dX0_suits_115 : decode cX0_suits 115 = .ok (.goto 4, 3) := by decide +kernel
theorem dX0_suits_118 : decode cX0_suits 118 = .ok (.iconst 0, 1) := by decide +kernel
theorem dX0_suits_119 : decode cX0_suits 119 = .ok (.ireturn, 1) := by decide +kernel
theorem dX0_suits_120 : decode cX0_suits 120 = .ok (.iload_n 3, 1) := by decide +kernel
theorem dX0_suits_121 : decode cX0_suits 121 = .ok (.bipush 8, 2) := by decide +kernel
theorem dX0_suits_123 : decode cX0_suits 123 = .ok (.if_icmp .ge 7, 3) := by decide +kernel
theorem dX0_suits_126 : decode cX0_suits 126 = .ok (.iconst 1, 1) := by decide +kernel
theorem dX0_suits_127 : decode cX0_suits 127 = .ok (.goto 4, 3) := by decide +kernel
theorem dX0_suits_130 : decode cX0_suits 130 = .ok (.iconst 0, 1) := by decide +kernel
theorem dX0_suits_131 : decode cX0_suits 131 = .ok (.ireturn, 1) := by decide +kernel
theorem dX0_nearWith_0 : decode cX0_nearWith 0 = .ok (.iconst 0, 1) := by decide +kernel
theorem dX0_nearWith_1 : decode cX0_nearWith 1 = .ok (.istore 4, 2) := by decide +kernel
theorem dX0_nearWith_3 : decode cX0_nearWith 3 = .ok (.iconst 0, 1) := by decide +kernel
theorem dX0_nearWith_4 : decode cX0_nearWith 4 = .ok (.istore 5, 2) := by decide +kernel
theorem dX0_nearWith_6 : decode cX0_nearWith 6 = .ok (.iload 5, 2) := by decide +kernel
theorem dX0_nearWith_8 : decode cX0_nearWith 8 = .ok (.aload_n 0, 1) := by decide +kernel
theorem dX0_nearWith_9 : decode cX0_nearWith 9 = .ok (.getfield 36, 3) := by decide +kernel
theorem dX0_nearWith_12 : decode cX0_nearWith 12 = .ok (.if_icmp .ge 35, 3) := by decide +kernel
theorem dX0_nearWith_15 : decode cX0_nearWith 15 = .ok (.aload_n 0, 1) := by decide +kernel
theorem dX0_nearWith_16 : decode cX0_nearWith 16 = .ok (.getfield 40, 3) := by decide +kernel
theorem dX0_nearWith_19 : decode cX0_nearWith 19 = .ok (.iload_n 2, 1) := by decide +kernel
theorem dX0_nearWith_20 : decode cX0_nearWith 20 = .ok (.iaload, 1) := by decide +kernel
theorem dX0_nearWith_21 : decode cX0_nearWith 21 = .ok (.iload 5, 2) := by decide +kernel
theorem dX0_nearWith_23 : decode cX0_nearWith 23 = .ok (.ishr, 1) := by decide +kernel
theorem dX0_nearWith_24 : decode cX0_nearWith 24 = .ok (.iconst 1, 1) := by decide +kernel
theorem dX0_nearWith_25 : decode cX0_nearWith 25 = .ok (.iand, 1) := by decide +kernel
theorem dX0_nearWith_26 : decode cX0_nearWith 26 = .ok (.iconst 1, 1) := by decide +kernel
theorem dX0_nearWith_27 : decode cX0_nearWith 27 = .ok (.if_icmp .ne 14, 3) := by decide +kernel
theorem dX0_nearWith_30 : decode cX0_nearWith 30 = .ok (.aload_n 1, 1) := by decide +kernel
theorem dX0_nearWith_31 : decode cX0_nearWith 31 = .ok (.iload 5, 2) := by decide +kernel
theorem dX0_nearWith_33 : decode cX0_nearWith 33 = .ok (.iaload, 1) := by decide +kernel
theorem dX0_nearWith_34 : decode cX0_nearWith 34 = .ok (.iload_n 3, 1) := by decide +kernel
theorem dX0_nearWith_35 : decode cX0_nearWith 35 = .ok (.if_icmp .ne 6, 3) := by decide +kernel
theorem dX0_nearWith_38 : decode cX0_nearWith 38 = .ok (.iinc 4 1, 3) := by decide +kernel
theorem dX0_nearWith_41 : decode cX0_nearWith 41 = .ok (.iinc 5 1, 3) := by decide +kernel
theorem dX0_nearWith_44 : decode cX0_nearWith 44 = .ok (.goto (-38), 3) := by decide +kernel
theorem dX0_nearWith_47 : decode cX0_nearWith 47 = .ok (.iload 4, 2) := by decide +kernel
theorem dX0_nearWith_49 : decode cX0_nearWith 49 = .ok (.ireturn, 1) := by decide +kernel
theorem dX0_followsLeader_0 : decode cX0_followsLeader 0 = .ok (.aload_n 1, 1) := by decide +kernel
theorem dX0_followsLeader_1 : decode cX0_followsLeader 1 = .ok (.iload_n 2, 1) := by decide +kernel
theorem dX0_followsLeader_2 : decode cX0_followsLeader 2 = .ok (.iaload, 1) := by decide +kernel
theorem dX0_followsLeader_3 : decode cX0_followsLeader 3 = .ok (.bipush 8, 2) := by decide +kernel
theorem dX0_followsLeader_5 : decode cX0_followsLeader 5 = .ok (.idiv, 1) := by decide +kernel
theorem dX0_followsLeader_6 : decode cX0_followsLeader 6 = .ok (.istore_n 3, 1) := by decide +kernel
theorem dX0_followsLeader_7 : decode cX0_followsLeader 7 = .ok (.iconst 0, 1) := by decide +kernel
theorem dX0_followsLeader_8 : decode cX0_followsLeader 8 = .ok (.istore 4, 2) := by decide +kernel
theorem dX0_followsLeader_10 : decode cX0_followsLeader 10 = .ok (.iload 4, 2) := by decide +kernel
theorem dX0_followsLeader_12 : decode cX0_followsLeader 12 = .ok (.aload_n 0, 1) := by decide +kernel
theorem dX0_followsLeader_13 : decode cX0_followsLeader 13 = .ok (.getfield 36, 3) := by decide +kernel
theorem dX0_followsLeader_16 : decode cX0_followsLeader 16 = .ok (.if_icmp .ge 37, 3) := by decide +kernel
theorem dX0_followsLeader_19 : decode cX0_followsLeader 19 = .ok (.aload_n 0, 1) := by decide +kernel
theorem dX0_followsLeader_20 : decode cX0_followsLeader 20 = .ok (.getfield 40, 3) := by decide +kernel
theorem dX0_followsLeader_23 : decode cX0_followsLeader 23 = .ok (.iload_n 2, 1) := by decide +kernel
theorem dX0_followsLeader_24 : decode cX0_followsLeader 24 = .ok (.iaload, 1) := by decide +kernel
theorem dX0_followsLeader_25 : decode cX0_followsLeader 25 = .ok (.iload 4, 2) := by decide +kernel
theorem dX0_followsLeader_27 : decode cX0_followsLeader 27 = .ok (.ishr, 1) := by decide +kernel
theorem dX0_followsLeader_28 : decode cX0_followsLeader 28 = .ok (.iconst 1, 1) := by decide +kernel
theorem dX0_followsLeader_29 : decode cX0_followsLeader 29 = .ok (.iand, 1) := by decide +kernel
theorem dX0_followsLeader_30 : decode cX0_followsLeader 30 = .ok (.iconst 1, 1) := by decide +kernel
theorem dX0_followsLeader_31 : decode cX0_followsLeader 31 = .ok (.if_icmp .ne 16, 3) := by decide +kernel
theorem dX0_followsLeader_34 : decode cX0_followsLeader 34 = .ok (.aload_n 1, 1) := by decide +kernel
theorem dX0_followsLeader_35 : decode cX0_followsLeader 35 = .ok (.iload 4, 2) := by decide +kernel
theorem dX0_followsLeader_37 : decode cX0_followsLeader 37 = .ok (.iaload, 1) := by decide +kernel
theorem dX0_followsLeader_38 : decode cX0_followsLeader 38 = .ok (.bipush 8, 2) := by decide +kernel
theorem dX0_followsLeader_40 : decode cX0_followsLeader 40 = .ok (.idiv, 1) := by decide +kernel
theorem dX0_followsLeader_41 : decode cX0_followsLeader 41 = .ok (.iload_n 3, 1) := by decide +kernel
theorem dX0_followsLeader_42 : decode cX0_followsLeader 42 = .ok (.if_icmp .eq 5, 3) := by decide +kernel
theorem dX0_followsLeader_45 : decode cX0_followsLeader 45 = .ok (.iconst 0, 1) := by decide +kernel
theorem dX0_followsLeader_46 : decode cX0_followsLeader 46 = .ok (.ireturn, 1) := by decide +kernel
theorem dX0_followsLeader_47 : decode cX0_followsLeader 47 = .ok (.iinc 4 1, 3) := by decide +kernel
theorem dX0_followsLeader_50 : decode cX0_followsLeader 50 = .ok (.goto (-40), 3) := by decide +kernel
theorem dX0_followsLeader_53 : decode cX0_followsLeader 53 = .ok (.aload_n 1, 1) := by decide +kernel
theorem dX0_followsLeader_54 : decode cX0_followsLeader 54 = .ok (.iload_n 2, 1) := by decide +kernel
theorem dX0_followsLeader_55 : decode cX0_followsLeader 55 = .ok (.iaload, 1) := by decide +kernel
theorem dX0_followsLeader_56 : decode cX0_followsLeader 56 = .ok (.bipush 8, 2) := by decide +kernel
theorem dX0_followsLeader_58 : decode cX0_followsLeader 58 = .ok (.irem, 1) := by decide +kernel
theorem dX0_followsLeader_59 : decode cX0_followsLeader 59 = .ok (.ifCond .eq 17, 3) := by decide +kernel
theorem dX0_followsLeader_62 : decode cX0_followsLeader 62 = .ok (.aload_n 0, 1) := by decide +kernel
theorem dX0_followsLeader_63 : decode cX0_followsLeader 63 = .ok (.aload_n 1, 1) := by decide +kernel
theorem dX0_followsLeader_64 : decode cX0_followsLeader 64 = .ok (.iload_n 2, 1) := by decide +kernel
theorem dX0_followsLeader_65 : decode cX0_followsLeader 65 = .ok (.aload_n 1, 1) := by decide +kernel
theorem dX0_followsLeader_66 : decode cX0_followsLeader 66 = .ok (.iload_n 2, 1) := by decide +kernel
theorem dX0_followsLeader_67 : decode cX0_followsLeader 67 = .ok (.iaload, 1) := by decide +kernel
theorem dX0_followsLeader_68 : decode cX0_followsLeader 68 = .ok (.iconst 1, 1) := by decide +kernel
theorem dX0_followsLeader_69 : decode cX0_followsLeader 69 = .ok (.isub, 1) := by decide +kernel
theorem dX0_followsLeader_70 : decode cX0_followsLeader 70 = .ok (.invokestatic 15, 3) := by decide +kernel
theorem dX0_followsLeader_73 : decode cX0_followsLeader 73 = .ok (.ifCond .le 7, 3) := by decide +kernel
theorem dX0_followsLeader_76 : decode cX0_followsLeader 76 = .ok (.iconst 1, 1) := by decide +kernel
theorem dX0_followsLeader_77 : decode cX0_followsLeader 77 = .ok (.goto 4, 3) := by decide +kernel
theorem dX0_followsLeader_80 : decode cX0_followsLeader 80 = .ok (.iconst 0, 1) := by decide +kernel
theorem dX0_followsLeader_81 : decode cX0_followsLeader 81 = .ok (.ireturn, 1) := by decide +kernel
theorem dX0_isScattered_0 : decode cX0_isScattered 0 = .ok (.aload_n 0, 1) := by decide +kernel
theorem dX0_isScattered_1 : decode cX0_isScattered 1 = .ok (.getfield 40, 3) := by decide +kernel
theorem dX0_isScattered_4 : decode cX0_isScattered 4 = .ok (.iload_n 1, 1) := by decide +kernel
theorem dX0_isScattered_5 : decode cX0_isScattered 5 = .ok (.iaload, 1) := by decide +kernel
theorem dX0_isScattered_6 : decode cX0_isScattered 6 = .ok (.aload_n 0, 1) := by decide +kernel
theorem dX0_isScattered_7 : decode cX0_isScattered 7 = .ok (.invokevirtual 43, 3) := by decide +kernel
theorem dX0_isScattered_10 : decode cX0_isScattered 10 = .ok (.iand, 1) := by decide +kernel
theorem dX0_isScattered_11 : decode cX0_isScattered 11 = .ok (.ifCond .eq 7, 3) := by decide +kernel
theorem dX0_isScattered_14 : decode cX0_isScattered 14 = .ok (.iconst 1, 1) := by decide +kernel
theorem dX0_isScattered_15 : decode cX0_isScattered 15 = .ok (.goto 4, 3) := by decide +kernel
theorem dX0_isScattered_18 : decode cX0_isScattered 18 = .ok (.iconst 0, 1) := by decide +kernel
theorem dX0_isScattered_19 : decode cX0_isScattered 19 = .ok (.istore_n 2, 1) := by decide +kernel
theorem dX0_isScattered_20 : decode cX0_isScattered 20 = .ok (.iload_n 2, 1) := by decide +kernel
theorem dX0_isScattered_21 : decode cX0_isScattered 21 = .ok (.aload_n 0, 1) := by decide +kernel
theorem dX0_isScattered_22 : decode cX0_isScattered 22 = .ok (.getfield 30, 3) := by decide +kernel
theorem dX0_isScattered_25 : decode cX0_isScattered 25 = .ok (.iload_n 1, 1) := by decide +kernel
theorem dX0_isScattered_26 : decode cX0_isScattered 26 = .ok (.iaload, 1) := by decide +kernel
theorem dX0_isScattered_27 : decode cX0_isScattered 27 = .ok (.iconst 1, 1) := by decide +kernel
theorem dX0_isScattered_28 : decode cX0_isScattered 28 = .ok (.if_icmp .ne 7, 3) := by decide +kernel
theorem dX0_isScattered_31 : decode cX0_isScattered 31 = .ok (.iconst 1, 1) := by decide +kernel
theorem dX0_isScattered_32 : decode cX0_isScattered 32 = .ok (.goto 4, 3) := by decide +kernel
theorem dX0_isScattered_35 : decode cX0_isScattered 35 = .ok (.iconst 0, 1) := by decide +kernel
theorem dX0_isScattered_36 : decode cX0_isScattered 36 = .ok (.if_icmp .eq 7, 3) := by decide +kernel
theorem dX0_isScattered_39 : decode cX0_isScattered 39 = .ok (.iconst 1, 1) := by decide +kernel
theorem dX0_isScattered_40 : decode cX0_isScattered 40 = .ok (.goto 4, 3) := by decide +kernel
theorem dX0_isScattered_43 : decode cX0_isScattered 43 = .ok (.iconst 0, 1) := by decide +kernel
theorem dX0_isScattered_44 : decode cX0_isScattered 44 = .ok (.ireturn, 1) := by decide +kernel
theorem dX0_hangsOnOne_0 : decode cX0_hangsOnOne 0 = .ok (.aload_n 0, 1) := by decide +kernel
theorem dX0_hangsOnOne_1 : decode cX0_hangsOnOne 1 = .ok (.aload_n 1, 1) := by decide +kernel
theorem dX0_hangsOnOne_2 : decode cX0_hangsOnOne 2 = .ok (.iload_n 2, 1) := by decide +kernel
theorem dX0_hangsOnOne_3 : decode cX0_hangsOnOne 3 = .ok (.aload_n 1, 1) := by decide +kernel
theorem dX0_hangsOnOne_4 : decode cX0_hangsOnOne 4 = .ok (.iload_n 2, 1) := by decide +kernel
theorem dX0_hangsOnOne_5 : decode cX0_hangsOnOne 5 = .ok (.iaload, 1) := by decide +kernel
theorem dX0_hangsOnOne_6 : decode cX0_hangsOnOne 6 = .ok (.iconst 1, 1) := by decide +kernel
theorem dX0_hangsOnOne_7 : decode cX0_hangsOnOne 7 = .ok (.isub, 1) := by decide +kernel
theorem dX0_hangsOnOne_8 : decode cX0_hangsOnOne 8 = .ok (.invokestatic 15, 3) := by decide +kernel
theorem dX0_hangsOnOne_11 : decode cX0_hangsOnOne 11 = .ok (.istore_n 3, 1) := by decide +kernel
theorem dX0_hangsOnOne_12 : decode cX0_hangsOnOne 12 = .ok (.aload_n 0, 1) := by decide +kernel
theorem dX0_hangsOnOne_13 : decode cX0_hangsOnOne 13 = .ok (.aload_n 1, 1) := by decide +kernel
theorem dX0_hangsOnOne_14 : decode cX0_hangsOnOne 14 = .ok (.iload_n 2, 1) := by decide +kernel
theorem dX0_hangsOnOne_15 : decode cX0_hangsOnOne 15 = .ok (.aload_n 1, 1) := by decide +kernel
theorem dX0_hangsOnOne_16 : decode cX0_hangsOnOne 16 = .ok (.iload_n 2, 1) := by decide +kernel
theorem dX0_hangsOnOne_17 : decode cX0_hangsOnOne 17 = .ok (.iaload, 1) := by decide +kernel
theorem dX0_hangsOnOne_18 : decode cX0_hangsOnOne 18 = .ok (.iconst 1, 1) := by decide +kernel
theorem dX0_hangsOnOne_19 : decode cX0_hangsOnOne 19 = .ok (.iadd, 1) := by decide +kernel
theorem dX0_hangsOnOne_20 : decode cX0_hangsOnOne 20 = .ok (.invokestatic 15, 3) := by decide +kernel
theorem dX0_hangsOnOne_23 : decode cX0_hangsOnOne 23 = .ok (.istore 4, 2) := by decide +kernel
theorem dX0_hangsOnOne_25 : decode cX0_hangsOnOne 25 = .ok (.aload_n 1, 1) := by decide +kernel
theorem dX0_hangsOnOne_26 : decode cX0_hangsOnOne 26 = .ok (.iload_n 2, 1) := by decide +kernel
theorem dX0_hangsOnOne_27 : decode cX0_hangsOnOne 27 = .ok (.iaload, 1) := by decide +kernel
theorem dX0_hangsOnOne_28 : decode cX0_hangsOnOne 28 = .ok (.ifCond .ne 7, 3) := by decide +kernel
theorem dX0_hangsOnOne_31 : decode cX0_hangsOnOne 31 = .ok (.iconst 0, 1) := by decide +kernel
theorem dX0_hangsOnOne_32 : decode cX0_hangsOnOne 32 = .ok (.goto 4, 3) := by decide +kernel
theorem dX0_hangsOnOne_35 : decode cX0_hangsOnOne 35 = .ok (.iconst 1, 1) := by decide +kernel
theorem dX0_hangsOnOne_36 : decode cX0_hangsOnOne 36 = .ok (.istore 5, 2) := by decide +kernel
theorem dX0_hangsOnOne_38 : decode cX0_hangsOnOne 38 = .ok (.iload_n 3, 1) := by decide +kernel
theorem dX0_hangsOnOne_39 : decode cX0_hangsOnOne 39 = .ok (.iload 5, 2) := by decide +kernel
theorem dX0_hangsOnOne_41 : decode cX0_hangsOnOne 41 = .ok (.if_icmp .ne 23, 3) := by decide +kernel
theorem dX0_hangsOnOne_44 : decode cX0_hangsOnOne 44 = .ok (.iload_n 3, 1) := by decide +kernel
theorem dX0_hangsOnOne_45 : decode cX0_hangsOnOne 45 = .ok (.iload 4, 2) := by decide +kernel
theorem dX0_hangsOnOne_47 : decode cX0_hangsOnOne 47 = .ok (.iadd, 1) := by decide +kernel
theorem dX0_hangsOnOne_48 : decode cX0_hangsOnOne 48 = .ok (.aload_n 0, 1) := by decide +kernel
theorem dX0_hangsOnOne_49 : decode cX0_hangsOnOne 49 = .ok (.getfield 40, 3) := by decide +kernel
theorem dX0_hangsOnOne_52 : decode cX0_hangsOnOne 52 = .ok (.iload_n 2, 1) := by decide +kernel
theorem dX0_hangsOnOne_53 : decode cX0_hangsOnOne 53 = .ok (.iaload, 1) := by decide +kernel
theorem dX0_hangsOnOne_54 : decode cX0_hangsOnOne 54 = .ok (.invokestatic 47, 3) := by decide +kernel
theorem dX0_hangsOnOne_57 : decode cX0_hangsOnOne 57 = .ok (.if_icmp .ne 7, 3) := by decide +kernel
theorem dX0_hangsOnOne_60 : decode cX0_hangsOnOne 60 = .ok (.iconst 1, 1) := by decide +kernel
theorem dX0_hangsOnOne_61 : decode cX0_hangsOnOne 61 = .ok (.goto 4, 3) := by decide +kernel
theorem dX0_hangsOnOne_64 : decode cX0_hangsOnOne 64 = .ok (.iconst 0, 1) := by decide +kernel
theorem dX0_hangsOnOne_65 : decode cX0_hangsOnOne 65 = .ok (.ireturn, 1) := by decide +kernel
theorem dX1_init_0 : decode cX1_init 0 = .ok (.aload_n 0, 1) := by decide +kernel
theorem dX1_init_1 : decode cX1_init 1 = .ok (.invokespecial 3, 3) := by decide +kernel
theorem dX1_init_4 : decode cX1_init 4 = .ok (.aload_n 0, 1) := by decide +kernel
theorem dX1_init_5 : decode cX1_init 5 = .ok (.bipush 8, 2) := by decide +kernel
theorem dX1_init_7 : decode cX1_init 7 = .ok (.newarray .int, 2) := by decide +kernel
theorem dX1_init_9 : decode cX1_init 9 = .ok (.putfield 9, 3) := by decide +kernel
theorem dX1_init_12 : decode cX1_init 12 = .ok (.aload_n 0, 1) := by decide +kernel
theorem dX1_init_13 : decode cX1_init 13 = .ok (.bipush 8, 2) := by decide +kernel
theorem dX1_init_15 : decode cX1_init 15 = .ok (.newarray .int, 2) := by decide +kernel
theorem dX1_init_17 : decode cX1_init 17 = .ok (.putfield 15, 3) := by decide +kernel
theorem dX1_init_20 : decode cX1_init 20 = .ok (.aload_n 0, 1) := by decide +kernel
theorem dX1_init_21 : decode cX1_init 21 = .ok (.sipush 3125, 3) := by decide +kernel
theorem dX1_init_24 : decode cX1_init 24 = .ok (.newarray .int, 2) := by decide +kernel
theorem dX1_init_26 : decode cX1_init 26 = .ok (.putfield 18, 3) := by decide +kernel
theorem dX1_init_29 : decode cX1_init 29 = .ok (.aload_n 0, 1) := by decide +kernel
theorem dX1_init_30 : decode cX1_init 30 = .ok (.sipush 3125, 3) := by decide +kernel
theorem dX1_init_33 : decode cX1_init 33 = .ok (.newarray .int, 2) := by decide +kernel
theorem dX1_init_35 : decode cX1_init 35 = .ok (.putfield 21, 3) := by decide +kernel
theorem dX1_init_38 : decode cX1_init 38 = .ok (.aload_n 0, 1) := by decide +kernel
theorem dX1_init_39 : decode cX1_init 39 = .ok (.sipush 3125, 3) := by decide +kernel
theorem dX1_init_42 : decode cX1_init 42 = .ok (.newarray .int, 2) := by decide +kernel
theorem dX1_init_44 : decode cX1_init 44 = .ok (.putfield 24, 3) := by decide +kernel
theorem dX1_init_47 : decode cX1_init 47 = .ok (.aload_n 0, 1) := by decide +kernel
theorem dX1_init_48 : decode cX1_init 48 = .ok (.aload_n 1, 1) := by decide +kernel
theorem dX1_init_49 : decode cX1_init 49 = .ok (.putfield 27, 3) := by decide +kernel
theorem dX1_init_52 : decode cX1_init 52 = .ok (.return_, 1) := by decide +kernel
theorem dX1_clear_0 : decode cX1_clear 0 = .ok (.aload_n 0, 1) := by decide +kernel
theorem dX1_clear_1 : decode cX1_clear 1 = .ok (.getfield 9, 3) := by decide +kernel
theorem dX1_clear_4 : decode cX1_clear 4 = .ok (.iconst 0, 1) := by decide +kernel
theorem dX1_clear_5 : decode cX1_clear 5 = .ok (.invokestatic 31, 3) := by decide +kernel
theorem dX1_clear_8 : decode cX1_clear 8 = .ok (.return_, 1) := by decide +kernel
theorem dX1_isRestless_0 : decode cX1_isRestless 0 = .ok (.aload_n 0, 1) := by decide +kernel
theorem dX1_isRestless_1 : decode cX1_isRestless 1 = .ok (.aload_n 0, 1) := by decide +kernel
theorem dX1_isRestless_2 : decode cX1_isRestless 2 = .ok (.getfield 9, 3) := by decide +kernel
theorem dX1_isRestless_5 : decode cX1_isRestless 5 = .ok (.iload_n 1, 1) := by decide +kernel
theorem dX1_isRestless_6 : decode cX1_isRestless 6 = .ok (.invokevirtual 37, 3) := by decide +kernel
theorem dX1_isRestless_9 : decode cX1_isRestless 9 = .ok (.aload_n 0, 1) := by decide +kernel
theorem dX1_isRestless_10 : decode cX1_isRestless 10 = .ok (.getfield 9, 3) := by decide +kernel
theorem dX1_isRestless_13 : decode cX1_isRestless 13 = .ok (.iload_n 1, 1) := by decide +kernel
theorem dX1_isRestless_14 : decode cX1_isRestless 14 = .ok (.iaload, 1) := by decide +kernel
theorem dX1_isRestless_15 : decode cX1_isRestless 15 = .ok (.if_icmp .eq 7, 3) := by decide +kernel
theorem dX1_isRestless_18 : decode cX1_isRestless 18 = .ok (.iconst 1, 1) := by decide +kernel
theorem dX1_isRestless_19 : decode cX1_isRestless 19 = .ok (.goto 4, 3) := by decide +kernel
theorem dX1_isRestless_22 : decode cX1_isRestless 22 = .ok (.iconst 0, 1) := by decide +kernel
theorem dX1_isRestless_23 : decode cX1_isRestless 23 = .ok (.ireturn, 1) := by decide +kernel
theorem dX1_obey_0 : decode cX1_obey 0 = .ok (.aload_n 0, 1) := by decide +kernel
theorem dX1_obey_1 : decode cX1_obey 1 = .ok (.getfield 9, 3) := by decide +kernel
theorem dX1_obey_4 : decode cX1_obey 4 = .ok (.iload_n 1, 1) := by decide +kernel
theorem dX1_obey_5 : decode cX1_obey 5 = .ok (.aload_n 0, 1) := by decide +kernel
theorem dX1_obey_6 : decode cX1_obey 6 = .ok (.aload_n 0, 1) := by decide +kernel
theorem dX1_obey_7 : decode cX1_obey 7 = .ok (.getfield 9, 3) := by decide +kernel
theorem dX1_obey_10 : decode cX1_obey 10 = .ok (.iload_n 1, 1) := by decide +kernel
theorem dX1_obey_11 : decode cX1_obey 11 = .ok (.invokevirtual 37, 3) := by decide +kernel
theorem dX1_obey_14 : decode cX1_obey 14 = .ok (.iastore, 1) := by decide +kernel
theorem dX1_obey_15 : decode cX1_obey 15 = .ok (.return_, 1) := by decide +kernel
theorem dX1_rule_0 : decode cX1_rule 0 = .ok (.iload_n 2, 1) := by decide +kernel
theorem dX1_rule_1 : decode cX1_rule 1 = .ok (.ifCond .ne 5, 3) := by decide +kernel
theorem dX1_rule_4 : decode cX1_rule 4 = .ok (.iconst 0, 1) := by decide +kernel
theorem dX1_rule_5 : decode cX1_rule 5 = .ok (.ireturn, 1) := by decide +kernel
theorem dX1_rule_6 : decode cX1_rule 6 = .ok (.iconst 3, 1) := by decide +kernel
theorem dX1_rule_7 : decode cX1_rule 7 = .ok (.istore_n 3, 1) := by decide +kernel
theorem dX1_rule_8 : decode cX1_rule 8 = .ok (.iconst 0, 1) := by decide +kernel
theorem dX1_rule_9 : decode cX1_rule 9 = .ok (.istore 4, 2) := by decide +kernel
theorem dX1_rule_11 : decode cX1_rule 11 = .ok (.iload 4, 2) := by decide +kernel
theorem dX1_rule_13 : decode cX1_rule 13 = .ok (.aload_n 0, 1) := by decide +kernel
theorem dX1_rule_14 : decode cX1_rule 14 = .ok (.getfield 27, 3) := by decide +kernel
theorem dX1_rule_17 : decode cX1_rule 17 = .ok (.getfield 41, 3) := by decide +kernel
theorem dX1_rule_20 : decode cX1_rule 20 = .ok (.if_icmp .ge 32, 3) := by decide +kernel
theorem dX1_rule_23 : decode cX1_rule 23 = .ok (.aload_n 0, 1) := by decide +kernel
theorem dX1_rule_24 : decode cX1_rule 24 = .ok (.getfield 27, 3) := by decide +kernel
theorem dX1_rule_27 : decode cX1_rule 27 = .ok (.iload_n 2, 1) := by decide +kernel
theorem dX1_rule_28 : decode cX1_rule 28 = .ok (.iload 4, 2) := by decide +kernel
theorem dX1_rule_30 : decode cX1_rule 30 = .ok (.invokevirtual 47, 3) := by decide +kernel
theorem dX1_rule_33 : decode cX1_rule 33 = .ok (.iconst 1, 1) := by decide +kernel
theorem dX1_rule_34 : decode cX1_rule 34 = .ok (.if_icmp .ne 12, 3) := by decide +kernel
theorem dX1_rule_37 : decode cX1_rule 37 = .ok (.iload_n 3, 1) := by decide +kernel
theorem dX1_rule_38 : decode cX1_rule 38 = .ok (.aload_n 1, 1) := by decide +kernel
theorem dX1_rule_39 : decode cX1_rule 39 = .ok (.iload 4, 2) := by decide +kernel
theorem dX1_rule_41 : decode cX1_rule 41 = .ok (.iaload, 1) := by decide +kernel
theorem dX1_rule_42 : decode cX1_rule 42 = .ok (.invokestatic 51, 3) := by decide +kernel
theorem dX1_rule_45 : decode cX1_rule 45 = .ok (.istore_n 3, 1) := by decide +kernel
theorem dX1_rule_46 : decode cX1_rule 46 = .ok (.iinc 4 1, 3) := by decide +kernel
theorem dX1_rule_49 : decode cX1_rule 49 = .ok (.goto (-38), 3) := by decide +kernel
theorem dX1_rule_52 : decode cX1_rule 52 = .ok (.iload_n 3, 1) := by decide +kernel
theorem dX1_rule_53 : decode cX1_rule 53 = .ok (.iconst 1, 1) := by decide +kernel
theorem dX1_rule_54 : decode cX1_rule 54 = .ok (.iadd, 1) := by decide +kernel
theorem dX1_rule_55 : decode cX1_rule 55 = .ok (.ireturn, 1) := by decide +kernel
theorem dX1_settle_0 : decode cX1_settle 0 = .ok (.iconst 0, 1) := by decide +kernel
theorem dX1_settle_1 : decode cX1_settle 1 = .ok (.istore_n 1, 1) := by decide +kernel
theorem dX1_settle_2 : decode cX1_settle 2 = .ok (.iload_n 1, 1) := by decide +kernel
theorem dX1_settle_3 : decode cX1_settle 3 = .ok (.sipush 1000, 3) := by decide +kernel
theorem dX1_settle_6 : decode cX1_settle 6 = .ok (.if_icmp .ge 26, 3) := by decide +kernel
theorem dX1_settle_9 : decode cX1_settle 9 = .ok (.aload_n 0, 1) := by decide +kernel
theorem dX1_settle_10 : decode cX1_settle 10 = .ok (.invokevirtual 56, 3) := by decide +kernel
theorem dX1_settle_13 : decode cX1_settle 13 = .ok (.istore_n 2, 1) := by decide +kernel
theorem dX1_settle_14 : decode cX1_settle 14 = .ok (.iload_n 2, 1) := by decide +kernel
theorem dX1_settle_15 : decode cX1_settle 15 = .ok (.iconst (-1), 1) := by decide +kernel
theorem dX1_settle_16 : decode cX1_settle 16 = .ok (.if_icmp .ne 5, 3) := by decide +kernel
theorem dX1_settle_19 : decode cX1_settle 19 = .ok (.iload_n 1, 1) := by decide +kernel
theorem dX1_settle_20 : decode cX1_settle 20 = .ok (.ireturn, 1) := by decide +kernel
theorem dX1_settle_21 : decode cX1_settle 21 = .ok (.aload_n 0, 1) := by decide +kernel
theorem dX1_settle_22 : decode cX1_settle 22 = .ok (.iload_n 2, 1) := by decide +kernel
theorem dX1_settle_23 : decode cX1_settle 23 = .ok (.invokevirtual 60, 3) := by decide +kernel
theorem dX1_settle_26 : decode cX1_settle 26 = .ok (.iinc 1 1, 3) := by decide +kernel
theorem dX1_settle_29 : decode cX1_settle 29 = .ok (.goto (-27), 3) := by decide +kernel
theorem dX1_settle_32 : decode cX1_settle 32 = .ok (.aload_n 0, 1) := by decide +kernel
theorem dX1_settle_33 : decode cX1_settle 33 = .ok (.invokevirtual 56, 3) := by decide +kernel
theorem dX1_settle_36 : decode cX1_settle 36 = .ok (.iconst (-1), 1) := by decide +kernel
theorem dX1_settle_37 : decode cX1_settle 37 = .ok (.if_icmp .ne 9, 3) := by decide +kernel
theorem dX1_settle_40 : decode cX1_settle 40 = .ok (.sipush 1000, 3) := by decide +kernel
theorem dX1_settle_43 : decode cX1_settle 43 = .ok (.goto 4, 3) := by decide +kernel
theorem dX1_settle_46 : decode cX1_settle 46 = .ok (.iconst (-1), 1) := by decide +kernel
theorem dX1_settle_47 : decode cX1_settle 47 = .ok (.ireturn, 1) := by decide +kernel
theorem dX1_leastRestless_0 : decode cX1_leastRestless 0 = .ok (.iconst 0, 1) := by decide +kernel
theorem dX1_leastRestless_1 : decode cX1_leastRestless 1 = .ok (.istore_n 1, 1) := by decide +kernel
theorem dX1_leastRestless_2 : decode cX1_leastRestless 2 = .ok (.iload_n 1, 1) := by decide +kernel
theorem dX1_leastRestless_3 : decode cX1_leastRestless 3 = .ok (.aload_n 0, 1) := by decide +kernel
theorem dX1_leastRestless_4 : decode cX1_leastRestless 4 = .ok (.getfield 27, 3) := by decide +kernel
theorem dX1_leastRestless_7 : decode cX1_leastRestless 7 = .ok (.getfield 41, 3) := by decide +kernel
theorem dX1_leastRestless_10 : decode cX1_leastRestless 10 = .ok (.if_icmp .ge 19, 3) := by decide +kernel
theorem dX1_leastRestless_13 : decode cX1_leastRestless 13 = .ok (.aload_n 0, 1) := by decide +kernel
theorem dX1_leastRestless_14 : decode cX1_leastRestless 14 = .ok (.iload_n 1, 1) := by decide +kernel
theorem dX1_leastRestless_15 : decode cX1_leastRestless 15 = .ok (.invokevirtual 64, 3) := by decide +kernel
theorem dX1_leastRestless_18 : decode cX1_leastRestless 18 = .ok (.ifCond .eq 5, 3) := by decide +kernel
theorem dX1_leastRestless_21 : decode cX1_leastRestless 21 = .ok (.iload_n 1, 1) := by decide +kernel
theorem dX1_leastRestless_22 : decode cX1_leastRestless 22 = .ok (.ireturn, 1) := by decide +kernel
theorem dX1_leastRestless_23 : decode cX1_leastRestless 23 = .ok (.iinc 1 1, 3) := by decide +kernel
theorem dX1_leastRestless_26 : decode cX1_leastRestless 26 = .ok (.goto (-24), 3) := by decide +kernel
theorem dX1_leastRestless_29 : decode cX1_leastRestless 29 = .ok (.iconst (-1), 1) := by decide +kernel
theorem dX1_leastRestless_30 : decode cX1_leastRestless 30 = .ok (.ireturn, 1) := by decide +kernel
theorem dX1_stateNow_0 : decode cX1_stateNow 0 = .ok (.iconst 0, 1) := by decide +kernel
theorem dX1_stateNow_1 : decode cX1_stateNow 1 = .ok (.istore_n 1, 1) := by decide +kernel
theorem dX1_stateNow_2 : decode cX1_stateNow 2 = .ok (.iconst 0, 1) := by decide +kernel
theorem dX1_stateNow_3 : decode cX1_stateNow 3 = .ok (.istore_n 2, 1) := by decide +kernel
theorem dX1_stateNow_4 : decode cX1_stateNow 4 = .ok (.iload_n 2, 1) := by decide +kernel
theorem dX1_stateNow_5 : decode cX1_stateNow 5 = .ok (.aload_n 0, 1) := by decide +kernel
theorem dX1_stateNow_6 : decode cX1_stateNow 6 = .ok (.getfield 27, 3) := by decide +kernel
theorem dX1_stateNow_9 : decode cX1_stateNow 9 = .ok (.getfield 41, 3) := by decide +kernel
theorem dX1_stateNow_12 : decode cX1_stateNow 12 = .ok (.if_icmp .ge 32, 3) := by decide +kernel
theorem dX1_stateNow_15 : decode cX1_stateNow 15 = .ok (.iload_n 2, 1) := by decide +kernel
theorem dX1_stateNow_16 : decode cX1_stateNow 16 = .ok (.getstatic 68, 3) := by decide +kernel
theorem dX1_stateNow_19 : decode cX1_stateNow 19 = .ok (.arraylength, 1) := by decide +kernel
theorem dX1_stateNow_20 : decode cX1_stateNow 20 = .ok (.if_icmp .ge 24, 3) := by decide +kernel
theorem dX1_stateNow_23 : decode cX1_stateNow 23 = .ok (.iload_n 1, 1) := by decide +kernel
theorem dX1_stateNow_24 : decode cX1_stateNow 24 = .ok (.aload_n 0, 1) := by decide +kernel
theorem dX1_stateNow_25 : decode cX1_stateNow 25 = .ok (.getfield 9, 3) := by decide +kernel
theorem dX1_stateNow_28 : decode cX1_stateNow 28 = .ok (.iload_n 2, 1) := by decide +kernel
theorem dX1_stateNow_29 : decode cX1_stateNow 29 = .ok (.iaload, 1) := by decide +kernel
theorem dX1_stateNow_30 : decode cX1_stateNow 30 = .ok (.getstatic 68, 3) := by decide +kernel
theorem dX1_stateNow_33 : decode cX1_stateNow 33 = .ok (.iload_n 2, 1) := by decide +kernel
theorem dX1_stateNow_34 : decode cX1_stateNow 34 = .ok (.iaload, 1) := by decide +kernel
theorem dX1_stateNow_35 : decode cX1_stateNow 35 = .ok (.imul, 1) := by decide +kernel
theorem dX1_stateNow_36 : decode cX1_stateNow 36 = .ok (.iadd, 1) := by decide +kernel
theorem dX1_stateNow_37 : decode cX1_stateNow 37 = .ok (.istore_n 1, 1) := by decide +kernel
theorem dX1_stateNow_38 : decode cX1_stateNow 38 = .ok (.iinc 2 1, 3) := by decide +kernel
theorem dX1_stateNow_41 : decode cX1_stateNow 41 = .ok (.goto (-37), 3) := by decide +kernel
theorem dX1_stateNow_44 : decode cX1_stateNow 44 = .ok (.iload_n 1, 1) := by decide +kernel
theorem dX1_stateNow_45 : decode cX1_stateNow 45 = .ok (.ireturn, 1) := by decide +kernel
theorem dX1_stateBehind_0 : decode cX1_stateBehind 0 = .ok (.iload_n 1, 1) := by decide +kernel
theorem dX1_stateBehind_1 : decode cX1_stateBehind 1 = .ok (.istore_n 3, 1) := by decide +kernel
theorem dX1_stateBehind_2 : decode cX1_stateBehind 2 = .ok (.iconst 0, 1) := by decide +kernel
theorem dX1_stateBehind_3 : decode cX1_stateBehind 3 = .ok (.istore 4, 2) := by decide +kernel
theorem dX1_stateBehind_5 : decode cX1_stateBehind 5 = .ok (.iload 4, 2) := by decide +kernel
theorem dX1_stateBehind_7 : decode cX1_stateBehind 7 = .ok (.aload_n 0, 1) := by decide +kernel
theorem dX1_stateBehind_8 : decode cX1_stateBehind 8 = .ok (.getfield 27, 3) := by decide +kernel
theorem dX1_stateBehind_11 : decode cX1_stateBehind 11 = .ok (.getfield 41, 3) := by decide +kernel
theorem dX1_stateBehind_14 : decode cX1_stateBehind 14 = .ok (.if_icmp .ge 23, 3) := by decide +kernel
theorem dX1_stateBehind_17 : decode cX1_stateBehind 17 = .ok (.aload_n 0, 1) := by decide +kernel
theorem dX1_stateBehind_18 : decode cX1_stateBehind 18 = .ok (.getfield 15, 3) := by decide +kernel
theorem dX1_stateBehind_21 : decode cX1_stateBehind 21 = .ok (.iload 4, 2) := by decide +kernel
theorem dX1_stateBehind_23 : decode cX1_stateBehind 23 = .ok (.iload_n 3, 1) := by decide +kernel
theorem dX1_stateBehind_24 : decode cX1_stateBehind 24 = .ok (.iconst 5, 1) := by decide +kernel
theorem dX1_stateBehind_25 : decode cX1_stateBehind 25 = .ok (.irem, 1) := by decide +kernel
theorem dX1_stateBehind_26 : decode cX1_stateBehind 26 = .ok (.iastore, 1) := by decide +kernel
theorem dX1_stateBehind_27 : decode cX1_stateBehind 27 = .ok (.iload_n 3, 1) := by decide +kernel
theorem dX1_stateBehind_28 : decode cX1_stateBehind 28 = .ok (.iconst 5, 1) := by decide +kernel
theorem dX1_stateBehind_29 : decode cX1_stateBehind 29 = .ok (.idiv, 1) := by decide +kernel
theorem dX1_stateBehind_30 : decode cX1_stateBehind 30 = .ok (.istore_n 3, 1) := by decide +kernel
theorem dX1_stateBehind_31 : decode cX1_stateBehind 31 = .ok (.iinc 4 1, 3) := by decide +kernel
theorem dX1_stateBehind_34 : decode cX1_stateBehind 34 = .ok (.goto (-29), 3) := by decide +kernel
theorem dX1_stateBehind_37 : decode cX1_stateBehind 37 = .ok (.iload_n 1, 1) := by decide +kernel
theorem dX1_stateBehind_38 : decode cX1_stateBehind 38 = .ok (.aload_n 0, 1) := by decide +kernel
theorem dX1_stateBehind_39 : decode cX1_stateBehind 39 = .ok (.aload_n 0, 1) := by decide +kernel
theorem dX1_stateBehind_40 : decode cX1_stateBehind 40 = .ok (.getfield 15, 3) := by decide +kernel
theorem dX1_stateBehind_43 : decode cX1_stateBehind 43 = .ok (.iload_n 2, 1) := by decide +kernel
theorem dX1_stateBehind_44 : decode cX1_stateBehind 44 = .ok (.invokevirtual 37, 3) := by decide +kernel
theorem dX1_stateBehind_47 : decode cX1_stateBehind 47 = .ok (.aload_n 0, 1) := by decide +kernel
theorem dX1_stateBehind_48 : decode cX1_stateBehind 48 = .ok (.getfield 15, 3) := by decide +kernel
theorem dX1_stateBehind_51 : decode cX1_stateBehind 51 = .ok (.iload_n 2, 1) := by decide +kernel
theorem dX1_stateBehind_52 : decode cX1_stateBehind 52 = .ok (.iaload, 1) := by decide +kernel
theorem dX1_stateBehind_53 : decode cX1_stateBehind 53 = .ok (.isub, 1) := by decide +kernel
theorem dX1_stateBehind_54 : decode cX1_stateBehind 54 = .ok (.getstatic 68, 3) := by decide +kernel
theorem dX1_stateBehind_57 : decode cX1_stateBehind 57 = .ok (.iload_n 2, 1) := by decide +kernel
theorem dX1_stateBehind_58 : decode cX1_stateBehind 58 = .ok (.iaload, 1) := by decide +kernel
theorem dX1_stateBehind_59 : decode cX1_stateBehind 59 = .ok (.imul, 1) := by decide +kernel
theorem dX1_stateBehind_60 : decode cX1_stateBehind 60 = .ok (.iadd, 1) := by decide +kernel
theorem dX1_stateBehind_61 : decode cX1_stateBehind 61 = .ok (.ireturn, 1) := by decide +kernel
theorem dX1_longestWay_0 : decode cX1_longestWay 0 = .ok (.aload_n 0, 1) := by decide +kernel
theorem dX1_longestWay_1 : decode cX1_longestWay 1 = .ok (.getfield 27, 3) := by decide +kernel
theorem dX1_longestWay_4 : decode cX1_longestWay 4 = .ok (.getfield 41, 3) := by decide +kernel
theorem dX1_longestWay_7 : decode cX1_longestWay 7 = .ok (.iconst 1, 1) := by decide +kernel
theorem dX1_longestWay_8 : decode cX1_longestWay 8 = .ok (.iadd, 1) := by decide +kernel
theorem dX1_longestWay_9 : decode cX1_longestWay 9 = .ok (.istore_n 1, 1) := by decide +kernel
theorem dX1_longestWay_10 : decode cX1_longestWay 10 = .ok (.aload_n 0, 1) := by decide +kernel
theorem dX1_longestWay_11 : decode cX1_longestWay 11 = .ok (.invokevirtual 71, 3) := by decide +kernel
theorem dX1_longestWay_14 : decode cX1_longestWay 14 = .ok (.istore_n 2, 1) := by decide +kernel
theorem dX1_longestWay_15 : decode cX1_longestWay 15 = .ok (.aload_n 0, 1) := by decide +kernel
theorem dX1_longestWay_16 : decode cX1_longestWay 16 = .ok (.getfield 21, 3) := by decide +kernel
theorem dX1_longestWay_19 : decode cX1_longestWay 19 = .ok (.iconst (-1), 1) := by decide +kernel
theorem dX1_longestWay_20 : decode cX1_longestWay 20 = .ok (.invokestatic 31, 3) := by decide +kernel
theorem dX1_longestWay_23 : decode cX1_longestWay 23 = .ok (.iconst 0, 1) := by decide +kernel
theorem dX1_longestWay_24 : decode cX1_longestWay 24 = .ok (.istore_n 3, 1) := by decide +kernel
theorem dX1_longestWay_25 : decode cX1_longestWay 25 = .ok (.aload_n 0, 1) := by decide +kernel
theorem dX1_longestWay_26 : decode cX1_longestWay 26 = .ok (.iload_n 2, 1) := by decide +kernel
theorem dX1_longestWay_27 : decode cX1_longestWay 27 = .ok (.iload_n 3, 1) := by decide +kernel
theorem dX1_longestWay_28 : decode cX1_longestWay 28 = .ok (.invokevirtual 74, 3) := by decide +kernel
theorem dX1_longestWay_31 : decode cX1_longestWay 31 = .ok (.iconst 0, 1) := by decide +kernel
theorem dX1_longestWay_32 : decode cX1_longestWay 32 = .ok (.istore 4, 2) := by decide +kernel
theorem dX1_longestWay_34 : decode cX1_longestWay 34 = .ok (.iload 4, 2) := by decide +kernel
theorem dX1_longestWay_36 : decode cX1_longestWay 36 = .ok (.ldc 78, 2) := by decide +kernel
theorem dX1_longestWay_38 : decode cX1_longestWay 38 = .ok (.if_icmp .ge 174, 3) := by decide +kernel
theorem dX1_longestWay_41 : decode cX1_longestWay 41 = .ok (.aload_n 0, 1) := by decide +kernel
theorem dX1_longestWay_42 : decode cX1_longestWay 42 = .ok (.getfield 21, 3) := by decide +kernel
theorem dX1_longestWay_45 : decode cX1_longestWay 45 = .ok (.iload_n 2, 1) := by decide +kernel
theorem dX1_longestWay_46 : decode cX1_longestWay 46 = .ok (.iaload, 1) := by decide +kernel
theorem dX1_longestWay_47 : decode cX1_longestWay 47 = .ok (.iload_n 1, 1) := by decide +kernel
theorem dX1_longestWay_48 : decode cX1_longestWay 48 = .ok (.if_icmp .eq 164, 3) := by decide +kernel
theorem dX1_longestWay_51 : decode cX1_longestWay 51 = .ok (.aload_n 0, 1) := by decide +kernel
theorem dX1_longestWay_52 : decode cX1_longestWay 52 = .ok (.getfield 24, 3) := by decide +kernel
theorem dX1_longestWay_55 : decode cX1_longestWay 55 = .ok (.iload_n 3, 1) := by decide +kernel
theorem dX1_longestWay_56 : decode cX1_longestWay 56 = .ok (.iaload, 1) := by decide +kernel
theorem dX1_longestWay_57 : decode cX1_longestWay 57 = .ok (.istore 5, 2) := by decide +kernel
theorem dX1_longestWay_59 : decode cX1_longestWay 59 = .ok (.aload_n 0, 1) := by decide +kernel
theorem dX1_longestWay_60 : decode cX1_longestWay 60 = .ok (.getfield 21, 3) := by decide +kernel
theorem dX1_longestWay_63 : decode cX1_longestWay 63 = .ok (.iload 5, 2) := by decide +kernel
theorem dX1_longestWay_65 : decode cX1_longestWay 65 = .ok (.iaload, 1) := by decide +kernel
theorem dX1_longestWay_66 : decode cX1_longestWay 66 = .ok (.istore 6, 2) := by decide +kernel
theorem dX1_longestWay_68 : decode cX1_longestWay 68 = .ok (.aload_n 0, 1) := by decide +kernel
theorem dX1_longestWay_69 : decode cX1_longestWay 69 = .ok (.getfield 21, 3) := by decide +kernel
theorem dX1_longestWay_72 : decode cX1_longestWay 72 = .ok (.iload 5, 2) := by decide +kernel
theorem dX1_longestWay_74 : decode cX1_longestWay 74 = .ok (.dup2, 1) := by decide +kernel
theorem dX1_longestWay_75 : decode cX1_longestWay 75 = .ok (.iaload, 1) := by decide +kernel
theorem dX1_longestWay_76 : decode cX1_longestWay 76 = .ok (.iconst 1, 1) := by decide +kernel
theorem dX1_longestWay_77 : decode cX1_longestWay 77 = .ok (.iadd, 1) := by decide +kernel
theorem dX1_longestWay_78 : decode cX1_longestWay 78 = .ok (.iastore, 1) := by decide +kernel
theorem dX1_longestWay_79 : decode cX1_longestWay 79 = .ok (.iload 6, 2) := by decide +kernel
theorem dX1_longestWay_81 : decode cX1_longestWay 81 = .ok (.aload_n 0, 1) := by decide +kernel
theorem dX1_longestWay_82 : decode cX1_longestWay 82 = .ok (.getfield 27, 3) := by decide +kernel
theorem dX1_longestWay_85 : decode cX1_longestWay 85 = .ok (.getfield 41, 3) := by decide +kernel
theorem dX1_longestWay_88 : decode cX1_longestWay 88 = .ok (.if_icmp .ne 14, 3) := by decide +kernel
theorem dX1_longestWay_91 : decode cX1_longestWay 91 = .ok (.iload_n 3, 1) := by decide +kernel
theorem dX1_longestWay_92 : decode cX1_longestWay 92 = .ok (.iconst 1, 1) := by decide +kernel
theorem dX1_longestWay_93 : decode cX1_longestWay 93 = .ok (.isub, 1) := by decide +kernel
theorem dX1_longestWay_94 : decode cX1_longestWay 94 = .ok (.iconst 0, 1) := by decide +kernel
theorem dX1_longestWay_95 : decode cX1_longestWay 95 = .ok (.invokestatic 79, 3) := by decide +kernel
theorem dX1_longestWay_98 : decode cX1_longestWay 98 = .ok (.istore_n 3, 1) := by decide +kernel
theorem dX1_longestWay_99 : decode cX1_longestWay 99 = .ok (.goto 107, 3) := by decide +kernel
theorem dX1_longestWay_102 : decode cX1_longestWay 102 = .ok (.aload_n 0, 1) := by decide +kernel
theorem dX1_longestWay_103 : decode cX1_longestWay 103 = .ok (.iload 5, 2) := by decide +kernel
theorem dX1_longestWay_105 : decode cX1_longestWay 105 = .ok (.iload 6, 2) := by decide +kernel
theorem dX1_longestWay_107 : decode cX1_longestWay 107 = .ok (.invokevirtual 82, 3) := by decide +kernel
theorem dX1_longestWay_110 : decode cX1_longestWay 110 = .ok (.istore 7, 2) := by decide +kernel
theorem dX1_longestWay_112 : decode cX1_longestWay 112 = .ok (.iload 7, 2) := by decide +kernel
theorem dX1_longestWay_114 : decode cX1_longestWay 114 = .ok (.iload 5, 2) := by decide +kernel
theorem dX1_longestWay_116 : decode cX1_longestWay 116 = .ok (.if_icmp .ne 6, 3) := by decide +kernel
theorem dX1_longestWay_119 : decode cX1_longestWay 119 = .ok (.goto 87, 3) := by decide +kernel
theorem dX1_longestWay_122 : decode cX1_longestWay 122 = .ok (.aload_n 0, 1) := by decide +kernel
theorem dX1_longestWay_123 : decode cX1_longestWay 123 = .ok (.getfield 21, 3) := by decide +kernel
theorem dX1_longestWay_126 : decode cX1_longestWay 126 = .ok (.iload 7, 2) := by decide +kernel
theorem dX1_longestWay_128 : decode cX1_longestWay 128 = .ok (.iaload, 1) := by decide +kernel
theorem dX1_longestWay_129 : decode cX1_longestWay 129 = .ok (.iconst (-1), 1) := by decide +kernel
theorem dX1_longestWay_130 : decode cX1_longestWay 130 = .ok (.if_icmp .ne 34, 3) := by decide +kernel
theorem dX1_longestWay_133 : decode cX1_longestWay 133 = .ok (.iload_n 3, 1) := by decide +kernel
theorem dX1_longestWay_134 : decode cX1_longestWay 134 = .ok (.iconst 1, 1) := by decide +kernel
theorem dX1_longestWay_135 : decode cX1_longestWay 135 = .ok (.iadd, 1) := by decide +kernel
theorem dX1_longestWay_136 : decode cX1_longestWay 136 = .ok (.sipush 3125, 3) := by decide +kernel
theorem dX1_longestWay_139 : decode cX1_longestWay 139 = .ok (.if_icmp .ge 25, 3) := by decide +kernel
theorem dX1_longestWay_142 : decode cX1_longestWay 142 = .ok (.aload_n 0, 1) := by decide +kernel
theorem dX1_longestWay_143 : decode cX1_longestWay 143 = .ok (.getfield 21, 3) := by decide +kernel
theorem dX1_longestWay_146 : decode cX1_longestWay 146 = .ok (.iload 5, 2) := by decide +kernel
theorem dX1_longestWay_148 : decode cX1_longestWay 148 = .ok (.iload 6, 2) := by decide +kernel
theorem dX1_longestWay_150 : decode cX1_longestWay 150 = .ok (.iastore, 1) := by decide +kernel
theorem dX1_longestWay_151 : decode cX1_longestWay 151 = .ok (.iinc 3 1, 3) := by decide +kernel
theorem dX1_longestWay_154 : decode cX1_longestWay 154 = .ok (.aload_n 0, 1) := by decide +kernel
theorem dX1_longestWay_155 : decode cX1_longestWay 155 = .ok (.iload 7, 2) := by decide +kernel
theorem dX1_longestWay_157 : decode cX1_longestWay 157 = .ok (.iload_n 3, 1) := by decide +kernel
theorem dX1_longestWay_158 : decode cX1_longestWay 158 = .ok (.invokevirtual 74, 3) := by decide +kernel
theorem dX1_longestWay_161 : decode cX1_longestWay 161 = .ok (.goto 45, 3) := by decide +kernel
theorem dX1_longestWay_164 : decode cX1_longestWay 164 = .ok (.aload_n 0, 1) := by decide +kernel
theorem dX1_longestWay_165 : decode cX1_longestWay 165 = .ok (.getfield 21, 3) := by decide +kernel
theorem dX1_longestWay_168 : decode cX1_longestWay 168 = .ok (.iload 7, 2) := by decide +kernel
theorem dX1_longestWay_170 : decode cX1_longestWay 170 = .ok (.iaload, 1) := by decide +kernel
theorem dX1_longestWay_171 : decode cX1_longestWay 171 = .ok (.iload_n 1, 1) := by decide +kernel
theorem dX1_longestWay_172 : decode cX1_longestWay 172 = .ok (.if_icmp .ne 32, 3) := by decide +kernel
theorem dX1_longestWay_175 : decode cX1_longestWay 175 = .ok (.aload_n 0, 1) := by decide +kernel
theorem dX1_longestWay_176 : decode cX1_longestWay 176 = .ok (.getfield 18, 3) := by decide +kernel
theorem dX1_longestWay_179 : decode cX1_longestWay 179 = .ok (.iload 5, 2) := by decide +kernel
theorem dX1_longestWay_181 : decode cX1_longestWay 181 = .ok (.aload_n 0, 1) := by decide +kernel
theorem dX1_longestWay_182 : decode cX1_longestWay 182 = .ok (.getfield 18, 3) := by decide +kernel
theorem dX1_longestWay_185 : decode cX1_longestWay 185 = .ok (.iload 5, 2) := by decide +kernel
theorem dX1_longestWay_187 : decode cX1_longestWay 187 = .ok (.iaload, 1) := by decide +kernel
theorem dX1_longestWay_188 : decode cX1_longestWay 188 = .ok (.aload_n 0, 1) := by decide +kernel
theorem dX1_longestWay_189 : decode cX1_longestWay 189 = .ok (.getfield 18, 3) := by decide +kernel
theorem dX1_longestWay_192 : decode cX1_longestWay 192 = .ok (.iload 7, 2) := by decide +kernel
theorem dX1_longestWay_194 : decode cX1_longestWay 194 = .ok (.iaload, 1) := by decide +kernel
theorem dX1_longestWay_195 : decode cX1_longestWay 195 = .ok (.iconst 1, 1) := by decide +kernel
theorem dX1_longestWay_196 : decode cX1_longestWay 196 = .ok (.iadd, 1) := by decide +kernel
theorem dX1_longestWay_197 : decode cX1_longestWay 197 = .ok (.invokestatic 79, 3) := by decide +kernel
theorem dX1_longestWay_200 : decode cX1_longestWay 200 = .ok (.iastore, 1) := by decide +kernel
theorem dX1_longestWay_201 : decode cX1_longestWay 201 = .ok (.goto 5, 3) := by decide +kernel
theorem dX1_longestWay_204 : decode cX1_longestWay 204 = .ok (.iconst (-1), 1) := by decide +kernel
theorem dX1_longestWay_205 : decode cX1_longestWay 205 = .ok (.ireturn, 1) := by decide +kernel
theorem dX1_longestWay_206 : decode cX1_longestWay 206 = .ok (.iinc 4 1, 3) := by decide +kernel
theorem dX1_longestWay_209 : decode cX1_longestWay 209 = .ok (.goto (-175), 3) := by decide +kernel
theorem dX1_longestWay_212 : decode cX1_longestWay 212 = .ok (.aload_n 0, 1) := by decide +kernel
theorem dX1_longestWay_213 : decode cX1_longestWay 213 = .ok (.getfield 18, 3) := by decide +kernel
theorem dX1_longestWay_216 : decode cX1_longestWay 216 = .ok (.iload_n 2, 1) := by decide +kernel
theorem dX1_longestWay_217 : decode cX1_longestWay 217 = .ok (.iaload, 1) := by decide +kernel
theorem dX1_longestWay_218 : decode cX1_longestWay 218 = .ok (.ireturn, 1) := by decide +kernel
theorem dX1_enter_0 : decode cX1_enter 0 = .ok (.aload_n 0, 1) := by decide +kernel
theorem dX1_enter_1 : decode cX1_enter 1 = .ok (.getfield 24, 3) := by decide +kernel
theorem dX1_enter_4 : decode cX1_enter 4 = .ok (.iload_n 2, 1) := by decide +kernel
theorem dX1_enter_5 : decode cX1_enter 5 = .ok (.iload_n 1, 1) := by decide +kernel
theorem dX1_enter_6 : decode cX1_enter 6 = .ok (.iastore, 1) := by decide +kernel
theorem dX1_enter_7 : decode cX1_enter 7 = .ok (.aload_n 0, 1) := by decide +kernel
theorem dX1_enter_8 : decode cX1_enter 8 = .ok (.getfield 21, 3) := by decide +kernel
theorem dX1_enter_11 : decode cX1_enter 11 = .ok (.iload_n 1, 1) := by decide +kernel
theorem dX1_enter_12 : decode cX1_enter 12 = .ok (.iconst 0, 1) := by decide +kernel
theorem dX1_enter_13 : decode cX1_enter 13 = .ok (.iastore, 1) := by decide +kernel
theorem dX1_enter_14 : decode cX1_enter 14 = .ok (.aload_n 0, 1) := by decide +kernel
theorem dX1_enter_15 : decode cX1_enter 15 = .ok (.getfield 18, 3) := by decide +kernel
theorem dX1_enter_18 : decode cX1_enter 18 = .ok (.iload_n 1, 1) := by decide +kernel
theorem dX1_enter_19 : decode cX1_enter 19 = .ok (.iconst 0, 1) := by decide +kernel
theorem dX1_enter_20 : decode cX1_enter 20 = .ok (.iastore, 1) := by decide +kernel
theorem dX1_enter_21 : decode cX1_enter 21 = .ok (.return_, 1) := by decide +kernel
theorem dX1_shortestWay_0 : decode cX1_shortestWay 0 = .ok (.aload_n 0, 1) := by decide +kernel
theorem dX1_shortestWay_1 : decode cX1_shortestWay 1 = .ok (.getfield 18, 3) := by decide +kernel
theorem dX1_shortestWay_4 : decode cX1_shortestWay 4 = .ok (.iconst (-1), 1) := by decide +kernel
theorem dX1_shortestWay_5 : decode cX1_shortestWay 5 = .ok (.invokestatic 31, 3) := by decide +kernel
theorem dX1_shortestWay_8 : decode cX1_shortestWay 8 = .ok (.iconst 1, 1) := by decide +kernel
theorem dX1_shortestWay_9 : decode cX1_shortestWay 9 = .ok (.istore_n 1, 1) := by decide +kernel
theorem dX1_shortestWay_10 : decode cX1_shortestWay 10 = .ok (.aload_n 0, 1) := by decide +kernel
theorem dX1_shortestWay_11 : decode cX1_shortestWay 11 = .ok (.getfield 24, 3) := by decide +kernel
theorem dX1_shortestWay_14 : decode cX1_shortestWay 14 = .ok (.iconst 0, 1) := by decide +kernel
theorem dX1_shortestWay_15 : decode cX1_shortestWay 15 = .ok (.aload_n 0, 1) := by decide +kernel
theorem dX1_shortestWay_16 : decode cX1_shortestWay 16 = .ok (.invokevirtual 71, 3) := by decide +kernel
theorem dX1_shortestWay_19 : decode cX1_shortestWay 19 = .ok (.iastore, 1) := by decide +kernel
theorem dX1_shortestWay_20 : decode cX1_shortestWay 20 = .ok (.aload_n 0, 1) := by decide +kernel
theorem dX1_shortestWay_21 : decode cX1_shortestWay 21 = .ok (.getfield 18, 3) := by decide +kernel
theorem dX1_shortestWay_24 : decode cX1_shortestWay 24 = .ok (.aload_n 0, 1) := by decide +kernel
theorem dX1_shortestWay_25 : decode cX1_shortestWay 25 = .ok (.getfield 24, 3) := by decide +kernel
theorem dX1_shortestWay_28 : decode cX1_shortestWay 28 = .ok (.iconst 0, 1) := by decide +kernel
theorem dX1_shortestWay_29 : decode cX1_shortestWay 29 = .ok (.iaload, 1) := by decide +kernel
theorem dX1_shortestWay_30 : decode cX1_shortestWay 30 = .ok (.iconst 0, 1) := by decide +kernel
theorem dX1_shortestWay_31 : decode cX1_shortestWay 31 = .ok (.iastore, 1) := by decide +kernel
theorem dX1_shortestWay_32 : decode cX1_shortestWay 32 = .ok (.iconst 0, 1) := by decide +kernel
theorem dX1_shortestWay_33 : decode cX1_shortestWay 33 = .ok (.istore_n 2, 1) := by decide +kernel
theorem dX1_shortestWay_34 : decode cX1_shortestWay 34 = .ok (.iload_n 2, 1) := by decide +kernel
theorem dX1_shortestWay_35 : decode cX1_shortestWay 35 = .ok (.iload_n 1, 1) := by decide +kernel
theorem dX1_shortestWay_36 : decode cX1_shortestWay 36 = .ok (.if_icmp .ge 130, 3) := by decide +kernel
theorem dX1_shortestWay_39 : decode cX1_shortestWay 39 = .ok (.iload_n 2, 1) := by decide +kernel
theorem dX1_shortestWay_40 : decode cX1_shortestWay 40 = .ok (.sipush 3125, 3) := by decide +kernel
theorem dX1_shortestWay_43 : decode cX1_shortestWay 43 = .ok (.if_icmp .ge 123, 3) := by decide +kernel
theorem dX1_shortestWay_46 : decode cX1_shortestWay 46 = .ok (.aload_n 0, 1) := by decide +kernel
theorem dX1_shortestWay_47 : decode cX1_shortestWay 47 = .ok (.getfield 24, 3) := by decide +kernel
theorem dX1_shortestWay_50 : decode cX1_shortestWay 50 = .ok (.iload_n 2, 1) := by decide +kernel
theorem dX1_shortestWay_51 : decode cX1_shortestWay 51 = .ok (.iaload, 1) := by decide +kernel
theorem dX1_shortestWay_52 : decode cX1_shortestWay 52 = .ok (.istore_n 3, 1) := by decide +kernel
theorem dX1_shortestWay_53 : decode cX1_shortestWay 53 = .ok (.iconst 1, 1) := by decide +kernel
theorem dX1_shortestWay_54 : decode cX1_shortestWay 54 = .ok (.istore 4, 2) := by decide +kernel
theorem dX1_shortestWay_56 : decode cX1_shortestWay 56 = .ok (.iconst 0, 1) := by decide +kernel
theorem dX1_shortestWay_57 : decode cX1_shortestWay 57 = .ok (.istore 5, 2) := by decide +kernel
theorem dX1_shortestWay_59 : decode cX1_shortestWay 59 = .ok (.iload 5, 2) := by decide +kernel
theorem dX1_shortestWay_61 : decode cX1_shortestWay 61 = .ok (.aload_n 0, 1) := by decide +kernel
theorem dX1_shortestWay_62 : decode cX1_shortestWay 62 = .ok (.getfield 27, 3) := by decide +kernel
theorem dX1_shortestWay_65 : decode cX1_shortestWay 65 = .ok (.getfield 41, 3) := by decide +kernel
theorem dX1_shortestWay_68 : decode cX1_shortestWay 68 = .ok (.if_icmp .ge 80, 3) := by decide +kernel
theorem dX1_shortestWay_71 : decode cX1_shortestWay 71 = .ok (.aload_n 0, 1) := by decide +kernel
theorem dX1_shortestWay_72 : decode cX1_shortestWay 72 = .ok (.iload_n 3, 1) := by decide +kernel
theorem dX1_shortestWay_73 : decode cX1_shortestWay 73 = .ok (.iload 5, 2) := by decide +kernel
theorem dX1_shortestWay_75 : decode cX1_shortestWay 75 = .ok (.invokevirtual 82, 3) := by decide +kernel
theorem dX1_shortestWay_78 : decode cX1_shortestWay 78 = .ok (.istore 6, 2) := by decide +kernel
theorem dX1_shortestWay_80 : decode cX1_shortestWay 80 = .ok (.iload 4, 2) := by decide +kernel
theorem dX1_shortestWay_82 : decode cX1_shortestWay 82 = .ok (.ifCond .eq 13, 3) := by decide +kernel
theorem dX1_shortestWay_85 : decode cX1_shortestWay 85 = .ok (.iload 6, 2) := by decide +kernel
theorem dX1_shortestWay_87 : decode cX1_shortestWay 87 = .ok (.iload_n 3, 1) := by decide +kernel
theorem dX1_shortestWay_88 : decode cX1_shortestWay 88 = .ok (.if_icmp .ne 7, 3) := by decide +kernel
theorem dX1_shortestWay_91 : decode cX1_shortestWay 91 = .ok (.iconst 1, 1) := by decide +kernel
theorem dX1_shortestWay_92 : decode cX1_shortestWay 92 = .ok (.goto 4, 3) := by decide +kernel
theorem dX1_shortestWay_95 : decode cX1_shortestWay 95 = .ok (.iconst 0, 1) := by decide +kernel
theorem dX1_shortestWay_96 : decode cX1_shortestWay 96 = .ok (.istore 4, 2) := by decide +kernel
theorem dX1_shortestWay_98 : decode cX1_shortestWay 98 = .ok (.aload_n 0, 1) := by decide +kernel
theorem dX1_shortestWay_99 : decode cX1_shortestWay 99 = .ok (.getfield 18, 3) := by decide +kernel
theorem dX1_shortestWay_102 : decode cX1_shortestWay 102 = .ok (.iload 6, 2) := by decide +kernel
theorem dX1_shortestWay_104 : decode cX1_shortestWay 104 = .ok (.iaload, 1) := by decide +kernel
theorem dX1_shortestWay_105 : decode cX1_shortestWay 105 = .ok (.iconst (-1), 1) := by decide +kernel
theorem dX1_shortestWay_106 : decode cX1_shortestWay 106 = .ok (.if_icmp .ne 36, 3) := by decide +kernel
theorem dX1_shortestWay_109 : decode cX1_shortestWay 109 = .ok (.iload_n 1, 1) := by decide +kernel
theorem dX1_shortestWay_110 : decode cX1_shortestWay 110 = .ok (.sipush 3125, 3) := by decide +kernel
theorem dX1_shortestWay_113 : decode cX1_shortestWay 113 = .ok (.if_icmp .ge 29, 3) := by decide +kernel
theorem dX1_shortestWay_116 : decode cX1_shortestWay 116 = .ok (.aload_n 0, 1) := by decide +kernel
theorem dX1_shortestWay_117 : decode cX1_shortestWay 117 = .ok (.getfield 18, 3) := by decide +kernel
theorem dX1_shortestWay_120 : decode cX1_shortestWay 120 = .ok (.iload 6, 2) := by decide +kernel
theorem dX1_shortestWay_122 : decode cX1_shortestWay 122 = .ok (.aload_n 0, 1) := by decide +kernel
theorem dX1_shortestWay_123 : decode cX1_shortestWay 123 = .ok (.getfield 18, 3) := by decide +kernel
theorem dX1_shortestWay_126 : decode cX1_shortestWay 126 = .ok (.iload_n 3, 1) := by decide +kernel
theorem dX1_shortestWay_127 : decode cX1_shortestWay 127 = .ok (.iaload, 1) := by decide +kernel
theorem dX1_shortestWay_128 : decode cX1_shortestWay 128 = .ok (.iconst 1, 1) := by decide +kernel
theorem dX1_shortestWay_129 : decode cX1_shortestWay 129 = .ok (.iadd, 1) := by decide +kernel
theorem dX1_shortestWay_130 : decode cX1_shortestWay 130 = .ok (.iastore, 1) := by decide +kernel
theorem dX1_shortestWay_131 : decode cX1_shortestWay 131 = .ok (.aload_n 0, 1) := by decide +kernel
theorem dX1_shortestWay_132 : decode cX1_shortestWay 132 = .ok (.getfield 24, 3) := by decide +kernel
theorem dX1_shortestWay_135 : decode cX1_shortestWay 135 = .ok (.iload_n 1, 1) := by decide +kernel
theorem dX1_shortestWay_136 : decode cX1_shortestWay 136 = .ok (.iload 6, 2) := by decide +kernel
theorem dX1_shortestWay_138 : decode cX1_shortestWay 138 = .ok (.iastore, 1) := by decide +kernel
theorem dX1_shortestWay_139 : decode cX1_shortestWay 139 = .ok (.iinc 1 1, 3) := by decide +kernel
theorem dX1_shortestWay_142 : decode cX1_shortestWay 142 = .ok (.iinc 5 1, 3) := by decide +kernel
theorem dX1_shortestWay_145 : decode cX1_shortestWay 145 = .ok (.goto (-86), 3) := by decide +kernel
theorem dX1_shortestWay_148 : decode cX1_shortestWay 148 = .ok (.iload 4, 2) := by decide +kernel
theorem dX1_shortestWay_150 : decode cX1_shortestWay 150 = .ok (.ifCond .eq 10, 3) := by decide +kernel
theorem dX1_shortestWay_153 : decode cX1_shortestWay 153 = .ok (.aload_n 0, 1) := by decide +kernel
theorem dX1_shortestWay_154 : decode cX1_shortestWay 154 = .ok (.getfield 18, 3) := by decide +kernel
theorem dX1_shortestWay_157 : decode cX1_shortestWay 157 = .ok (.iload_n 3, 1) := by decide +kernel
theorem dX1_shortestWay_158 : decode cX1_shortestWay 158 = .ok (.iaload, 1) := by decide +kernel
theorem dX1_shortestWay_159 : decode cX1_shortestWay 159 = .ok (.ireturn, 1) := by decide +kernel
theorem dX1_shortestWay_160 : decode cX1_shortestWay 160 = .ok (.iinc 2 1, 3) := by decide +kernel
theorem dX1_shortestWay_163 : decode cX1_shortestWay 163 = .ok (.goto (-129), 3) := by decide +kernel
theorem dX1_shortestWay_166 : decode cX1_shortestWay 166 = .ok (.iconst (-1), 1) := by decide +kernel
theorem dX1_shortestWay_167 : decode cX1_shortestWay 167 = .ok (.ireturn, 1) := by decide +kernel
theorem dX2_init_0 : decode cX2_init 0 = .ok (.aload_n 0, 1) := by decide +kernel
theorem dX2_init_1 : decode cX2_init 1 = .ok (.invokespecial 3, 3) := by decide +kernel
theorem dX2_init_4 : decode cX2_init 4 = .ok (.aload_n 0, 1) := by decide +kernel
theorem dX2_init_5 : decode cX2_init 5 = .ok (.bipush 8, 2) := by decide +kernel
theorem dX2_init_7 : decode cX2_init 7 = .ok (.newarray .int, 2) := by decide +kernel
theorem dX2_init_9 : decode cX2_init 9 = .ok (.putfield 9, 3) := by decide +kernel
theorem dX2_init_12 : decode cX2_init 12 = .ok (.aload_n 0, 1) := by decide +kernel
theorem dX2_init_13 : decode cX2_init 13 = .ok (.bipush 8, 2) := by decide +kernel
theorem dX2_init_15 : decode cX2_init 15 = .ok (.newarray .int, 2) := by decide +kernel
theorem dX2_init_17 : decode cX2_init 17 = .ok (.putfield 15, 3) := by decide +kernel
theorem dX2_init_20 : decode cX2_init 20 = .ok (.aload_n 0, 1) := by decide +kernel
theorem dX2_init_21 : decode cX2_init 21 = .ok (.bipush 8, 2) := by decide +kernel
theorem dX2_init_23 : decode cX2_init 23 = .ok (.newarray .int, 2) := by decide +kernel
theorem dX2_init_25 : decode cX2_init 25 = .ok (.putfield 18, 3) := by decide +kernel
theorem dX2_init_28 : decode cX2_init 28 = .ok (.aload_n 0, 1) := by decide +kernel
theorem dX2_init_29 : decode cX2_init 29 = .ok (.iconst 1, 1) := by decide +kernel
theorem dX2_init_30 : decode cX2_init 30 = .ok (.putfield 21, 3) := by decide +kernel
theorem dX2_init_33 : decode cX2_init 33 = .ok (.return_, 1) := by decide +kernel
theorem dX2_clear_0 : decode cX2_clear 0 = .ok (.aload_n 0, 1) := by decide +kernel
theorem dX2_clear_1 : decode cX2_clear 1 = .ok (.iload_n 1, 1) := by decide +kernel
theorem dX2_clear_2 : decode cX2_clear 2 = .ok (.putfield 21, 3) := by decide +kernel
theorem dX2_clear_5 : decode cX2_clear 5 = .ok (.aload_n 0, 1) := by decide +kernel
theorem dX2_clear_6 : decode cX2_clear 6 = .ok (.getfield 9, 3) := by decide +kernel
theorem dX2_clear_9 : decode cX2_clear 9 = .ok (.iconst 0, 1) := by decide +kernel
theorem dX2_clear_10 : decode cX2_clear 10 = .ok (.invokestatic 25, 3) := by decide +kernel
theorem dX2_clear_13 : decode cX2_clear 13 = .ok (.aload_n 0, 1) := by decide +kernel
theorem dX2_clear_14 : decode cX2_clear 14 = .ok (.getfield 15, 3) := by decide +kernel
theorem dX2_clear_17 : decode cX2_clear 17 = .ok (.iconst 0, 1) := by decide +kernel
theorem dX2_clear_18 : decode cX2_clear 18 = .ok (.invokestatic 25, 3) := by decide +kernel
theorem dX2_clear_21 : decode cX2_clear 21 = .ok (.return_, 1) := by decide +kernel
theorem dX2_has_0 : decode cX2_has 0 = .ok (.iload_n 1, 1) := by decide +kernel
theorem dX2_has_1 : decode cX2_has 1 = .ok (.ifCond .lt 15, 3) := by decide +kernel
theorem dX2_has_4 : decode cX2_has 4 = .ok (.iload_n 1, 1) := by decide +kernel
theorem dX2_has_5 : decode cX2_has 5 = .ok (.aload_n 0, 1) := by decide +kernel
theorem dX2_has_6 : decode cX2_has 6 = .ok (.getfield 21, 3) := by decide +kernel
theorem dX2_has_9 : decode cX2_has 9 = .ok (.if_icmp .ge 7, 3) := by decide +kernel
theorem dX2_has_12 : decode cX2_has 12 = .ok (.iconst 1, 1) := by decide +kernel
theorem dX2_has_13 : decode cX2_has 13 = .ok (.goto 4, 3) := by decide +kernel
theorem dX2_has_16 : decode cX2_has 16 = .ok (.iconst 0, 1) := by decide +kernel
theorem dX2_has_17 : decode cX2_has 17 = .ok (.ireturn, 1) := by decide +kernel
theorem dX2_joined_0 : decode cX2_joined 0 = .ok (.aload_n 0, 1) := by decide +kernel
theorem dX2_joined_1 : decode cX2_joined 1 = .ok (.getfield 9, 3) := by decide +kernel
theorem dX2_joined_4 : decode cX2_joined 4 = .ok (.iload_n 1, 1) := by decide +kernel
theorem dX2_joined_5 : decode cX2_joined 5 = .ok (.iaload, 1) := by decide +kernel
theorem dX2_joined_6 : decode cX2_joined 6 = .ok (.iload_n 2, 1) := by decide +kernel
theorem dX2_joined_7 : decode cX2_joined 7 = .ok (.ishr, 1) := by decide +kernel
theorem dX2_joined_8 : decode cX2_joined 8 = .ok (.iconst 1, 1) := by decide +kernel
theorem dX2_joined_9 : decode cX2_joined 9 = .ok (.iand, 1) := by decide +kernel
theorem dX2_joined_10 : decode cX2_joined 10 = .ok (.ireturn, 1) := by decide +kernel
theorem dX2_join_0 : decode cX2_join 0 = .ok (.iload_n 3, 1) := by decide +kernel
theorem dX2_join_1 : decode cX2_join 1 = .ok (.ifCond .eq 30, 3) := by decide +kernel
theorem dX2_join_4 : decode cX2_join 4 = .ok (.aload_n 0, 1) := by decide +kernel
theorem dX2_join_5 : decode cX2_join 5 = .ok (.getfield 9, 3) := by decide +kernel
theorem dX2_join_8 : decode cX2_join 8 = .ok (.iload_n 1, 1) := by decide +kernel
theorem dX2_join_9 : decode cX2_join 9 = .ok (.dup2, 1) := by decide +kernel
theorem dX2_join_10 : decode cX2_join 10 = .ok (.iaload, 1) := by decide +kernel
theorem dX2_join_11 : decode cX2_join 11 = .ok (.iconst 1, 1) := by decide +kernel
theorem dX2_join_12 : decode cX2_join 12 = .ok (.iload_n 2, 1) := by decide +kernel
theorem dX2_join_13 : decode cX2_join 13 = .ok (.ishl, 1) := by decide +kernel
theorem dX2_join_14 : decode cX2_join 14 = .ok (.ior, 1) := by decide +kernel
theorem dX2_join_15 : decode cX2_join 15 = .ok (.iastore, 1) := by decide +kernel
theorem dX2_join_16 : decode cX2_join 16 = .ok (.aload_n 0, 1) := by decide +kernel
theorem dX2_join_17 : decode cX2_join 17 = .ok (.getfield 9, 3) := by decide +kernel
theorem dX2_join_20 : decode cX2_join 20 = .ok (.iload_n 2, 1) := by decide +kernel
theorem dX2_join_21 : decode cX2_join 21 = .ok (.dup2, 1) := by decide +kernel
theorem dX2_join_22 : decode cX2_join 22 = .ok (.iaload, 1) := by decide +kernel
theorem dX2_join_23 : decode cX2_join 23 = .ok (.iconst 1, 1) := by decide +kernel
theorem dX2_join_24 : decode cX2_join 24 = .ok (.iload_n 1, 1) := by decide +kernel
theorem dX2_join_25 : decode cX2_join 25 = .ok (.ishl, 1) := by decide +kernel
theorem dX2_join_26 : decode cX2_join 26 = .ok (.ior, 1) := by decide +kernel
theorem dX2_join_27 : decode cX2_join 27 = .ok (.iastore, 1) := by decide +kernel
theorem dX2_join_28 : decode cX2_join 28 = .ok (.goto 31, 3) := by decide +kernel
theorem dX2_join_31 : decode cX2_join 31 = .ok (.aload_n 0, 1) := by decide +kernel
theorem dX2_join_32 : decode cX2_join 32 = .ok (.getfield 9, 3) := by decide +kernel
theorem dX2_join_35 : decode cX2_join 35 = .ok (.iload_n 1, 1) := by decide +kernel
theorem dX2_join_36 : decode cX2_join 36 = .ok (.dup2, 1) := by decide +kernel
theorem dX2_join_37 : decode cX2_join 37 = .ok (.iaload, 1) := by decide +kernel
theorem dX2_join_38 : decode cX2_join 38 = .ok (.iconst 1, 1) := by decide +kernel
theorem dX2_join_39 : decode cX2_join 39 = .ok (.iload_n 2, 1) := by decide +kernel
theorem dX2_join_40 : decode cX2_join 40 = .ok (.ishl, 1) := by decide +kernel
theorem dX2_join_41 : decode cX2_join 41 = .ok (.iconst (-1), 1) := by decide +kernel
theorem dX2_join_42 : decode cX2_join 42 = .ok (.ixor, 1) := by decide +kernel
theorem dX2_join_43 : decode cX2_join 43 = .ok (.iand, 1) := by decide +kernel
theorem dX2_join_44 : decode cX2_join 44 = .ok (.iastore, 1) := by decide +kernel
theorem dX2_join_45 : decode cX2_join 45 = .ok (.aload_n 0, 1) := by decide +kernel
theorem dX2_join_46 : decode cX2_join 46 = .ok (.getfield 9, 3) := by decide +kernel
theorem dX2_join_49 : decode cX2_join 49 = .ok (.iload_n 2, 1) := by decide +kernel
theorem dX2_join_50 : decode cX2_join 50 = .ok (.dup2, 1) := by decide +kernel
theorem dX2_join_51 : decode cX2_join 51 = .ok (.iaload, 1) := by decide +kernel
theorem dX2_join_52 : decode cX2_join 52 = .ok (.iconst 1, 1) := by decide +kernel
theorem dX2_join_53 : decode cX2_join 53 = .ok (.iload_n 1, 1) := by decide +kernel
theorem dX2_join_54 : decode cX2_join 54 = .ok (.ishl, 1) := by decide +kernel
theorem dX2_join_55 : decode cX2_join 55 = .ok (.iconst (-1), 1) := by decide +kernel
theorem dX2_join_56 : decode cX2_join 56 = .ok (.ixor, 1) := by decide +kernel
theorem dX2_join_57 : decode cX2_join 57 = .ok (.iand, 1) := by decide +kernel
theorem dX2_join_58 : decode cX2_join 58 = .ok (.iastore, 1) := by decide +kernel
theorem dX2_join_59 : decode cX2_join 59 = .ok (.return_, 1) := by decide +kernel
theorem dX2_lineCount_0 : decode cX2_lineCount 0 = .ok (.iconst 0, 1) := by decide +kernel
theorem dX2_lineCount_1 : decode cX2_lineCount 1 = .ok (.istore_n 1, 1) := by decide +kernel
theorem dX2_lineCount_2 : decode cX2_lineCount 2 = .ok (.iconst 0, 1) := by decide +kernel
theorem dX2_lineCount_3 : decode cX2_lineCount 3 = .ok (.istore_n 2, 1) := by decide +kernel
theorem dX2_lineCount_4 : decode cX2_lineCount 4 = .ok (.iload_n 2, 1) := by decide +kernel
theorem dX2_lineCount_5 : decode cX2_lineCount 5 = .ok (.aload_n 0, 1) := by decide +kernel
theorem dX2_lineCount_6 : decode cX2_lineCount 6 = .ok (.getfield 21, 3) := by decide +kernel
theorem dX2_lineCount_9 : decode cX2_lineCount 9 = .ok (.if_icmp .ge 21, 3) := by decide +kernel
theorem dX2_lineCount_12 : decode cX2_lineCount 12 = .ok (.iload_n 1, 1) := by decide +kernel
theorem dX2_lineCount_13 : decode cX2_lineCount 13 = .ok (.aload_n 0, 1) := by decide +kernel
theorem dX2_lineCount_14 : decode cX2_lineCount 14 = .ok (.getfield 9, 3) := by decide +kernel
theorem dX2_lineCount_17 : decode cX2_lineCount 17 = .ok (.iload_n 2, 1) := by decide +kernel
theorem dX2_lineCount_18 : decode cX2_lineCount 18 = .ok (.iaload, 1) := by decide +kernel
theorem dX2_lineCount_19 : decode cX2_lineCount 19 = .ok (.invokestatic 31, 3) := by decide +kernel
theorem dX2_lineCount_22 : decode cX2_lineCount 22 = .ok (.iadd, 1) := by decide +kernel
theorem dX2_lineCount_23 : decode cX2_lineCount 23 = .ok (.istore_n 1, 1) := by decide +kernel
theorem dX2_lineCount_24 : decode cX2_lineCount 24 = .ok (.iinc 2 1, 3) := by decide +kernel
theorem dX2_lineCount_27 : decode cX2_lineCount 27 = .ok (.goto (-23), 3) := by decide +kernel
theorem dX2_lineCount_30 : decode cX2_lineCount 30 = .ok (.iload_n 1, 1) := by decide +kernel
theorem dX2_lineCount_31 : decode cX2_lineCount 31 = .ok (.iconst 2, 1) := by decide +kernel
theorem dX2_lineCount_32 : decode cX2_lineCount 32 = .ok (.idiv, 1) := by decide +kernel
theorem dX2_lineCount_33 : decode cX2_lineCount 33 = .ok (.ireturn, 1) := by decide +kernel
theorem dX2_leaders_0 : decode cX2_leaders 0 = .ok (.iconst 0, 1) := by decide +kernel
theorem dX2_leaders_1 : decode cX2_leaders 1 = .ok (.istore_n 1, 1) := by decide +kernel
theorem dX2_leaders_2 : decode cX2_leaders 2 = .ok (.iconst 0, 1) := by decide +kernel
theorem dX2_leaders_3 : decode cX2_leaders 3 = .ok (.istore_n 2, 1) := by decide +kernel
theorem dX2_leaders_4 : decode cX2_leaders 4 = .ok (.iload_n 2, 1) := by decide +kernel
theorem dX2_leaders_5 : decode cX2_leaders 5 = .ok (.aload_n 0, 1) := by decide +kernel
theorem dX2_leaders_6 : decode cX2_leaders 6 = .ok (.getfield 21, 3) := by decide +kernel
theorem dX2_leaders_9 : decode cX2_leaders 9 = .ok (.if_icmp .ge 25, 3) := by decide +kernel
theorem dX2_leaders_12 : decode cX2_leaders 12 = .ok (.aload_n 0, 1) := by decide +kernel
theorem dX2_leaders_13 : decode cX2_leaders 13 = .ok (.getfield 15, 3) := by decide +kernel
theorem dX2_leaders_16 : decode cX2_leaders 16 = .ok (.iload_n 2, 1) := by decide +kernel
theorem dX2_leaders_17 : decode cX2_leaders 17 = .ok (.iaload, 1) := by decide +kernel
theorem dX2_leaders_18 : decode cX2_leaders 18 = .ok (.iconst 1, 1) := by decide +kernel
theorem dX2_leaders_19 : decode cX2_leaders 19 = .ok (.if_icmp .ne 9, 3) := by decide +kernel
theorem dX2_leaders_22 : decode cX2_leaders 22 = .ok (.iload_n 1, 1) := by decide +kernel
theorem dX2_leaders_23 : decode cX2_leaders 23 = .ok (.iconst 1, 1) := by decide +kernel
theorem dX2_leaders_24 : decode cX2_leaders 24 = .ok (.iload_n 2, 1) := by decide +kernel
theorem dX2_leaders_25 : decode cX2_leaders 25 = .ok (.ishl, 1) := by decide +kernel
theorem dX2_leaders_26 : decode cX2_leaders 26 = .ok (.ior, 1) := by decide +kernel
theorem dX2_leaders_27 : decode cX2_leaders 27 = .ok (.istore_n 1, 1) := by decide +kernel
theorem dX2_leaders_28 : decode cX2_leaders 28 = .ok (.iinc 2 1, 3) := by decide +kernel
theorem dX2_leaders_31 : decode cX2_leaders 31 = .ok (.goto (-27), 3) := by decide +kernel
theorem dX2_leaders_34 : decode cX2_leaders 34 = .ok (.iload_n 1, 1) := by decide +kernel
theorem dX2_leaders_35 : decode cX2_leaders 35 = .ok (.ireturn, 1) := by decide +kernel
theorem dX2_measure_0 : decode cX2_measure 0 = .ok (.aload_n 0, 1) := by decide +kernel
theorem dX2_measure_1 : decode cX2_measure 1 = .ok (.getfield 18, 3) := by decide +kernel
theorem dX2_measure_4 : decode cX2_measure 4 = .ok (.iconst (-1), 1) := by decide +kernel
theorem dX2_measure_5 : decode cX2_measure 5 = .ok (.invokestatic 25, 3) := by decide +kernel
theorem dX2_measure_8 : decode cX2_measure 8 = .ok (.aload_n 0, 1) := by decide +kernel
theorem dX2_measure_9 : decode cX2_measure 9 = .ok (.getfield 18, 3) := by decide +kernel
theorem dX2_measure_12 : decode cX2_measure 12 = .ok (.iload_n 1, 1) := by decide +kernel
theorem dX2_measure_13 : decode cX2_measure 13 = .ok (.iconst 0, 1) := by decide +kernel
theorem dX2_measure_14 : decode cX2_measure 14 = .ok (.iastore, 1) := by decide +kernel
theorem dX2_measure_15 : decode cX2_measure 15 = .ok (.iconst 1, 1) := by decide +kernel
theorem dX2_measure_16 : decode cX2_measure 16 = .ok (.iload_n 1, 1) := by decide +kernel
theorem dX2_measure_17 : decode cX2_measure 17 = .ok (.ishl, 1) := by decide +kernel
theorem dX2_measure_18 : decode cX2_measure 18 = .ok (.istore_n 2, 1) := by decide +kernel
theorem dX2_measure_19 : decode cX2_measure 19 = .ok (.iload_n 2, 1) := by decide +kernel
theorem dX2_measure_20 : decode cX2_measure 20 = .ok (.istore_n 3, 1) := by decide +kernel
theorem dX2_measure_21 : decode cX2_measure 21 = .ok (.iconst 1, 1) := by decide +kernel
theorem dX2_measure_22 : decode cX2_measure 22 = .ok (.istore 4, 2) := by decide +kernel
theorem dX2_measure_24 : decode cX2_measure 24 = .ok (.iload 4, 2) := by decide +kernel
theorem dX2_measure_26 : decode cX2_measure 26 = .ok (.aload_n 0, 1) := by decide +kernel
theorem dX2_measure_27 : decode cX2_measure 27 = .ok (.getfield 21, 3) := by decide +kernel
theorem dX2_measure_30 : decode cX2_measure 30 = .ok (.if_icmp .ge 60, 3) := by decide +kernel
theorem dX2_measure_33 : decode cX2_measure 33 = .ok (.aload_n 0, 1) := by decide +kernel
theorem dX2_measure_34 : decode cX2_measure 34 = .ok (.iload_n 3, 1) := by decide +kernel
theorem dX2_measure_35 : decode cX2_measure 35 = .ok (.invokevirtual 37, 3) := by decide +kernel
theorem dX2_measure_38 : decode cX2_measure 38 = .ok (.iload_n 2, 1) := by decide +kernel
theorem dX2_measure_39 : decode cX2_measure 39 = .ok (.iconst (-1), 1) := by decide +kernel
theorem dX2_measure_40 : decode cX2_measure 40 = .ok (.ixor, 1) := by decide +kernel
theorem dX2_measure_41 : decode cX2_measure 41 = .ok (.iand, 1) := by decide +kernel
theorem dX2_measure_42 : decode cX2_measure 42 = .ok (.istore_n 3, 1) := by decide +kernel
theorem dX2_measure_43 : decode cX2_measure 43 = .ok (.iload_n 2, 1) := by decide +kernel
theorem dX2_measure_44 : decode cX2_measure 44 = .ok (.iload_n 3, 1) := by decide +kernel
theorem dX2_measure_45 : decode cX2_measure 45 = .ok (.ior, 1) := by decide +kernel
theorem dX2_measure_46 : decode cX2_measure 46 = .ok (.istore_n 2, 1) := by decide +kernel
theorem dX2_measure_47 : decode cX2_measure 47 = .ok (.iconst 0, 1) := by decide +kernel
theorem dX2_measure_48 : decode cX2_measure 48 = .ok (.istore 5, 2) := by decide +kernel
theorem dX2_measure_50 : decode cX2_measure 50 = .ok (.iload 5, 2) := by decide +kernel
theorem dX2_measure_52 : decode cX2_measure 52 = .ok (.aload_n 0, 1) := by decide +kernel
theorem dX2_measure_53 : decode cX2_measure 53 = .ok (.getfield 21, 3) := by decide +kernel
theorem dX2_measure_56 : decode cX2_measure 56 = .ok (.if_icmp .ge 28, 3) := by decide +kernel
theorem dX2_measure_59 : decode cX2_measure 59 = .ok (.iload_n 3, 1) := by decide +kernel
theorem dX2_measure_60 : decode cX2_measure 60 = .ok (.iload 5, 2) := by decide +kernel
theorem dX2_measure_62 : decode cX2_measure 62 = .ok (.ishr, 1) := by decide +kernel
theorem dX2_measure_63 : decode cX2_measure 63 = .ok (.iconst 1, 1) := by decide +kernel
theorem dX2_measure_64 : decode cX2_measure 64 = .ok (.iand, 1) := by decide +kernel
theorem dX2_measure_65 : decode cX2_measure 65 = .ok (.iconst 1, 1) := by decide +kernel
theorem dX2_measure_66 : decode cX2_measure 66 = .ok (.if_icmp .ne 12, 3) := by decide +kernel
theorem dX2_measure_69 : decode cX2_measure 69 = .ok (.aload_n 0, 1) := by decide +kernel
theorem dX2_measure_70 : decode cX2_measure 70 = .ok (.getfield 18, 3) := by decide +kernel
theorem dX2_measure_73 : decode cX2_measure 73 = .ok (.iload 5, 2) := by decide +kernel
theorem dX2_measure_75 : decode cX2_measure 75 = .ok (.iload 4, 2) := by decide +kernel
theorem dX2_measure_77 : decode cX2_measure 77 = .ok (.iastore, 1) := by decide +kernel
theorem dX2_measure_78 : decode cX2_measure 78 = .ok (.iinc 5 1, 3) := by decide +kernel
theorem dX2_measure_81 : decode cX2_measure 81 = .ok (.goto (-31), 3) := by decide +kernel
theorem dX2_measure_84 : decode cX2_measure 84 = .ok (.iinc 4 1, 3) := by decide +kernel
theorem dX2_measure_87 : decode cX2_measure 87 = .ok (.goto (-63), 3) := by decide +kernel
theorem dX2_measure_90 : decode cX2_measure 90 = .ok (.iload_n 2, 1) := by decide +kernel
theorem dX2_measure_91 : decode cX2_measure 91 = .ok (.ireturn, 1) := by decide +kernel
theorem dX2_nearAny_0 : decode cX2_nearAny 0 = .ok (.iconst 0, 1) := by decide +kernel
theorem dX2_nearAny_1 : decode cX2_nearAny 1 = .ok (.istore_n 2, 1) := by decide +kernel
theorem dX2_nearAny_2 : decode cX2_nearAny 2 = .ok (.iconst 0, 1) := by decide +kernel
theorem dX2_nearAny_3 : decode cX2_nearAny 3 = .ok (.istore_n 3, 1) := by decide +kernel
theorem dX2_nearAny_4 : decode cX2_nearAny 4 = .ok (.iload_n 3, 1) := by decide +kernel
theorem dX2_nearAny_5 : decode cX2_nearAny 5 = .ok (.aload_n 0, 1) := by decide +kernel
theorem dX2_nearAny_6 : decode cX2_nearAny 6 = .ok (.getfield 21, 3) := by decide +kernel
theorem dX2_nearAny_9 : decode cX2_nearAny 9 = .ok (.if_icmp .ge 27, 3) := by decide +kernel
theorem dX2_nearAny_12 : decode cX2_nearAny 12 = .ok (.iload_n 1, 1) := by decide +kernel
theorem dX2_nearAny_13 : decode cX2_nearAny 13 = .ok (.iload_n 3, 1) := by decide +kernel
theorem dX2_nearAny_14 : decode cX2_nearAny 14 = .ok (.ishr, 1) := by decide +kernel
theorem dX2_nearAny_15 : decode cX2_nearAny 15 = .ok (.iconst 1, 1) := by decide +kernel
theorem dX2_nearAny_16 : decode cX2_nearAny 16 = .ok (.iand, 1) := by decide +kernel
theorem dX2_nearAny_17 : decode cX2_nearAny 17 = .ok (.iconst 1, 1) := by decide +kernel
theorem dX2_nearAny_18 : decode cX2_nearAny 18 = .ok (.if_icmp .ne 12, 3) := by decide +kernel
theorem dX2_nearAny_21 : decode cX2_nearAny 21 = .ok (.iload_n 2, 1) := by decide +kernel
theorem dX2_nearAny_22 : decode cX2_nearAny 22 = .ok (.aload_n 0, 1) := by decide +kernel
theorem dX2_nearAny_23 : decode cX2_nearAny 23 = .ok (.getfield 9, 3) := by decide +kernel
theorem dX2_nearAny_26 : decode cX2_nearAny 26 = .ok (.iload_n 3, 1) := by decide +kernel
theorem dX2_nearAny_27 : decode cX2_nearAny 27 = .ok (.iaload, 1) := by decide +kernel
theorem dX2_nearAny_28 : decode cX2_nearAny 28 = .ok (.ior, 1) := by decide +kernel
theorem dX2_nearAny_29 : decode cX2_nearAny 29 = .ok (.istore_n 2, 1) := by decide +kernel
theorem dX2_nearAny_30 : decode cX2_nearAny 30 = .ok (.iinc 3 1, 3) := by decide +kernel
theorem dX2_nearAny_33 : decode cX2_nearAny 33 = .ok (.goto (-29), 3) := by decide +kernel
theorem dX2_nearAny_36 : decode cX2_nearAny 36 = .ok (.iload_n 2, 1) := by decide +kernel
theorem dX2_nearAny_37 : decode cX2_nearAny 37 = .ok (.ireturn, 1) := by decide +kernel
theorem dX2_setCount_0 : decode cX2_setCount 0 = .ok (.iconst 0, 1) := by decide +kernel
theorem dX2_setCount_1 : decode cX2_setCount 1 = .ok (.istore_n 1, 1) := by decide +kernel
theorem dX2_setCount_2 : decode cX2_setCount 2 = .ok (.iconst 0, 1) := by decide +kernel
theorem dX2_setCount_3 : decode cX2_setCount 3 = .ok (.istore_n 2, 1) := by decide +kernel
theorem dX2_setCount_4 : decode cX2_setCount 4 = .ok (.iload_n 2, 1) := by decide +kernel
theorem dX2_setCount_5 : decode cX2_setCount 5 = .ok (.aload_n 0, 1) := by decide +kernel
theorem dX2_setCount_6 : decode cX2_setCount 6 = .ok (.getfield 21, 3) := by decide +kernel
theorem dX2_setCount_9 : decode cX2_setCount 9 = .ok (.if_icmp .ge 24, 3) := by decide +kernel
theorem dX2_setCount_12 : decode cX2_setCount 12 = .ok (.iload_n 2, 1) := by decide +kernel
theorem dX2_setCount_13 : decode cX2_setCount 13 = .ok (.aload_n 0, 1) := by decide +kernel
theorem dX2_setCount_14 : decode cX2_setCount 14 = .ok (.iload_n 2, 1) := by decide +kernel
theorem dX2_setCount_15 : decode cX2_setCount 15 = .ok (.invokevirtual 40, 3) := by decide +kernel
theorem dX2_setCount_18 : decode cX2_setCount 18 = .ok (.invokestatic 43, 3) := by decide +kernel
theorem dX2_setCount_21 : decode cX2_setCount 21 = .ok (.ifCond .eq 6, 3) := by decide +kernel
theorem dX2_setCount_24 : decode cX2_setCount 24 = .ok (.iinc 1 1, 3) := by decide +kernel
theorem dX2_setCount_27 : decode cX2_setCount 27 = .ok (.iinc 2 1, 3) := by decide +kernel
theorem dX2_setCount_30 : decode cX2_setCount 30 = .ok (.goto (-26), 3) := by decide +kernel
theorem dX2_setCount_33 : decode cX2_setCount 33 = .ok (.iload_n 1, 1) := by decide +kernel
theorem dX2_setCount_34 : decode cX2_setCount 34 = .ok (.ireturn, 1) := by decide +kernel
theorem dX2_isLeast_0 : decode cX2_isLeast 0 = .ok (.iload_n 1, 1) := by decide +kernel
theorem dX2_isLeast_1 : decode cX2_isLeast 1 = .ok (.iconst 1, 1) := by decide +kernel
theorem dX2_isLeast_2 : decode cX2_isLeast 2 = .ok (.iload_n 0, 1) := by decide +kernel
theorem dX2_isLeast_3 : decode cX2_isLeast 3 = .ok (.ishl, 1) := by decide +kernel
theorem dX2_isLeast_4 : decode cX2_isLeast 4 = .ok (.iconst 1, 1) := by decide +kernel
theorem dX2_isLeast_5 : decode cX2_isLeast 5 = .ok (.isub, 1) := by decide +kernel
theorem dX2_isLeast_6 : decode cX2_isLeast 6 = .ok (.iand, 1) := by decide +kernel
theorem dX2_isLeast_7 : decode cX2_isLeast 7 = .ok (.ifCond .ne 7, 3) := by decide +kernel
theorem dX2_isLeast_10 : decode cX2_isLeast 10 = .ok (.iconst 1, 1) := by decide +kernel
theorem dX2_isLeast_11 : decode cX2_isLeast 11 = .ok (.goto 4, 3) := by decide +kernel
theorem dX2_isLeast_14 : decode cX2_isLeast 14 = .ok (.iconst 0, 1) := by decide +kernel
theorem dX2_isLeast_15 : decode cX2_isLeast 15 = .ok (.ireturn, 1) := by decide +kernel
theorem dX3_init_0 : decode cX3_init 0 = .ok (.aload_n 0, 1) := by decide +kernel
theorem dX3_init_1 : decode cX3_init 1 = .ok (.invokespecial 3, 3) := by decide +kernel
theorem dX3_init_4 : decode cX3_init 4 = .ok (.aload_n 0, 1) := by decide +kernel
theorem dX3_init_5 : decode cX3_init 5 = .ok (.bipush 8, 2) := by decide +kernel
theorem dX3_init_7 : decode cX3_init 7 = .ok (.newarray .int, 2) := by decide +kernel
theorem dX3_init_9 : decode cX3_init 9 = .ok (.putfield 9, 3) := by decide +kernel
theorem dX3_init_12 : decode cX3_init 12 = .ok (.aload_n 0, 1) := by decide +kernel
theorem dX3_init_13 : decode cX3_init 13 = .ok (.aload_n 1, 1) := by decide +kernel
theorem dX3_init_14 : decode cX3_init 14 = .ok (.putfield 15, 3) := by decide +kernel
theorem dX3_init_17 : decode cX3_init 17 = .ok (.aload_n 0, 1) := by decide +kernel
theorem dX3_init_18 : decode cX3_init 18 = .ok (.aload_n 2, 1) := by decide +kernel
theorem dX3_init_19 : decode cX3_init 19 = .ok (.putfield 19, 3) := by decide +kernel
theorem dX3_init_22 : decode cX3_init 22 = .ok (.return_, 1) := by decide +kernel
theorem dX3_finds_0 : decode cX3_finds 0 = .ok (.aload_n 0, 1) := by decide +kernel
theorem dX3_finds_1 : decode cX3_finds 1 = .ok (.getfield 9, 3) := by decide +kernel
theorem dX3_finds_4 : decode cX3_finds 4 = .ok (.iconst 0, 1) := by decide +kernel
theorem dX3_finds_5 : decode cX3_finds 5 = .ok (.invokestatic 23, 3) := by decide +kernel
theorem dX3_finds_8 : decode cX3_finds 8 = .ok (.iload_n 1, 1) := by decide +kernel
theorem dX3_finds_9 : decode cX3_finds 9 = .ok (.tableswitch 82 0 3 #[31, 31, 72, 77], 31) := by decide +kernel
theorem dX3_finds_40 : decode cX3_finds 40 = .ok (.aload_n 0, 1) := by decide +kernel
theorem dX3_finds_41 : decode cX3_finds 41 = .ok (.getfield 19, 3) := by decide +kernel
theorem dX3_finds_44 : decode cX3_finds 44 = .ok (.iload_n 1, 1) := by decide +kernel
theorem dX3_finds_45 : decode cX3_finds 45 = .ok (.iconst 3, 1) := by decide +kernel
theorem dX3_finds_46 : decode cX3_finds 46 = .ok (.iconst 0, 1) := by decide +kernel
theorem dX3_finds_47 : decode cX3_finds 47 = .ok (.invokevirtual 29, 3) := by decide +kernel
theorem dX3_finds_50 : decode cX3_finds 50 = .ok (.aload_n 0, 1) := by decide +kernel
theorem dX3_finds_51 : decode cX3_finds 51 = .ok (.getfield 19, 3) := by decide +kernel
theorem dX3_finds_54 : decode cX3_finds 54 = .ok (.getfield 35, 3) := by decide +kernel
theorem dX3_finds_57 : decode cX3_finds 57 = .ok (.iconst 0, 1) := by decide +kernel
theorem dX3_finds_58 : decode cX3_finds 58 = .ok (.aload_n 0, 1) := by decide +kernel
theorem dX3_finds_59 : decode cX3_finds 59 = .ok (.getfield 9, 3) := by decide +kernel
theorem dX3_finds_62 : decode cX3_finds 62 = .ok (.iconst 0, 1) := by decide +kernel
theorem dX3_finds_63 : decode cX3_finds 63 = .ok (.aload_n 0, 1) := by decide +kernel
theorem dX3_finds_64 : decode cX3_finds 64 = .ok (.getfield 15, 3) := by decide +kernel
theorem dX3_finds_67 : decode cX3_finds 67 = .ok (.getfield 36, 3) := by decide +kernel
theorem dX3_finds_70 : decode cX3_finds 70 = .ok (.invokestatic 42, 3) := by decide +kernel
theorem dX3_finds_73 : decode cX3_finds 73 = .ok (.aload_n 0, 1) := by decide +kernel
theorem dX3_finds_74 : decode cX3_finds 74 = .ok (.getfield 19, 3) := by decide +kernel
theorem dX3_finds_77 : decode cX3_finds 77 = .ok (.getfield 48, 3) := by decide +kernel
theorem dX3_finds_80 : decode cX3_finds 80 = .ok (.ireturn, 1) := by decide +kernel
theorem dX3_finds_81 : decode cX3_finds 81 = .ok (.aload_n 0, 1) := by decide +kernel
theorem dX3_finds_82 : decode cX3_finds 82 = .ok (.invokevirtual 52, 3) := by decide +kernel
theorem dX3_finds_85 : decode cX3_finds 85 = .ok (.ireturn, 1) := by decide +kernel
theorem dX3_finds_86 : decode cX3_finds 86 = .ok (.aload_n 0, 1) := by decide +kernel
theorem dX3_finds_87 : decode cX3_finds 87 = .ok (.invokevirtual 56, 3) := by decide +kernel
theorem dX3_finds_90 : decode cX3_finds 90 = .ok (.ireturn, 1) := by decide +kernel
theorem dX3_finds_91 : decode cX3_finds 91 = .ok (.aload_n 0, 1) := by decide +kernel
theorem dX3_finds_92 : decode cX3_finds 92 = .ok (.invokevirtual 59, 3) := by decide +kernel
theorem dX3_finds_95 : decode cX3_finds 95 = .ok (.ireturn, 1) := by decide +kernel
theorem dX3_findsLeaders_0 : decode cX3_findsLeaders 0 = .ok (.aload_n 0, 1) := by decide +kernel
theorem dX3_findsLeaders_1 : decode cX3_findsLeaders 1 = .ok (.getfield 15, 3) := by decide +kernel
theorem dX3_findsLeaders_4 : decode cX3_findsLeaders 4 = .ok (.invokevirtual 62, 3) := by decide +kernel
theorem dX3_findsLeaders_7 : decode cX3_findsLeaders 7 = .ok (.istore_n 1, 1) := by decide +kernel
theorem dX3_findsLeaders_8 : decode cX3_findsLeaders 8 = .ok (.iconst 0, 1) := by decide +kernel
theorem dX3_findsLeaders_9 : decode cX3_findsLeaders 9 = .ok (.istore_n 2, 1) := by decide +kernel
theorem dX3_findsLeaders_10 : decode cX3_findsLeaders 10 = .ok (.iload_n 2, 1) := by decide +kernel
theorem dX3_findsLeaders_11 : decode cX3_findsLeaders 11 = .ok (.aload_n 0, 1) := by decide +kernel
theorem dX3_findsLeaders_12 : decode cX3_findsLeaders 12 = .ok (.getfield 15, 3) := by decide +kernel
theorem dX3_findsLeaders_15 : decode cX3_findsLeaders 15 = .ok (.getfield 36, 3) := by decide +kernel
theorem dX3_findsLeaders_18 : decode cX3_findsLeaders 18 = .ok (.if_icmp .ge 52, 3) := by decide +kernel
theorem dX3_findsLeaders_21 : decode cX3_findsLeaders 21 = .ok (.aload_n 0, 1) := by decide +kernel
theorem dX3_findsLeaders_22 : decode cX3_findsLeaders 22 = .ok (.getfield 15, 3) := by decide +kernel
theorem dX3_findsLeaders_25 : decode cX3_findsLeaders 25 = .ok (.iload_n 2, 1) := by decide +kernel
theorem dX3_findsLeaders_26 : decode cX3_findsLeaders 26 = .ok (.invokevirtual 66, 3) := by decide +kernel
theorem dX3_findsLeaders_29 : decode cX3_findsLeaders 29 = .ok (.istore_n 3, 1) := by decide +kernel
theorem dX3_findsLeaders_30 : decode cX3_findsLeaders 30 = .ok (.iload_n 3, 1) := by decide +kernel
theorem dX3_findsLeaders_31 : decode cX3_findsLeaders 31 = .ok (.iload_n 1, 1) := by decide +kernel
theorem dX3_findsLeaders_32 : decode cX3_findsLeaders 32 = .ok (.iand, 1) := by decide +kernel
theorem dX3_findsLeaders_33 : decode cX3_findsLeaders 33 = .ok (.invokestatic 70, 3) := by decide +kernel
theorem dX3_findsLeaders_36 : decode cX3_findsLeaders 36 = .ok (.iconst 1, 1) := by decide +kernel
theorem dX3_findsLeaders_37 : decode cX3_findsLeaders 37 = .ok (.if_icmp .eq 5, 3) := by decide +kernel
theorem dX3_findsLeaders_40 : decode cX3_findsLeaders 40 = .ok (.iconst 0, 1) := by decide +kernel
theorem dX3_findsLeaders_41 : decode cX3_findsLeaders 41 = .ok (.ireturn, 1) := by decide +kernel
theorem dX3_findsLeaders_42 : decode cX3_findsLeaders 42 = .ok (.aload_n 0, 1) := by decide +kernel
theorem dX3_findsLeaders_43 : decode cX3_findsLeaders 43 = .ok (.getfield 15, 3) := by decide +kernel
theorem dX3_findsLeaders_46 : decode cX3_findsLeaders 46 = .ok (.getfield 75, 3) := by decide +kernel
theorem dX3_findsLeaders_49 : decode cX3_findsLeaders 49 = .ok (.iload_n 2, 1) := by decide +kernel
theorem dX3_findsLeaders_50 : decode cX3_findsLeaders 50 = .ok (.iaload, 1) := by decide +kernel
theorem dX3_findsLeaders_51 : decode cX3_findsLeaders 51 = .ok (.iconst 1, 1) := by decide +kernel
theorem dX3_findsLeaders_52 : decode cX3_findsLeaders 52 = .ok (.if_icmp .ne 12, 3) := by decide +kernel
theorem dX3_findsLeaders_55 : decode cX3_findsLeaders 55 = .ok (.aload_n 0, 1) := by decide +kernel
theorem dX3_findsLeaders_56 : decode cX3_findsLeaders 56 = .ok (.iload_n 3, 1) := by decide +kernel
theorem dX3_findsLeaders_57 : decode cX3_findsLeaders 57 = .ok (.bipush 8, 2) := by decide +kernel
theorem dX3_findsLeaders_59 : decode cX3_findsLeaders 59 = .ok (.iload_n 2, 1) := by decide +kernel
theorem dX3_findsLeaders_60 : decode cX3_findsLeaders 60 = .ok (.imul, 1) := by decide +kernel
theorem dX3_findsLeaders_61 : decode cX3_findsLeaders 61 = .ok (.invokevirtual 78, 3) := by decide +kernel
theorem dX3_findsLeaders_64 : decode cX3_findsLeaders 64 = .ok (.iinc 2 1, 3) := by decide +kernel
theorem dX3_findsLeaders_67 : decode cX3_findsLeaders 67 = .ok (.goto (-57), 3) := by decide +kernel
theorem dX3_findsLeaders_70 : decode cX3_findsLeaders 70 = .ok (.iconst 1, 1) := by decide +kernel
theorem dX3_findsLeaders_71 : decode cX3_findsLeaders 71 = .ok (.ireturn, 1) := by decide +kernel
theorem dX3_allScattered_0 : decode cX3_allScattered 0 = .ok (.iconst 0, 1) := by decide +kernel
theorem dX3_allScattered_1 : decode cX3_allScattered 1 = .ok (.istore_n 1, 1) := by decide +kernel
theorem dX3_allScattered_2 : decode cX3_allScattered 2 = .ok (.iload_n 1, 1) := by decide +kernel
theorem dX3_allScattered_3 : decode cX3_allScattered 3 = .ok (.aload_n 0, 1) := by decide +kernel
theorem dX3_allScattered_4 : decode cX3_allScattered 4 = .ok (.getfield 15, 3) := by decide +kernel
theorem dX3_allScattered_7 : decode cX3_allScattered 7 = .ok (.getfield 36, 3) := by decide +kernel
theorem dX3_allScattered_10 : decode cX3_allScattered 10 = .ok (.if_icmp .ge 22, 3) := by decide +kernel
theorem dX3_allScattered_13 : decode cX3_allScattered 13 = .ok (.aload_n 0, 1) := by decide +kernel
theorem dX3_allScattered_14 : decode cX3_allScattered 14 = .ok (.getfield 15, 3) := by decide +kernel
theorem dX3_allScattered_17 : decode cX3_allScattered 17 = .ok (.iload_n 1, 1) := by decide +kernel
theorem dX3_allScattered_18 : decode cX3_allScattered 18 = .ok (.invokestatic 82, 3) := by decide +kernel
theorem dX3_allScattered_21 : decode cX3_allScattered 21 = .ok (.ifCond .ne 5, 3) := by decide +kernel
theorem dX3_allScattered_24 : decode cX3_allScattered 24 = .ok (.iconst 0, 1) := by decide +kernel
theorem dX3_allScattered_25 : decode cX3_allScattered 25 = .ok (.ireturn, 1) := by decide +kernel
theorem dX3_allScattered_26 : decode cX3_allScattered 26 = .ok (.iinc 1 1, 3) := by decide +kernel
theorem dX3_allScattered_29 : decode cX3_allScattered 29 = .ok (.goto (-27), 3) := by decide +kernel
theorem dX3_allScattered_32 : decode cX3_allScattered 32 = .ok (.iconst 1, 1) := by decide +kernel
theorem dX3_allScattered_33 : decode cX3_allScattered 33 = .ok (.ireturn, 1) := by decide +kernel
theorem dX3_findsNoRings_0 : decode cX3_findsNoRings 0 = .ok (.iconst 0, 1) := by decide +kernel
theorem dX3_findsNoRings_1 : decode cX3_findsNoRings 1 = .ok (.istore_n 1, 1) := by decide +kernel
theorem dX3_findsNoRings_2 : decode cX3_findsNoRings 2 = .ok (.iconst 0, 1) := by decide +kernel
theorem dX3_findsNoRings_3 : decode cX3_findsNoRings 3 = .ok (.istore_n 2, 1) := by decide +kernel
theorem dX3_findsNoRings_4 : decode cX3_findsNoRings 4 = .ok (.iload_n 2, 1) := by decide +kernel
theorem dX3_findsNoRings_5 : decode cX3_findsNoRings 5 = .ok (.aload_n 0, 1) := by decide +kernel
theorem dX3_findsNoRings_6 : decode cX3_findsNoRings 6 = .ok (.getfield 15, 3) := by decide +kernel
theorem dX3_findsNoRings_9 : decode cX3_findsNoRings 9 = .ok (.getfield 36, 3) := by decide +kernel
theorem dX3_findsNoRings_12 : decode cX3_findsNoRings 12 = .ok (.if_icmp .ge 35, 3) := by decide +kernel
theorem dX3_findsNoRings_15 : decode cX3_findsNoRings 15 = .ok (.aload_n 0, 1) := by decide +kernel
theorem dX3_findsNoRings_16 : decode cX3_findsNoRings 16 = .ok (.getfield 15, 3) := by decide +kernel
theorem dX3_findsNoRings_19 : decode cX3_findsNoRings 19 = .ok (.iload_n 2, 1) := by decide +kernel
theorem dX3_findsNoRings_20 : decode cX3_findsNoRings 20 = .ok (.invokevirtual 66, 3) := by decide +kernel
theorem dX3_findsNoRings_23 : decode cX3_findsNoRings 23 = .ok (.istore_n 3, 1) := by decide +kernel
theorem dX3_findsNoRings_24 : decode cX3_findsNoRings 24 = .ok (.iload_n 2, 1) := by decide +kernel
theorem dX3_findsNoRings_25 : decode cX3_findsNoRings 25 = .ok (.iload_n 3, 1) := by decide +kernel
theorem dX3_findsNoRings_26 : decode cX3_findsNoRings 26 = .ok (.invokestatic 88, 3) := by decide +kernel
theorem dX3_findsNoRings_29 : decode cX3_findsNoRings 29 = .ok (.ifCond .eq 12, 3) := by decide +kernel
theorem dX3_findsNoRings_32 : decode cX3_findsNoRings 32 = .ok (.iinc 1 1, 3) := by decide +kernel
theorem dX3_findsNoRings_35 : decode cX3_findsNoRings 35 = .ok (.aload_n 0, 1) := by decide +kernel
theorem dX3_findsNoRings_36 : decode cX3_findsNoRings 36 = .ok (.iload_n 3, 1) := by decide +kernel
theorem dX3_findsNoRings_37 : decode cX3_findsNoRings 37 = .ok (.iconst 0, 1) := by decide +kernel
theorem dX3_findsNoRings_38 : decode cX3_findsNoRings 38 = .ok (.invokevirtual 78, 3) := by decide +kernel
theorem dX3_findsNoRings_41 : decode cX3_findsNoRings 41 = .ok (.iinc 2 1, 3) := by decide +kernel
theorem dX3_findsNoRings_44 : decode cX3_findsNoRings 44 = .ok (.goto (-40), 3) := by decide +kernel
theorem dX3_findsNoRings_47 : decode cX3_findsNoRings 47 = .ok (.aload_n 0, 1) := by decide +kernel
theorem dX3_findsNoRings_48 : decode cX3_findsNoRings 48 = .ok (.getfield 15, 3) := by decide +kernel
theorem dX3_findsNoRings_51 : decode cX3_findsNoRings 51 = .ok (.invokevirtual 92, 3) := by decide +kernel
theorem dX3_findsNoRings_54 : decode cX3_findsNoRings 54 = .ok (.aload_n 0, 1) := by decide +kernel
theorem dX3_findsNoRings_55 : decode cX3_findsNoRings 55 = .ok (.getfield 15, 3) := by decide +kernel
theorem dX3_findsNoRings_58 : decode cX3_findsNoRings 58 = .ok (.getfield 36, 3) := by decide +kernel
theorem dX3_findsNoRings_61 : decode cX3_findsNoRings 61 = .ok (.iload_n 1, 1) := by decide +kernel
theorem dX3_findsNoRings_62 : decode cX3_findsNoRings 62 = .ok (.isub, 1) := by decide +kernel
theorem dX3_findsNoRings_63 : decode cX3_findsNoRings 63 = .ok (.if_icmp .ne 7, 3) := by decide +kernel
theorem dX3_findsNoRings_66 : decode cX3_findsNoRings 66 = .ok (.iconst 1, 1) := by decide +kernel
theorem dX3_findsNoRings_67 : decode cX3_findsNoRings 67 = .ok (.goto 4, 3) := by decide +kernel
theorem dX3_findsNoRings_70 : decode cX3_findsNoRings 70 = .ok (.iconst 0, 1) := by decide +kernel
theorem dX3_findsNoRings_71 : decode cX3_findsNoRings 71 = .ok (.ireturn, 1) := by decide +kernel
theorem dX3_numberFrom_0 : decode cX3_numberFrom 0 = .ok (.iconst 0, 1) := by decide +kernel
theorem dX3_numberFrom_1 : decode cX3_numberFrom 1 = .ok (.istore_n 3, 1) := by decide +kernel
theorem dX3_numberFrom_2 : decode cX3_numberFrom 2 = .ok (.iload_n 3, 1) := by decide +kernel
theorem dX3_numberFrom_3 : decode cX3_numberFrom 3 = .ok (.aload_n 0, 1) := by decide +kernel
theorem dX3_numberFrom_4 : decode cX3_numberFrom 4 = .ok (.getfield 15, 3) := by decide +kernel
theorem dX3_numberFrom_7 : decode cX3_numberFrom 7 = .ok (.getfield 36, 3) := by decide +kernel
theorem dX3_numberFrom_10 : decode cX3_numberFrom 10 = .ok (.if_icmp .ge 35, 3) := by decide +kernel
theorem dX3_numberFrom_13 : decode cX3_numberFrom 13 = .ok (.iload_n 1, 1) := by decide +kernel
theorem dX3_numberFrom_14 : decode cX3_numberFrom 14 = .ok (.iload_n 3, 1) := by decide +kernel
theorem dX3_numberFrom_15 : decode cX3_numberFrom 15 = .ok (.ishr, 1) := by decide +kernel
theorem dX3_numberFrom_16 : decode cX3_numberFrom 16 = .ok (.iconst 1, 1) := by decide +kernel
theorem dX3_numberFrom_17 : decode cX3_numberFrom 17 = .ok (.iand, 1) := by decide +kernel
theorem dX3_numberFrom_18 : decode cX3_numberFrom 18 = .ok (.iconst 1, 1) := by decide +kernel
theorem dX3_numberFrom_19 : decode cX3_numberFrom 19 = .ok (.if_icmp .ne 20, 3) := by decide +kernel
theorem dX3_numberFrom_22 : decode cX3_numberFrom 22 = .ok (.aload_n 0, 1) := by decide +kernel
theorem dX3_numberFrom_23 : decode cX3_numberFrom 23 = .ok (.getfield 9, 3) := by decide +kernel
theorem dX3_numberFrom_26 : decode cX3_numberFrom 26 = .ok (.iload_n 3, 1) := by decide +kernel
theorem dX3_numberFrom_27 : decode cX3_numberFrom 27 = .ok (.iload_n 2, 1) := by decide +kernel
