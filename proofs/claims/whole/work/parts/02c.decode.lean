theorem dX6_spread_75 : decode cX6_spread 75 = .ok (.iload_n 3, 1) := by decide +kernel
theorem dX6_spread_76 : decode cX6_spread 76 = .ok (.iload 4, 2) := by decide +kernel
theorem dX6_spread_78 : decode cX6_spread 78 = .ok (.invokevirtual 55, 3) := by decide +kernel
theorem dX6_spread_81 : decode cX6_spread 81 = .ok (.ifCond .eq 24, 3) := by decide +kernel
theorem dX6_spread_84 : decode cX6_spread 84 = .ok (.aload_n 0, 1) := by decide +kernel
theorem dX6_spread_85 : decode cX6_spread 85 = .ok (.getfield 22, 3) := by decide +kernel
theorem dX6_spread_88 : decode cX6_spread 88 = .ok (.iload 4, 2) := by decide +kernel
theorem dX6_spread_90 : decode cX6_spread 90 = .ok (.iaload, 1) := by decide +kernel
theorem dX6_spread_91 : decode cX6_spread 91 = .ok (.iconst (-1), 1) := by decide +kernel
theorem dX6_spread_92 : decode cX6_spread 92 = .ok (.if_icmp .ne 13, 3) := by decide +kernel
theorem dX6_spread_95 : decode cX6_spread 95 = .ok (.aload_n 0, 1) := by decide +kernel
theorem dX6_spread_96 : decode cX6_spread 96 = .ok (.getfield 22, 3) := by decide +kernel
theorem dX6_spread_99 : decode cX6_spread 99 = .ok (.iload 4, 2) := by decide +kernel
theorem dX6_spread_101 : decode cX6_spread 101 = .ok (.iload_n 2, 1) := by decide +kernel
theorem dX6_spread_102 : decode cX6_spread 102 = .ok (.iconst 1, 1) := by decide +kernel
theorem dX6_spread_103 : decode cX6_spread 103 = .ok (.iadd, 1) := by decide +kernel
theorem dX6_spread_104 : decode cX6_spread 104 = .ok (.iastore, 1) := by decide +kernel
theorem dX6_spread_105 : decode cX6_spread 105 = .ok (.iinc 4 1, 3) := by decide +kernel
theorem dX6_spread_108 : decode cX6_spread 108 = .ok (.goto (-53), 3) := by decide +kernel
theorem dX6_spread_111 : decode cX6_spread 111 = .ok (.iinc 3 1, 3) := by decide +kernel
theorem dX6_spread_114 : decode cX6_spread 114 = .ok (.goto (-70), 3) := by decide +kernel
theorem dX6_spread_117 : decode cX6_spread 117 = .ok (.iinc 2 1, 3) := by decide +kernel
theorem dX6_spread_120 : decode cX6_spread 120 = .ok (.goto (-86), 3) := by decide +kernel
theorem dX6_spread_123 : decode cX6_spread 123 = .ok (.return_, 1) := by decide +kernel
theorem dX6_firstOf_0 : decode cX6_firstOf 0 = .ok (.aload_n 0, 1) := by decide +kernel
theorem dX6_firstOf_1 : decode cX6_firstOf 1 = .ok (.iload_n 1, 1) := by decide +kernel
theorem dX6_firstOf_2 : decode cX6_firstOf 2 = .ok (.invokevirtual 59, 3) := by decide +kernel
theorem dX6_firstOf_5 : decode cX6_firstOf 5 = .ok (.iconst 0, 1) := by decide +kernel
theorem dX6_firstOf_6 : decode cX6_firstOf 6 = .ok (.istore_n 2, 1) := by decide +kernel
theorem dX6_firstOf_7 : decode cX6_firstOf 7 = .ok (.aload_n 0, 1) := by decide +kernel
theorem dX6_firstOf_8 : decode cX6_firstOf 8 = .ok (.getfield 22, 3) := by decide +kernel
theorem dX6_firstOf_11 : decode cX6_firstOf 11 = .ok (.iload_n 2, 1) := by decide +kernel
theorem dX6_firstOf_12 : decode cX6_firstOf 12 = .ok (.iaload, 1) := by decide +kernel
theorem dX6_firstOf_13 : decode cX6_firstOf 13 = .ok (.iconst (-1), 1) := by decide +kernel
theorem dX6_firstOf_14 : decode cX6_firstOf 14 = .ok (.if_icmp .ne 9, 3) := by decide +kernel
theorem dX6_firstOf_17 : decode cX6_firstOf 17 = .ok (.iinc 2 1, 3) := by decide +kernel
theorem dX6_firstOf_20 : decode cX6_firstOf 20 = .ok (.goto (-13), 3) := by decide +kernel
theorem dX6_firstOf_23 : decode cX6_firstOf 23 = .ok (.iload_n 2, 1) := by decide +kernel
theorem dX6_firstOf_24 : decode cX6_firstOf 24 = .ok (.ireturn, 1) := by decide +kernel
theorem dX6_setsOf_0 : decode cX6_setsOf 0 = .ok (.iconst 0, 1) := by decide +kernel
theorem dX6_setsOf_1 : decode cX6_setsOf 1 = .ok (.istore_n 1, 1) := by decide +kernel
theorem dX6_setsOf_2 : decode cX6_setsOf 2 = .ok (.iconst 0, 1) := by decide +kernel
theorem dX6_setsOf_3 : decode cX6_setsOf 3 = .ok (.istore_n 2, 1) := by decide +kernel
theorem dX6_setsOf_4 : decode cX6_setsOf 4 = .ok (.iload_n 2, 1) := by decide +kernel
theorem dX6_setsOf_5 : decode cX6_setsOf 5 = .ok (.aload_n 0, 1) := by decide +kernel
theorem dX6_setsOf_6 : decode cX6_setsOf 6 = .ok (.getfield 34, 3) := by decide +kernel
theorem dX6_setsOf_9 : decode cX6_setsOf 9 = .ok (.if_icmp .ge 26, 3) := by decide +kernel
theorem dX6_setsOf_12 : decode cX6_setsOf 12 = .ok (.iload_n 1, 1) := by decide +kernel
theorem dX6_setsOf_13 : decode cX6_setsOf 13 = .ok (.aload_n 0, 1) := by decide +kernel
theorem dX6_setsOf_14 : decode cX6_setsOf 14 = .ok (.iload_n 2, 1) := by decide +kernel
theorem dX6_setsOf_15 : decode cX6_setsOf 15 = .ok (.invokevirtual 63, 3) := by decide +kernel
theorem dX6_setsOf_18 : decode cX6_setsOf 18 = .ok (.iload_n 2, 1) := by decide +kernel
theorem dX6_setsOf_19 : decode cX6_setsOf 19 = .ok (.if_icmp .ne 7, 3) := by decide +kernel
theorem dX6_setsOf_22 : decode cX6_setsOf 22 = .ok (.iconst 1, 1) := by decide +kernel
theorem dX6_setsOf_23 : decode cX6_setsOf 23 = .ok (.goto 4, 3) := by decide +kernel
theorem dX6_setsOf_26 : decode cX6_setsOf 26 = .ok (.iconst 0, 1) := by decide +kernel
theorem dX6_setsOf_27 : decode cX6_setsOf 27 = .ok (.iadd, 1) := by decide +kernel
theorem dX6_setsOf_28 : decode cX6_setsOf 28 = .ok (.istore_n 1, 1) := by decide +kernel
theorem dX6_setsOf_29 : decode cX6_setsOf 29 = .ok (.iinc 2 1, 3) := by decide +kernel
theorem dX6_setsOf_32 : decode cX6_setsOf 32 = .ok (.goto (-28), 3) := by decide +kernel
theorem dX6_setsOf_35 : decode cX6_setsOf 35 = .ok (.iload_n 1, 1) := by decide +kernel
theorem dX6_setsOf_36 : decode cX6_setsOf 36 = .ok (.ireturn, 1) := by decide +kernel
theorem dX6_linesOf_0 : decode cX6_linesOf 0 = .ok (.iconst 0, 1) := by decide +kernel
theorem dX6_linesOf_1 : decode cX6_linesOf 1 = .ok (.istore_n 1, 1) := by decide +kernel
theorem dX6_linesOf_2 : decode cX6_linesOf 2 = .ok (.iconst 0, 1) := by decide +kernel
theorem dX6_linesOf_3 : decode cX6_linesOf 3 = .ok (.istore_n 2, 1) := by decide +kernel
theorem dX6_linesOf_4 : decode cX6_linesOf 4 = .ok (.iload_n 2, 1) := by decide +kernel
theorem dX6_linesOf_5 : decode cX6_linesOf 5 = .ok (.aload_n 0, 1) := by decide +kernel
theorem dX6_linesOf_6 : decode cX6_linesOf 6 = .ok (.getfield 34, 3) := by decide +kernel
theorem dX6_linesOf_9 : decode cX6_linesOf 9 = .ok (.if_icmp .ge 39, 3) := by decide +kernel
theorem dX6_linesOf_12 : decode cX6_linesOf 12 = .ok (.iconst 0, 1) := by decide +kernel
theorem dX6_linesOf_13 : decode cX6_linesOf 13 = .ok (.istore_n 3, 1) := by decide +kernel
theorem dX6_linesOf_14 : decode cX6_linesOf 14 = .ok (.iload_n 3, 1) := by decide +kernel
theorem dX6_linesOf_15 : decode cX6_linesOf 15 = .ok (.iload_n 2, 1) := by decide +kernel
theorem dX6_linesOf_16 : decode cX6_linesOf 16 = .ok (.if_icmp .ge 26, 3) := by decide +kernel
theorem dX6_linesOf_19 : decode cX6_linesOf 19 = .ok (.iload_n 1, 1) := by decide +kernel
theorem dX6_linesOf_20 : decode cX6_linesOf 20 = .ok (.aload_n 0, 1) := by decide +kernel
theorem dX6_linesOf_21 : decode cX6_linesOf 21 = .ok (.iload_n 2, 1) := by decide +kernel
theorem dX6_linesOf_22 : decode cX6_linesOf 22 = .ok (.iload_n 3, 1) := by decide +kernel
theorem dX6_linesOf_23 : decode cX6_linesOf 23 = .ok (.invokevirtual 55, 3) := by decide +kernel
theorem dX6_linesOf_26 : decode cX6_linesOf 26 = .ok (.ifCond .eq 7, 3) := by decide +kernel
theorem dX6_linesOf_29 : decode cX6_linesOf 29 = .ok (.iconst 1, 1) := by decide +kernel
theorem dX6_linesOf_30 : decode cX6_linesOf 30 = .ok (.goto 4, 3) := by decide +kernel
theorem dX6_linesOf_33 : decode cX6_linesOf 33 = .ok (.iconst 0, 1) := by decide +kernel
theorem dX6_linesOf_34 : decode cX6_linesOf 34 = .ok (.iadd, 1) := by decide +kernel
theorem dX6_linesOf_35 : decode cX6_linesOf 35 = .ok (.istore_n 1, 1) := by decide +kernel
theorem dX6_linesOf_36 : decode cX6_linesOf 36 = .ok (.iinc 3 1, 3) := by decide +kernel
theorem dX6_linesOf_39 : decode cX6_linesOf 39 = .ok (.goto (-25), 3) := by decide +kernel
theorem dX6_linesOf_42 : decode cX6_linesOf 42 = .ok (.iinc 2 1, 3) := by decide +kernel
theorem dX6_linesOf_45 : decode cX6_linesOf 45 = .ok (.goto (-41), 3) := by decide +kernel
theorem dX6_linesOf_48 : decode cX6_linesOf 48 = .ok (.iload_n 1, 1) := by decide +kernel
theorem dX6_linesOf_49 : decode cX6_linesOf 49 = .ok (.ireturn, 1) := by decide +kernel
theorem dX6_leaderOf_0 : decode cX6_leaderOf 0 = .ok (.aload_n 0, 1) := by decide +kernel
theorem dX6_leaderOf_1 : decode cX6_leaderOf 1 = .ok (.iload_n 1, 1) := by decide +kernel
theorem dX6_leaderOf_2 : decode cX6_leaderOf 2 = .ok (.invokevirtual 59, 3) := by decide +kernel
theorem dX6_leaderOf_5 : decode cX6_leaderOf 5 = .ok (.iconst (-1), 1) := by decide +kernel
theorem dX6_leaderOf_6 : decode cX6_leaderOf 6 = .ok (.istore_n 2, 1) := by decide +kernel
theorem dX6_leaderOf_7 : decode cX6_leaderOf 7 = .ok (.iconst 0, 1) := by decide +kernel
theorem dX6_leaderOf_8 : decode cX6_leaderOf 8 = .ok (.istore_n 3, 1) := by decide +kernel
theorem dX6_leaderOf_9 : decode cX6_leaderOf 9 = .ok (.iload_n 3, 1) := by decide +kernel
theorem dX6_leaderOf_10 : decode cX6_leaderOf 10 = .ok (.aload_n 0, 1) := by decide +kernel
theorem dX6_leaderOf_11 : decode cX6_leaderOf 11 = .ok (.getfield 34, 3) := by decide +kernel
theorem dX6_leaderOf_14 : decode cX6_leaderOf 14 = .ok (.if_icmp .ge 41, 3) := by decide +kernel
theorem dX6_leaderOf_17 : decode cX6_leaderOf 17 = .ok (.aload_n 0, 1) := by decide +kernel
theorem dX6_leaderOf_18 : decode cX6_leaderOf 18 = .ok (.getfield 22, 3) := by decide +kernel
theorem dX6_leaderOf_21 : decode cX6_leaderOf 21 = .ok (.iload_n 3, 1) := by decide +kernel
theorem dX6_leaderOf_22 : decode cX6_leaderOf 22 = .ok (.iaload, 1) := by decide +kernel
theorem dX6_leaderOf_23 : decode cX6_leaderOf 23 = .ok (.iconst (-1), 1) := by decide +kernel
theorem dX6_leaderOf_24 : decode cX6_leaderOf 24 = .ok (.if_icmp .eq 25, 3) := by decide +kernel
theorem dX6_leaderOf_27 : decode cX6_leaderOf 27 = .ok (.aload_n 0, 1) := by decide +kernel
theorem dX6_leaderOf_28 : decode cX6_leaderOf 28 = .ok (.getfield 13, 3) := by decide +kernel
theorem dX6_leaderOf_31 : decode cX6_leaderOf 31 = .ok (.iload_n 3, 1) := by decide +kernel
theorem dX6_leaderOf_32 : decode cX6_leaderOf 32 = .ok (.iaload, 1) := by decide +kernel
theorem dX6_leaderOf_33 : decode cX6_leaderOf 33 = .ok (.iconst 1, 1) := by decide +kernel
theorem dX6_leaderOf_34 : decode cX6_leaderOf 34 = .ok (.if_icmp .ne 15, 3) := by decide +kernel
theorem dX6_leaderOf_37 : decode cX6_leaderOf 37 = .ok (.iload_n 2, 1) := by decide +kernel
theorem dX6_leaderOf_38 : decode cX6_leaderOf 38 = .ok (.iconst (-1), 1) := by decide +kernel
theorem dX6_leaderOf_39 : decode cX6_leaderOf 39 = .ok (.if_icmp .ne 7, 3) := by decide +kernel
theorem dX6_leaderOf_42 : decode cX6_leaderOf 42 = .ok (.iload_n 3, 1) := by decide +kernel
theorem dX6_leaderOf_43 : decode cX6_leaderOf 43 = .ok (.goto 5, 3) := by decide +kernel
theorem dX6_leaderOf_46 : decode cX6_leaderOf 46 = .ok (.bipush (-2), 2) := by decide +kernel
theorem dX6_leaderOf_48 : decode cX6_leaderOf 48 = .ok (.istore_n 2, 1) := by decide +kernel
theorem dX6_leaderOf_49 : decode cX6_leaderOf 49 = .ok (.iinc 3 1, 3) := by decide +kernel
theorem dX6_leaderOf_52 : decode cX6_leaderOf 52 = .ok (.goto (-43), 3) := by decide +kernel
theorem dX6_leaderOf_55 : decode cX6_leaderOf 55 = .ok (.iload_n 2, 1) := by decide +kernel
theorem dX6_leaderOf_56 : decode cX6_leaderOf 56 = .ok (.ifCond .ge 7, 3) := by decide +kernel
theorem dX6_leaderOf_59 : decode cX6_leaderOf 59 = .ok (.iconst (-1), 1) := by decide +kernel
theorem dX6_leaderOf_60 : decode cX6_leaderOf 60 = .ok (.goto 4, 3) := by decide +kernel
theorem dX6_leaderOf_63 : decode cX6_leaderOf 63 = .ok (.iload_n 2, 1) := by decide +kernel
theorem dX6_leaderOf_64 : decode cX6_leaderOf 64 = .ok (.ireturn, 1) := by decide +kernel
theorem dX6_colours_0 : decode cX6_colours 0 = .ok (.iconst 1, 1) := by decide +kernel
theorem dX6_colours_1 : decode cX6_colours 1 = .ok (.istore_n 2, 1) := by decide +kernel
theorem dX6_colours_2 : decode cX6_colours 2 = .ok (.iconst 0, 1) := by decide +kernel
theorem dX6_colours_3 : decode cX6_colours 3 = .ok (.istore_n 3, 1) := by decide +kernel
theorem dX6_colours_4 : decode cX6_colours 4 = .ok (.iload_n 3, 1) := by decide +kernel
theorem dX6_colours_5 : decode cX6_colours 5 = .ok (.aload_n 0, 1) := by decide +kernel
theorem dX6_colours_6 : decode cX6_colours 6 = .ok (.getfield 34, 3) := by decide +kernel
theorem dX6_colours_9 : decode cX6_colours 9 = .ok (.if_icmp .ge 13, 3) := by decide +kernel
theorem dX6_colours_12 : decode cX6_colours 12 = .ok (.iload_n 2, 1) := by decide +kernel
theorem dX6_colours_13 : decode cX6_colours 13 = .ok (.iload_n 1, 1) := by decide +kernel
theorem dX6_colours_14 : decode cX6_colours 14 = .ok (.imul, 1) := by decide +kernel
theorem dX6_colours_15 : decode cX6_colours 15 = .ok (.istore_n 2, 1) := by decide +kernel
theorem dX6_colours_16 : decode cX6_colours 16 = .ok (.iinc 3 1, 3) := by decide +kernel
theorem dX6_colours_19 : decode cX6_colours 19 = .ok (.goto (-15), 3) := by decide +kernel
theorem dX6_colours_22 : decode cX6_colours 22 = .ok (.iconst 0, 1) := by decide +kernel
theorem dX6_colours_23 : decode cX6_colours 23 = .ok (.istore_n 3, 1) := by decide +kernel
theorem dX6_colours_24 : decode cX6_colours 24 = .ok (.iload_n 3, 1) := by decide +kernel
theorem dX6_colours_25 : decode cX6_colours 25 = .ok (.iload_n 2, 1) := by decide +kernel
theorem dX6_colours_26 : decode cX6_colours 26 = .ok (.if_icmp .ge 132, 3) := by decide +kernel
theorem dX6_colours_29 : decode cX6_colours 29 = .ok (.iload_n 3, 1) := by decide +kernel
theorem dX6_colours_30 : decode cX6_colours 30 = .ok (.istore 4, 2) := by decide +kernel
theorem dX6_colours_32 : decode cX6_colours 32 = .ok (.aload_n 0, 1) := by decide +kernel
theorem dX6_colours_33 : decode cX6_colours 33 = .ok (.getfield 34, 3) := by decide +kernel
theorem dX6_colours_36 : decode cX6_colours 36 = .ok (.iconst 1, 1) := by decide +kernel
theorem dX6_colours_37 : decode cX6_colours 37 = .ok (.isub, 1) := by decide +kernel
theorem dX6_colours_38 : decode cX6_colours 38 = .ok (.istore 5, 2) := by decide +kernel
theorem dX6_colours_40 : decode cX6_colours 40 = .ok (.iload 5, 2) := by decide +kernel
theorem dX6_colours_42 : decode cX6_colours 42 = .ok (.ifCond .lt 26, 3) := by decide +kernel
theorem dX6_colours_45 : decode cX6_colours 45 = .ok (.aload_n 0, 1) := by decide +kernel
theorem dX6_colours_46 : decode cX6_colours 46 = .ok (.getfield 25, 3) := by decide +kernel
theorem dX6_colours_49 : decode cX6_colours 49 = .ok (.iload 5, 2) := by decide +kernel
theorem dX6_colours_51 : decode cX6_colours 51 = .ok (.iload 4, 2) := by decide +kernel
theorem dX6_colours_53 : decode cX6_colours 53 = .ok (.iload_n 1, 1) := by decide +kernel
theorem dX6_colours_54 : decode cX6_colours 54 = .ok (.irem, 1) := by decide +kernel
theorem dX6_colours_55 : decode cX6_colours 55 = .ok (.iastore, 1) := by decide +kernel
theorem dX6_colours_56 : decode cX6_colours 56 = .ok (.iload 4, 2) := by decide +kernel
theorem dX6_colours_58 : decode cX6_colours 58 = .ok (.iload_n 1, 1) := by decide +kernel
theorem dX6_colours_59 : decode cX6_colours 59 = .ok (.idiv, 1) := by decide +kernel
theorem dX6_colours_60 : decode cX6_colours 60 = .ok (.istore 4, 2) := by decide +kernel
theorem dX6_colours_62 : decode cX6_colours 62 = .ok (.iinc 5 (-1), 3) := by decide +kernel
theorem dX6_colours_65 : decode cX6_colours 65 = .ok (.goto (-25), 3) := by decide +kernel
theorem dX6_colours_68 : decode cX6_colours 68 = .ok (.iconst 1, 1) := by decide +kernel
theorem dX6_colours_69 : decode cX6_colours 69 = .ok (.istore 5, 2) := by decide +kernel
theorem dX6_colours_71 : decode cX6_colours 71 = .ok (.iconst 0, 1) := by decide +kernel
theorem dX6_colours_72 : decode cX6_colours 72 = .ok (.istore 6, 2) := by decide +kernel
theorem dX6_colours_74 : decode cX6_colours 74 = .ok (.iload 6, 2) := by decide +kernel
theorem dX6_colours_76 : decode cX6_colours 76 = .ok (.aload_n 0, 1) := by decide +kernel
theorem dX6_colours_77 : decode cX6_colours 77 = .ok (.getfield 34, 3) := by decide +kernel
theorem dX6_colours_80 : decode cX6_colours 80 = .ok (.if_icmp .ge 65, 3) := by decide +kernel
theorem dX6_colours_83 : decode cX6_colours 83 = .ok (.iconst 0, 1) := by decide +kernel
theorem dX6_colours_84 : decode cX6_colours 84 = .ok (.istore 7, 2) := by decide +kernel
theorem dX6_colours_86 : decode cX6_colours 86 = .ok (.iload 7, 2) := by decide +kernel
theorem dX6_colours_88 : decode cX6_colours 88 = .ok (.iload 6, 2) := by decide +kernel
theorem dX6_colours_90 : decode cX6_colours 90 = .ok (.if_icmp .ge 49, 3) := by decide +kernel
theorem dX6_colours_93 : decode cX6_colours 93 = .ok (.iload 5, 2) := by decide +kernel
theorem dX6_colours_95 : decode cX6_colours 95 = .ok (.ifCond .eq 35, 3) := by decide +kernel
theorem dX6_colours_98 : decode cX6_colours 98 = .ok (.aload_n 0, 1) := by decide +kernel
theorem dX6_colours_99 : decode cX6_colours 99 = .ok (.iload 6, 2) := by decide +kernel
theorem dX6_colours_101 : decode cX6_colours 101 = .ok (.iload 7, 2) := by decide +kernel
theorem dX6_colours_103 : decode cX6_colours 103 = .ok (.invokevirtual 55, 3) := by decide +kernel
theorem dX6_colours_106 : decode cX6_colours 106 = .ok (.ifCond .eq 20, 3) := by decide +kernel
theorem dX6_colours_109 : decode cX6_colours 109 = .ok (.aload_n 0, 1) := by decide +kernel
theorem dX6_colours_110 : decode cX6_colours 110 = .ok (.getfield 25, 3) := by decide +kernel
theorem dX6_colours_113 : decode cX6_colours 113 = .ok (.iload 6, 2) := by decide +kernel
theorem dX6_colours_115 : decode cX6_colours 115 = .ok (.iaload, 1) := by decide +kernel
theorem dX6_colours_116 : decode cX6_colours 116 = .ok (.aload_n 0, 1) := by decide +kernel
theorem dX6_colours_117 : decode cX6_colours 117 = .ok (.getfield 25, 3) := by decide +kernel
theorem dX6_colours_120 : decode cX6_colours 120 = .ok (.iload 7, 2) := by decide +kernel
theorem dX6_colours_122 : decode cX6_colours 122 = .ok (.iaload, 1) := by decide +kernel
theorem dX6_colours_123 : decode cX6_colours 123 = .ok (.if_icmp .eq 7, 3) := by decide +kernel
theorem dX6_colours_126 : decode cX6_colours 126 = .ok (.iconst 1, 1) := by decide +kernel
theorem dX6_colours_127 : decode cX6_colours 127 = .ok (.goto 4, 3) := by decide +kernel
theorem dX6_colours_130 : decode cX6_colours 130 = .ok (.iconst 0, 1) := by decide +kernel
theorem dX6_colours_131 : decode cX6_colours 131 = .ok (.istore 5, 2) := by decide +kernel
theorem dX6_colours_133 : decode cX6_colours 133 = .ok (.iinc 7 1, 3) := by decide +kernel
theorem dX6_colours_136 : decode cX6_colours 136 = .ok (.goto (-50), 3) := by decide +kernel
theorem dX6_colours_139 : decode cX6_colours 139 = .ok (.iinc 6 1, 3) := by decide +kernel
theorem dX6_colours_142 : decode cX6_colours 142 = .ok (.goto (-68), 3) := by decide +kernel
theorem dX6_colours_145 : decode cX6_colours 145 = .ok (.iload 5, 2) := by decide +kernel
theorem dX6_colours_147 : decode cX6_colours 147 = .ok (.ifCond .eq 5, 3) := by decide +kernel
theorem dX6_colours_150 : decode cX6_colours 150 = .ok (.iconst 1, 1) := by decide +kernel
theorem dX6_colours_151 : decode cX6_colours 151 = .ok (.ireturn, 1) := by decide +kernel
theorem dX6_colours_152 : decode cX6_colours 152 = .ok (.iinc 3 1, 3) := by decide +kernel
theorem dX6_colours_155 : decode cX6_colours 155 = .ok (.goto (-131), 3) := by decide +kernel
theorem dX6_colours_158 : decode cX6_colours 158 = .ok (.iconst 0, 1) := by decide +kernel
theorem dX6_colours_159 : decode cX6_colours 159 = .ok (.ireturn, 1) := by decide +kernel
theorem dX6_isGood_0 : decode cX6_isGood 0 = .ok (.iconst 0, 1) := by decide +kernel
theorem dX6_isGood_1 : decode cX6_isGood 1 = .ok (.istore_n 2, 1) := by decide +kernel
theorem dX6_isGood_2 : decode cX6_isGood 2 = .ok (.iconst 0, 1) := by decide +kernel
theorem dX6_isGood_3 : decode cX6_isGood 3 = .ok (.istore_n 3, 1) := by decide +kernel
theorem dX6_isGood_4 : decode cX6_isGood 4 = .ok (.iload_n 3, 1) := by decide +kernel
theorem dX6_isGood_5 : decode cX6_isGood 5 = .ok (.aload_n 0, 1) := by decide +kernel
theorem dX6_isGood_6 : decode cX6_isGood 6 = .ok (.getfield 34, 3) := by decide +kernel
theorem dX6_isGood_9 : decode cX6_isGood 9 = .ok (.if_icmp .ge 38, 3) := by decide +kernel
theorem dX6_isGood_12 : decode cX6_isGood 12 = .ok (.iload_n 2, 1) := by decide +kernel
theorem dX6_isGood_13 : decode cX6_isGood 13 = .ok (.ifCond .ne 22, 3) := by decide +kernel
theorem dX6_isGood_16 : decode cX6_isGood 16 = .ok (.aload_n 0, 1) := by decide +kernel
theorem dX6_isGood_17 : decode cX6_isGood 17 = .ok (.iload_n 1, 1) := by decide +kernel
theorem dX6_isGood_18 : decode cX6_isGood 18 = .ok (.iload_n 3, 1) := by decide +kernel
theorem dX6_isGood_19 : decode cX6_isGood 19 = .ok (.invokevirtual 55, 3) := by decide +kernel
theorem dX6_isGood_22 : decode cX6_isGood 22 = .ok (.ifCond .eq 17, 3) := by decide +kernel
theorem dX6_isGood_25 : decode cX6_isGood 25 = .ok (.aload_n 0, 1) := by decide +kernel
theorem dX6_isGood_26 : decode cX6_isGood 26 = .ok (.getfield 13, 3) := by decide +kernel
theorem dX6_isGood_29 : decode cX6_isGood 29 = .ok (.iload_n 3, 1) := by decide +kernel
theorem dX6_isGood_30 : decode cX6_isGood 30 = .ok (.iaload, 1) := by decide +kernel
theorem dX6_isGood_31 : decode cX6_isGood 31 = .ok (.iconst 1, 1) := by decide +kernel
theorem dX6_isGood_32 : decode cX6_isGood 32 = .ok (.if_icmp .ne 7, 3) := by decide +kernel
theorem dX6_isGood_35 : decode cX6_isGood 35 = .ok (.iconst 1, 1) := by decide +kernel
theorem dX6_isGood_36 : decode cX6_isGood 36 = .ok (.goto 4, 3) := by decide +kernel
theorem dX6_isGood_39 : decode cX6_isGood 39 = .ok (.iconst 0, 1) := by decide +kernel
theorem dX6_isGood_40 : decode cX6_isGood 40 = .ok (.istore_n 2, 1) := by decide +kernel
theorem dX6_isGood_41 : decode cX6_isGood 41 = .ok (.iinc 3 1, 3) := by decide +kernel
theorem dX6_isGood_44 : decode cX6_isGood 44 = .ok (.goto (-40), 3) := by decide +kernel
theorem dX6_isGood_47 : decode cX6_isGood 47 = .ok (.iload_n 2, 1) := by decide +kernel
theorem dX6_isGood_48 : decode cX6_isGood 48 = .ok (.aload_n 0, 1) := by decide +kernel
theorem dX6_isGood_49 : decode cX6_isGood 49 = .ok (.getfield 13, 3) := by decide +kernel
theorem dX6_isGood_52 : decode cX6_isGood 52 = .ok (.iload_n 1, 1) := by decide +kernel
theorem dX6_isGood_53 : decode cX6_isGood 53 = .ok (.iaload, 1) := by decide +kernel
theorem dX6_isGood_54 : decode cX6_isGood 54 = .ok (.iconst 1, 1) := by decide +kernel
theorem dX6_isGood_55 : decode cX6_isGood 55 = .ok (.if_icmp .ne 7, 3) := by decide +kernel
theorem dX6_isGood_58 : decode cX6_isGood 58 = .ok (.iconst 1, 1) := by decide +kernel
theorem dX6_isGood_59 : decode cX6_isGood 59 = .ok (.goto 4, 3) := by decide +kernel
theorem dX6_isGood_62 : decode cX6_isGood 62 = .ok (.iconst 0, 1) := by decide +kernel
theorem dX6_isGood_63 : decode cX6_isGood 63 = .ok (.if_icmp .eq 7, 3) := by decide +kernel
theorem dX6_isGood_66 : decode cX6_isGood 66 = .ok (.iconst 1, 1) := by decide +kernel
theorem dX6_isGood_67 : decode cX6_isGood 67 = .ok (.goto 4, 3) := by decide +kernel
theorem dX6_isGood_70 : decode cX6_isGood 70 = .ok (.iconst 0, 1) := by decide +kernel
theorem dX6_isGood_71 : decode cX6_isGood 71 = .ok (.ireturn, 1) := by decide +kernel
theorem dX6_claims_0 : decode cX6_claims 0 = .ok (.aload_n 0, 1) := by decide +kernel
theorem dX6_claims_1 : decode cX6_claims 1 = .ok (.getfield 52, 3) := by decide +kernel
theorem dX6_claims_4 : decode cX6_claims 4 = .ok (.iconst 2, 1) := by decide +kernel
theorem dX6_claims_5 : decode cX6_claims 5 = .ok (.if_icmp .ge 14, 3) := by decide +kernel
theorem dX6_claims_8 : decode cX6_claims 8 = .ok (.aload_n 0, 1) := by decide +kernel
theorem dX6_claims_9 : decode cX6_claims 9 = .ok (.iconst 2, 1) := by decide +kernel
theorem dX6_claims_10 : decode cX6_claims 10 = .ok (.aload_n 0, 1) := by decide +kernel
theorem dX6_claims_11 : decode cX6_claims 11 = .ok (.getfield 52, 3) := by decide +kernel
theorem dX6_claims_14 : decode cX6_claims 14 = .ok (.iadd, 1) := by decide +kernel
theorem dX6_claims_15 : decode cX6_claims 15 = .ok (.invokevirtual 67, 3) := by decide +kernel
theorem dX6_claims_18 : decode cX6_claims 18 = .ok (.ireturn, 1) := by decide +kernel
theorem dX6_claims_19 : decode cX6_claims 19 = .ok (.aload_n 0, 1) := by decide +kernel
theorem dX6_claims_20 : decode cX6_claims 20 = .ok (.getfield 52, 3) := by decide +kernel
theorem dX6_claims_23 : decode cX6_claims 23 = .ok (.iconst 4, 1) := by decide +kernel
theorem dX6_claims_24 : decode cX6_claims 24 = .ok (.if_icmp .ne 19, 3) := by decide +kernel
theorem dX6_claims_27 : decode cX6_claims 27 = .ok (.aload_n 0, 1) := by decide +kernel
theorem dX6_claims_28 : decode cX6_claims 28 = .ok (.invokevirtual 70, 3) := by decide +kernel
theorem dX6_claims_31 : decode cX6_claims 31 = .ok (.aload_n 0, 1) := by decide +kernel
theorem dX6_claims_32 : decode cX6_claims 32 = .ok (.getfield 34, 3) := by decide +kernel
theorem dX6_claims_35 : decode cX6_claims 35 = .ok (.aload_n 0, 1) := by decide +kernel
theorem dX6_claims_36 : decode cX6_claims 36 = .ok (.invokevirtual 74, 3) := by decide +kernel
theorem dX6_claims_39 : decode cX6_claims 39 = .ok (.isub, 1) := by decide +kernel
theorem dX6_claims_40 : decode cX6_claims 40 = .ok (.if_icmp .ne 7, 3) := by decide +kernel
theorem dX6_claims_43 : decode cX6_claims 43 = .ok (.iconst 1, 1) := by decide +kernel
theorem dX6_claims_44 : decode cX6_claims 44 = .ok (.goto 4, 3) := by decide +kernel
theorem dX6_claims_47 : decode cX6_claims 47 = .ok (.iconst 0, 1) := by decide +kernel
theorem dX6_claims_48 : decode cX6_claims 48 = .ok (.istore_n 1, 1) := by decide +kernel
theorem dX6_claims_49 : decode cX6_claims 49 = .ok (.iconst 0, 1) := by decide +kernel
theorem dX6_claims_50 : decode cX6_claims 50 = .ok (.istore_n 2, 1) := by decide +kernel
theorem dX6_claims_51 : decode cX6_claims 51 = .ok (.iload_n 2, 1) := by decide +kernel
theorem dX6_claims_52 : decode cX6_claims 52 = .ok (.aload_n 0, 1) := by decide +kernel
theorem dX6_claims_53 : decode cX6_claims 53 = .ok (.getfield 34, 3) := by decide +kernel
theorem dX6_claims_56 : decode cX6_claims 56 = .ok (.if_icmp .ge 119, 3) := by decide +kernel
theorem dX6_claims_59 : decode cX6_claims 59 = .ok (.aload_n 0, 1) := by decide +kernel
theorem dX6_claims_60 : decode cX6_claims 60 = .ok (.getfield 52, 3) := by decide +kernel
theorem dX6_claims_63 : decode cX6_claims 63 = .ok (.iconst 2, 1) := by decide +kernel
theorem dX6_claims_64 : decode cX6_claims 64 = .ok (.if_icmp .ne 53, 3) := by decide +kernel
theorem dX6_claims_67 : decode cX6_claims 67 = .ok (.aload_n 0, 1) := by decide +kernel
theorem dX6_claims_68 : decode cX6_claims 68 = .ok (.iload_n 2, 1) := by decide +kernel
theorem dX6_claims_69 : decode cX6_claims 69 = .ok (.invokevirtual 77, 3) := by decide +kernel
theorem dX6_claims_72 : decode cX6_claims 72 = .ok (.istore_n 3, 1) := by decide +kernel
theorem dX6_claims_73 : decode cX6_claims 73 = .ok (.iload_n 1, 1) := by decide +kernel
theorem dX6_claims_74 : decode cX6_claims 74 = .ok (.ifCond .eq 12, 3) := by decide +kernel
theorem dX6_claims_77 : decode cX6_claims 77 = .ok (.iload_n 3, 1) := by decide +kernel
theorem dX6_claims_78 : decode cX6_claims 78 = .ok (.iconst (-1), 1) := by decide +kernel
theorem dX6_claims_79 : decode cX6_claims 79 = .ok (.if_icmp .eq 7, 3) := by decide +kernel
theorem dX6_claims_82 : decode cX6_claims 82 = .ok (.iconst 1, 1) := by decide +kernel
theorem dX6_claims_83 : decode cX6_claims 83 = .ok (.goto 4, 3) := by decide +kernel
theorem dX6_claims_86 : decode cX6_claims 86 = .ok (.iconst 0, 1) := by decide +kernel
theorem dX6_claims_87 : decode cX6_claims 87 = .ok (.istore_n 1, 1) := by decide +kernel
theorem dX6_claims_88 : decode cX6_claims 88 = .ok (.aload_n 0, 1) := by decide +kernel
theorem dX6_claims_89 : decode cX6_claims 89 = .ok (.getfield 25, 3) := by decide +kernel
theorem dX6_claims_92 : decode cX6_claims 92 = .ok (.iload_n 2, 1) := by decide +kernel
theorem dX6_claims_93 : decode cX6_claims 93 = .ok (.iload_n 3, 1) := by decide +kernel
theorem dX6_claims_94 : decode cX6_claims 94 = .ok (.iconst (-1), 1) := by decide +kernel
theorem dX6_claims_95 : decode cX6_claims 95 = .ok (.if_icmp .ne 7, 3) := by decide +kernel
theorem dX6_claims_98 : decode cX6_claims 98 = .ok (.iconst 0, 1) := by decide +kernel
theorem dX6_claims_99 : decode cX6_claims 99 = .ok (.goto 14, 3) := by decide +kernel
theorem dX6_claims_102 : decode cX6_claims 102 = .ok (.bipush 8, 2) := by decide +kernel
theorem dX6_claims_104 : decode cX6_claims 104 = .ok (.iload_n 3, 1) := by decide +kernel
theorem dX6_claims_105 : decode cX6_claims 105 = .ok (.imul, 1) := by decide +kernel
theorem dX6_claims_106 : decode cX6_claims 106 = .ok (.aload_n 0, 1) := by decide +kernel
theorem dX6_claims_107 : decode cX6_claims 107 = .ok (.getfield 22, 3) := by decide +kernel
theorem dX6_claims_110 : decode cX6_claims 110 = .ok (.iload_n 3, 1) := by decide +kernel
theorem dX6_claims_111 : decode cX6_claims 111 = .ok (.iaload, 1) := by decide +kernel
theorem dX6_claims_112 : decode cX6_claims 112 = .ok (.iadd, 1) := by decide +kernel
theorem dX6_claims_113 : decode cX6_claims 113 = .ok (.iastore, 1) := by decide +kernel
theorem dX6_claims_114 : decode cX6_claims 114 = .ok (.goto 55, 3) := by decide +kernel
theorem dX6_claims_117 : decode cX6_claims 117 = .ok (.aload_n 0, 1) := by decide +kernel
theorem dX6_claims_118 : decode cX6_claims 118 = .ok (.getfield 52, 3) := by decide +kernel
theorem dX6_claims_121 : decode cX6_claims 121 = .ok (.iconst 3, 1) := by decide +kernel
theorem dX6_claims_122 : decode cX6_claims 122 = .ok (.if_icmp .ne 31, 3) := by decide +kernel
theorem dX6_claims_125 : decode cX6_claims 125 = .ok (.iload_n 1, 1) := by decide +kernel
theorem dX6_claims_126 : decode cX6_claims 126 = .ok (.ifCond .eq 15, 3) := by decide +kernel
theorem dX6_claims_129 : decode cX6_claims 129 = .ok (.aload_n 0, 1) := by decide +kernel
theorem dX6_claims_130 : decode cX6_claims 130 = .ok (.iload_n 2, 1) := by decide +kernel
theorem dX6_claims_131 : decode cX6_claims 131 = .ok (.invokevirtual 80, 3) := by decide +kernel
theorem dX6_claims_134 : decode cX6_claims 134 = .ok (.ifCond .eq 7, 3) := by decide +kernel
theorem dX6_claims_137 : decode cX6_claims 137 = .ok (.iconst 1, 1) := by decide +kernel
theorem dX6_claims_138 : decode cX6_claims 138 = .ok (.goto 4, 3) := by decide +kernel
theorem dX6_claims_141 : decode cX6_claims 141 = .ok (.iconst 0, 1) := by decide +kernel
theorem dX6_claims_142 : decode cX6_claims 142 = .ok (.istore_n 1, 1) := by decide +kernel
theorem dX6_claims_143 : decode cX6_claims 143 = .ok (.aload_n 0, 1) := by decide +kernel
theorem dX6_claims_144 : decode cX6_claims 144 = .ok (.getfield 25, 3) := by decide +kernel
theorem dX6_claims_147 : decode cX6_claims 147 = .ok (.iload_n 2, 1) := by decide +kernel
theorem dX6_claims_148 : decode cX6_claims 148 = .ok (.iconst 0, 1) := by decide +kernel
theorem dX6_claims_149 : decode cX6_claims 149 = .ok (.iastore, 1) := by decide +kernel
theorem dX6_claims_150 : decode cX6_claims 150 = .ok (.goto 19, 3) := by decide +kernel
theorem dX6_claims_153 : decode cX6_claims 153 = .ok (.aload_n 0, 1) := by decide +kernel
theorem dX6_claims_154 : decode cX6_claims 154 = .ok (.getfield 25, 3) := by decide +kernel
theorem dX6_claims_157 : decode cX6_claims 157 = .ok (.iload_n 2, 1) := by decide +kernel
theorem dX6_claims_158 : decode cX6_claims 158 = .ok (.aload_n 0, 1) := by decide +kernel
theorem dX6_claims_159 : decode cX6_claims 159 = .ok (.getfield 22, 3) := by decide +kernel
theorem dX6_claims_162 : decode cX6_claims 162 = .ok (.aload_n 0, 1) := by decide +kernel
theorem dX6_claims_163 : decode cX6_claims 163 = .ok (.iload_n 2, 1) := by decide +kernel
theorem dX6_claims_164 : decode cX6_claims 164 = .ok (.invokevirtual 63, 3) := by decide +kernel
theorem dX6_claims_167 : decode cX6_claims 167 = .ok (.iaload, 1) := by decide +kernel
theorem dX6_claims_168 : decode cX6_claims 168 = .ok (.iastore, 1) := by decide +kernel
theorem dX6_claims_169 : decode cX6_claims 169 = .ok (.iinc 2 1, 3) := by decide +kernel
theorem dX6_claims_172 : decode cX6_claims 172 = .ok (.goto (-121), 3) := by decide +kernel
theorem dX6_claims_175 : decode cX6_claims 175 = .ok (.iload_n 1, 1) := by decide +kernel
theorem dX6_claims_176 : decode cX6_claims 176 = .ok (.ireturn, 1) := by decide +kernel
theorem dX6_holds_0 : decode cX6_holds 0 = .ok (.aload_n 0, 1) := by decide +kernel
theorem dX6_holds_1 : decode cX6_holds 1 = .ok (.invokevirtual 83, 3) := by decide +kernel
theorem dX6_holds_4 : decode cX6_holds 4 = .ok (.ifCond .eq 7, 3) := by decide +kernel
theorem dX6_holds_7 : decode cX6_holds 7 = .ok (.iconst 1, 1) := by decide +kernel
theorem dX6_holds_8 : decode cX6_holds 8 = .ok (.goto 4, 3) := by decide +kernel
theorem dX6_holds_11 : decode cX6_holds 11 = .ok (.iconst 0, 1) := by decide +kernel
theorem dX6_holds_12 : decode cX6_holds 12 = .ok (.ireturn, 1) := by decide +kernel
theorem dX6_sets_0 : decode cX6_sets 0 = .ok (.aload_n 0, 1) := by decide +kernel
theorem dX6_sets_1 : decode cX6_sets 1 = .ok (.invokevirtual 74, 3) := by decide +kernel
theorem dX6_sets_4 : decode cX6_sets 4 = .ok (.ireturn, 1) := by decide +kernel
theorem dX6_far_0 : decode cX6_far 0 = .ok (.aload_n 0, 1) := by decide +kernel
theorem dX6_far_1 : decode cX6_far 1 = .ok (.iload_n 1, 1) := by decide +kernel
theorem dX6_far_2 : decode cX6_far 2 = .ok (.invokevirtual 44, 3) := by decide +kernel
theorem dX6_far_5 : decode cX6_far 5 = .ok (.ifCond .eq 11, 3) := by decide +kernel
theorem dX6_far_8 : decode cX6_far 8 = .ok (.aload_n 0, 1) := by decide +kernel
theorem dX6_far_9 : decode cX6_far 9 = .ok (.iload_n 2, 1) := by decide +kernel
theorem dX6_far_10 : decode cX6_far 10 = .ok (.invokevirtual 44, 3) := by decide +kernel
theorem dX6_far_13 : decode cX6_far 13 = .ok (.ifCond .ne 6, 3) := by decide +kernel
theorem dX6_far_16 : decode cX6_far 16 = .ok (.bipush (-101), 2) := by decide +kernel
theorem dX6_far_18 : decode cX6_far 18 = .ok (.ireturn, 1) := by decide +kernel
theorem dX6_far_19 : decode cX6_far 19 = .ok (.aload_n 0, 1) := by decide +kernel
theorem dX6_far_20 : decode cX6_far 20 = .ok (.iload_n 1, 1) := by decide +kernel
theorem dX6_far_21 : decode cX6_far 21 = .ok (.invokevirtual 59, 3) := by decide +kernel
theorem dX6_far_24 : decode cX6_far 24 = .ok (.aload_n 0, 1) := by decide +kernel
theorem dX6_far_25 : decode cX6_far 25 = .ok (.getfield 22, 3) := by decide +kernel
theorem dX6_far_28 : decode cX6_far 28 = .ok (.iload_n 2, 1) := by decide +kernel
theorem dX6_far_29 : decode cX6_far 29 = .ok (.iaload, 1) := by decide +kernel
theorem dX6_far_30 : decode cX6_far 30 = .ok (.ireturn, 1) := by decide +kernel
theorem dX6_proof_0 : decode cX6_proof 0 = .ok (.aload_n 0, 1) := by decide +kernel
theorem dX6_proof_1 : decode cX6_proof 1 = .ok (.iload_n 1, 1) := by decide +kernel
theorem dX6_proof_2 : decode cX6_proof 2 = .ok (.invokevirtual 44, 3) := by decide +kernel
theorem dX6_proof_5 : decode cX6_proof 5 = .ok (.ifCond .ne 6, 3) := by decide +kernel
theorem dX6_proof_8 : decode cX6_proof 8 = .ok (.bipush (-101), 2) := by decide +kernel
theorem dX6_proof_10 : decode cX6_proof 10 = .ok (.ireturn, 1) := by decide +kernel
theorem dX6_proof_11 : decode cX6_proof 11 = .ok (.iload_n 2, 1) := by decide +kernel
theorem dX6_proof_12 : decode cX6_proof 12 = .ok (.i2l, 1) := by decide +kernel
theorem dX6_proof_13 : decode cX6_proof 13 = .ok (.lconst 0, 1) := by decide +kernel
theorem dX6_proof_14 : decode cX6_proof 14 = .ok (.ldc2_w 87, 3) := by decide +kernel
theorem dX6_proof_17 : decode cX6_proof 17 = .ok (.invokestatic 38, 3) := by decide +kernel
theorem dX6_proof_20 : decode cX6_proof 20 = .ok (.ifCond .ne 6, 3) := by decide +kernel
theorem dX6_proof_23 : decode cX6_proof 23 = .ok (.bipush (-102), 2) := by decide +kernel
theorem dX6_proof_25 : decode cX6_proof 25 = .ok (.ireturn, 1) := by decide +kernel
theorem dX6_proof_26 : decode cX6_proof 26 = .ok (.aload_n 0, 1) := by decide +kernel
theorem dX6_proof_27 : decode cX6_proof 27 = .ok (.getfield 16, 3) := by decide +kernel
theorem dX6_proof_30 : decode cX6_proof 30 = .ok (.iload_n 1, 1) := by decide +kernel
theorem dX6_proof_31 : decode cX6_proof 31 = .ok (.iaload, 1) := by decide +kernel
theorem dX6_proof_32 : decode cX6_proof 32 = .ok (.istore_n 3, 1) := by decide +kernel
theorem dX6_proof_33 : decode cX6_proof 33 = .ok (.aload_n 0, 1) := by decide +kernel
theorem dX6_proof_34 : decode cX6_proof 34 = .ok (.getfield 16, 3) := by decide +kernel
theorem dX6_proof_37 : decode cX6_proof 37 = .ok (.iload_n 1, 1) := by decide +kernel
theorem dX6_proof_38 : decode cX6_proof 38 = .ok (.iload_n 2, 1) := by decide +kernel
theorem dX6_proof_39 : decode cX6_proof 39 = .ok (.iastore, 1) := by decide +kernel
theorem dX6_proof_40 : decode cX6_proof 40 = .ok (.iload_n 3, 1) := by decide +kernel
theorem dX6_proof_41 : decode cX6_proof 41 = .ok (.ireturn, 1) := by decide +kernel
theorem dX6_hasAccepted_0 : decode cX6_hasAccepted 0 = .ok (.aload_n 0, 1) := by decide +kernel
theorem dX6_hasAccepted_1 : decode cX6_hasAccepted 1 = .ok (.getfield 16, 3) := by decide +kernel
theorem dX6_hasAccepted_4 : decode cX6_hasAccepted 4 = .ok (.iload_n 1, 1) := by decide +kernel
theorem dX6_hasAccepted_5 : decode cX6_hasAccepted 5 = .ok (.iaload, 1) := by decide +kernel
theorem dX6_hasAccepted_6 : decode cX6_hasAccepted 6 = .ok (.istore_n 2, 1) := by decide +kernel
theorem dX6_hasAccepted_7 : decode cX6_hasAccepted 7 = .ok (.aload_n 0, 1) := by decide +kernel
theorem dX6_hasAccepted_8 : decode cX6_hasAccepted 8 = .ok (.getfield 52, 3) := by decide +kernel
theorem dX6_hasAccepted_11 : decode cX6_hasAccepted 11 = .ok (.iconst 3, 1) := by decide +kernel
theorem dX6_hasAccepted_12 : decode cX6_hasAccepted 12 = .ok (.if_icmp .ne 21, 3) := by decide +kernel
theorem dX6_hasAccepted_15 : decode cX6_hasAccepted 15 = .ok (.iload_n 2, 1) := by decide +kernel
theorem dX6_hasAccepted_16 : decode cX6_hasAccepted 16 = .ok (.ifCond .ne 15, 3) := by decide +kernel
theorem dX6_hasAccepted_19 : decode cX6_hasAccepted 19 = .ok (.aload_n 0, 1) := by decide +kernel
theorem dX6_hasAccepted_20 : decode cX6_hasAccepted 20 = .ok (.iload_n 1, 1) := by decide +kernel
theorem dX6_hasAccepted_21 : decode cX6_hasAccepted 21 = .ok (.invokevirtual 80, 3) := by decide +kernel
theorem dX6_hasAccepted_24 : decode cX6_hasAccepted 24 = .ok (.ifCond .eq 7, 3) := by decide +kernel
theorem dX6_hasAccepted_27 : decode cX6_hasAccepted 27 = .ok (.iconst 1, 1) := by decide +kernel
theorem dX6_hasAccepted_28 : decode cX6_hasAccepted 28 = .ok (.goto 4, 3) := by decide +kernel
theorem dX6_hasAccepted_31 : decode cX6_hasAccepted 31 = .ok (.iconst 0, 1) := by decide +kernel
theorem dX6_hasAccepted_32 : decode cX6_hasAccepted 32 = .ok (.ireturn, 1) := by decide +kernel
theorem dX6_hasAccepted_33 : decode cX6_hasAccepted 33 = .ok (.aload_n 0, 1) := by decide +kernel
theorem dX6_hasAccepted_34 : decode cX6_hasAccepted 34 = .ok (.getfield 52, 3) := by decide +kernel
theorem dX6_hasAccepted_37 : decode cX6_hasAccepted 37 = .ok (.ifCond .ne 16, 3) := by decide +kernel
theorem dX6_hasAccepted_40 : decode cX6_hasAccepted 40 = .ok (.iload_n 2, 1) := by decide +kernel
theorem dX6_hasAccepted_41 : decode cX6_hasAccepted 41 = .ok (.iconst 2, 1) := by decide +kernel
theorem dX6_hasAccepted_42 : decode cX6_hasAccepted 42 = .ok (.if_icmp .ge 7, 3) := by decide +kernel
theorem dX6_hasAccepted_45 : decode cX6_hasAccepted 45 = .ok (.iconst 1, 1) := by decide +kernel
theorem dX6_hasAccepted_46 : decode cX6_hasAccepted 46 = .ok (.goto 47, 3) := by decide +kernel
theorem dX6_hasAccepted_49 : decode cX6_hasAccepted 49 = .ok (.iconst 0, 1) := by decide +kernel
theorem dX6_hasAccepted_50 : decode cX6_hasAccepted 50 = .ok (.goto 43, 3) := by decide +kernel
theorem dX6_hasAccepted_53 : decode cX6_hasAccepted 53 = .ok (.aload_n 0, 1) := by decide +kernel
theorem dX6_hasAccepted_54 : decode cX6_hasAccepted 54 = .ok (.getfield 52, 3) := by decide +kernel
theorem dX6_hasAccepted_57 : decode cX6_hasAccepted 57 = .ok (.iconst 1, 1) := by decide +kernel
theorem dX6_hasAccepted_58 : decode cX6_hasAccepted 58 = .ok (.if_icmp .ne 16, 3) := by decide +kernel
theorem dX6_hasAccepted_61 : decode cX6_hasAccepted 61 = .ok (.iload_n 2, 1) := by decide +kernel
theorem dX6_hasAccepted_62 : decode cX6_hasAccepted 62 = .ok (.iconst 3, 1) := by decide +kernel
theorem dX6_hasAccepted_63 : decode cX6_hasAccepted 63 = .ok (.if_icmp .ge 7, 3) := by decide +kernel
theorem dX6_hasAccepted_66 : decode cX6_hasAccepted 66 = .ok (.iconst 1, 1) := by decide +kernel
theorem dX6_hasAccepted_67 : decode cX6_hasAccepted 67 = .ok (.goto 26, 3) := by decide +kernel
theorem dX6_hasAccepted_70 : decode cX6_hasAccepted 70 = .ok (.iconst 0, 1) := by decide +kernel
theorem dX6_hasAccepted_71 : decode cX6_hasAccepted 71 = .ok (.goto 22, 3) := by decide +kernel
theorem dX6_hasAccepted_74 : decode cX6_hasAccepted 74 = .ok (.aload_n 0, 1) := by decide +kernel
theorem dX6_hasAccepted_75 : decode cX6_hasAccepted 75 = .ok (.getfield 52, 3) := by decide +kernel
theorem dX6_hasAccepted_78 : decode cX6_hasAccepted 78 = .ok (.iconst 2, 1) := by decide +kernel
theorem dX6_hasAccepted_79 : decode cX6_hasAccepted 79 = .ok (.if_icmp .eq 9, 3) := by decide +kernel
theorem dX6_hasAccepted_82 : decode cX6_hasAccepted 82 = .ok (.iload_n 2, 1) := by decide +kernel
theorem dX6_hasAccepted_83 : decode cX6_hasAccepted 83 = .ok (.bipush 8, 2) := by decide +kernel
theorem dX6_hasAccepted_85 : decode cX6_hasAccepted 85 = .ok (.if_icmp .ge 7, 3) := by decide +kernel
theorem dX6_hasAccepted_88 : decode cX6_hasAccepted 88 = .ok (.iconst 1, 1) := by decide +kernel
theorem dX6_hasAccepted_89 : decode cX6_hasAccepted 89 = .ok (.goto 4, 3) := by decide +kernel
theorem dX6_hasAccepted_92 : decode cX6_hasAccepted 92 = .ok (.iconst 0, 1) := by decide +kernel
theorem dX6_hasAccepted_93 : decode cX6_hasAccepted 93 = .ok (.istore_n 3, 1) := by decide +kernel
theorem dX6_hasAccepted_94 : decode cX6_hasAccepted 94 = .ok (.iconst 0, 1) := by decide +kernel
theorem dX6_hasAccepted_95 : decode cX6_hasAccepted 95 = .ok (.istore 4, 2) := by decide +kernel
theorem dX6_hasAccepted_97 : decode cX6_hasAccepted 97 = .ok (.iconst 0, 1) := by decide +kernel
theorem dX6_hasAccepted_98 : decode cX6_hasAccepted 98 = .ok (.istore 5, 2) := by decide +kernel
theorem dX6_hasAccepted_100 : decode cX6_hasAccepted 100 = .ok (.iload 5, 2) := by decide +kernel
theorem dX6_hasAccepted_102 : decode cX6_hasAccepted 102 = .ok (.aload_n 0, 1) := by decide +kernel
theorem dX6_hasAccepted_103 : decode cX6_hasAccepted 103 = .ok (.getfield 34, 3) := by decide +kernel
theorem dX6_hasAccepted_106 : decode cX6_hasAccepted 106 = .ok (.if_icmp .ge 156, 3) := by decide +kernel
theorem dX6_hasAccepted_109 : decode cX6_hasAccepted 109 = .ok (.aload_n 0, 1) := by decide +kernel
theorem dX6_hasAccepted_110 : decode cX6_hasAccepted 110 = .ok (.iload_n 1, 1) := by decide +kernel
theorem dX6_hasAccepted_111 : decode cX6_hasAccepted 111 = .ok (.iload 5, 2) := by decide +kernel
theorem dX6_hasAccepted_113 : decode cX6_hasAccepted 113 = .ok (.invokevirtual 55, 3) := by decide +kernel
theorem dX6_hasAccepted_116 : decode cX6_hasAccepted 116 = .ok (.ifCond .eq 140, 3) := by decide +kernel
theorem dX6_hasAccepted_119 : decode cX6_hasAccepted 119 = .ok (.aload_n 0, 1) := by decide +kernel
theorem dX6_hasAccepted_120 : decode cX6_hasAccepted 120 = .ok (.getfield 16, 3) := by decide +kernel
theorem dX6_hasAccepted_123 : decode cX6_hasAccepted 123 = .ok (.iload 5, 2) := by decide +kernel
theorem dX6_hasAccepted_125 : decode cX6_hasAccepted 125 = .ok (.iaload, 1) := by decide +kernel
theorem dX6_hasAccepted_126 : decode cX6_hasAccepted 126 = .ok (.istore 6, 2) := by decide +kernel
theorem dX6_hasAccepted_128 : decode cX6_hasAccepted 128 = .ok (.aload_n 0, 1) := by decide +kernel
theorem dX6_hasAccepted_129 : decode cX6_hasAccepted 129 = .ok (.getfield 52, 3) := by decide +kernel
theorem dX6_hasAccepted_132 : decode cX6_hasAccepted 132 = .ok (.iconst 2, 1) := by decide +kernel
theorem dX6_hasAccepted_133 : decode cX6_hasAccepted 133 = .ok (.if_icmp .ge 22, 3) := by decide +kernel
theorem dX6_hasAccepted_136 : decode cX6_hasAccepted 136 = .ok (.iload_n 3, 1) := by decide +kernel
theorem dX6_hasAccepted_137 : decode cX6_hasAccepted 137 = .ok (.ifCond .eq 13, 3) := by decide +kernel
theorem dX6_hasAccepted_140 : decode cX6_hasAccepted 140 = .ok (.iload 6, 2) := by decide +kernel
theorem dX6_hasAccepted_142 : decode cX6_hasAccepted 142 = .ok (.iload_n 2, 1) := by decide +kernel
theorem dX6_hasAccepted_143 : decode cX6_hasAccepted 143 = .ok (.if_icmp .eq 7, 3) := by decide +kernel
theorem dX6_hasAccepted_146 : decode cX6_hasAccepted 146 = .ok (.iconst 1, 1) := by decide +kernel
theorem dX6_hasAccepted_147 : decode cX6_hasAccepted 147 = .ok (.goto 4, 3) := by decide +kernel
theorem dX6_hasAccepted_150 : decode cX6_hasAccepted 150 = .ok (.iconst 0, 1) := by decide +kernel
theorem dX6_hasAccepted_151 : decode cX6_hasAccepted 151 = .ok (.istore_n 3, 1) := by decide +kernel
theorem dX6_hasAccepted_152 : decode cX6_hasAccepted 152 = .ok (.goto 104, 3) := by decide +kernel
theorem dX6_hasAccepted_155 : decode cX6_hasAccepted 155 = .ok (.aload_n 0, 1) := by decide +kernel
theorem dX6_hasAccepted_156 : decode cX6_hasAccepted 156 = .ok (.getfield 52, 3) := by decide +kernel
theorem dX6_hasAccepted_159 : decode cX6_hasAccepted 159 = .ok (.iconst 2, 1) := by decide +kernel
theorem dX6_hasAccepted_160 : decode cX6_hasAccepted 160 = .ok (.if_icmp .ne 52, 3) := by decide +kernel
theorem dX6_hasAccepted_163 : decode cX6_hasAccepted 163 = .ok (.iload_n 3, 1) := by decide +kernel
theorem dX6_hasAccepted_164 : decode cX6_hasAccepted 164 = .ok (.ifCond .eq 19, 3) := by decide +kernel
theorem dX6_hasAccepted_167 : decode cX6_hasAccepted 167 = .ok (.iload 6, 2) := by decide +kernel
theorem dX6_hasAccepted_169 : decode cX6_hasAccepted 169 = .ok (.bipush 8, 2) := by decide +kernel
theorem dX6_hasAccepted_171 : decode cX6_hasAccepted 171 = .ok (.idiv, 1) := by decide +kernel
theorem dX6_hasAccepted_172 : decode cX6_hasAccepted 172 = .ok (.iload_n 2, 1) := by decide +kernel
theorem dX6_hasAccepted_173 : decode cX6_hasAccepted 173 = .ok (.bipush 8, 2) := by decide +kernel
theorem dX6_hasAccepted_175 : decode cX6_hasAccepted 175 = .ok (.idiv, 1) := by decide +kernel
theorem dX6_hasAccepted_176 : decode cX6_hasAccepted 176 = .ok (.if_icmp .ne 7, 3) := by decide +kernel
theorem dX6_hasAccepted_179 : decode cX6_hasAccepted 179 = .ok (.iconst 1, 1) := by decide +kernel
theorem dX6_hasAccepted_180 : decode cX6_hasAccepted 180 = .ok (.goto 4, 3) := by decide +kernel
theorem dX6_hasAccepted_183 : decode cX6_hasAccepted 183 = .ok (.iconst 0, 1) := by decide +kernel
theorem dX6_hasAccepted_184 : decode cX6_hasAccepted 184 = .ok (.istore_n 3, 1) := by decide +kernel
theorem dX6_hasAccepted_185 : decode cX6_hasAccepted 185 = .ok (.iload 4, 2) := by decide +kernel
theorem dX6_hasAccepted_187 : decode cX6_hasAccepted 187 = .ok (.iload 6, 2) := by decide +kernel
theorem dX6_hasAccepted_189 : decode cX6_hasAccepted 189 = .ok (.bipush 8, 2) := by decide +kernel
theorem dX6_hasAccepted_191 : decode cX6_hasAccepted 191 = .ok (.irem, 1) := by decide +kernel
theorem dX6_hasAccepted_192 : decode cX6_hasAccepted 192 = .ok (.iload_n 2, 1) := by decide +kernel
theorem dX6_hasAccepted_193 : decode cX6_hasAccepted 193 = .ok (.bipush 8, 2) := by decide +kernel
theorem dX6_hasAccepted_195 : decode cX6_hasAccepted 195 = .ok (.irem, 1) := by decide +kernel
theorem dX6_hasAccepted_196 : decode cX6_hasAccepted 196 = .ok (.iconst 1, 1) := by decide +kernel
theorem dX6_hasAccepted_197 : decode cX6_hasAccepted 197 = .ok (.isub, 1) := by decide +kernel
theorem dX6_hasAccepted_198 : decode cX6_hasAccepted 198 = .ok (.if_icmp .ne 7, 3) := by decide +kernel
theorem dX6_hasAccepted_201 : decode cX6_hasAccepted 201 = .ok (.iconst 1, 1) := by decide +kernel
theorem dX6_hasAccepted_202 : decode cX6_hasAccepted 202 = .ok (.goto 4, 3) := by decide +kernel
theorem dX6_hasAccepted_205 : decode cX6_hasAccepted 205 = .ok (.iconst 0, 1) := by decide +kernel
theorem dX6_hasAccepted_206 : decode cX6_hasAccepted 206 = .ok (.iadd, 1) := by decide +kernel
theorem dX6_hasAccepted_207 : decode cX6_hasAccepted 207 = .ok (.istore 4, 2) := by decide +kernel
theorem dX6_hasAccepted_209 : decode cX6_hasAccepted 209 = .ok (.goto 47, 3) := by decide +kernel
theorem dX6_hasAccepted_212 : decode cX6_hasAccepted 212 = .ok (.iload_n 3, 1) := by decide +kernel
theorem dX6_hasAccepted_213 : decode cX6_hasAccepted 213 = .ok (.ifCond .eq 23, 3) := by decide +kernel
theorem dX6_hasAccepted_216 : decode cX6_hasAccepted 216 = .ok (.iload 6, 2) := by decide +kernel
theorem dX6_hasAccepted_218 : decode cX6_hasAccepted 218 = .ok (.iload_n 2, 1) := by decide +kernel
theorem dX6_hasAccepted_219 : decode cX6_hasAccepted 219 = .ok (.iconst 1, 1) := by decide +kernel
theorem dX6_hasAccepted_220 : decode cX6_hasAccepted 220 = .ok (.isub, 1) := by decide +kernel
theorem dX6_hasAccepted_221 : decode cX6_hasAccepted 221 = .ok (.if_icmp .eq 11, 3) := by decide +kernel
theorem dX6_hasAccepted_224 : decode cX6_hasAccepted 224 = .ok (.iload 6, 2) := by decide +kernel
theorem dX6_hasAccepted_226 : decode cX6_hasAccepted 226 = .ok (.iload_n 2, 1) := by decide +kernel
theorem dX6_hasAccepted_227 : decode cX6_hasAccepted 227 = .ok (.iconst 1, 1) := by decide +kernel
theorem dX6_hasAccepted_228 : decode cX6_hasAccepted 228 = .ok (.iadd, 1) := by decide +kernel
theorem dX6_hasAccepted_229 : decode cX6_hasAccepted 229 = .ok (.if_icmp .ne 7, 3) := by decide +kernel
theorem dX6_hasAccepted_232 : decode cX6_hasAccepted 232 = .ok (.iconst 1, 1) := by decide +kernel
theorem dX6_hasAccepted_233 : decode cX6_hasAccepted 233 = .ok (.goto 4, 3) := by decide +kernel
theorem dX6_hasAccepted_236 : decode cX6_hasAccepted 236 = .ok (.iconst 0, 1) := by decide +kernel
theorem dX6_hasAccepted_237 : decode cX6_hasAccepted 237 = .ok (.istore_n 3, 1) := by decide +kernel
theorem dX6_hasAccepted_238 : decode cX6_hasAccepted 238 = .ok (.iload 4, 2) := by decide +kernel
theorem dX6_hasAccepted_240 : decode cX6_hasAccepted 240 = .ok (.iload 6, 2) := by decide +kernel
theorem dX6_hasAccepted_242 : decode cX6_hasAccepted 242 = .ok (.iload_n 2, 1) := by decide +kernel
theorem dX6_hasAccepted_243 : decode cX6_hasAccepted 243 = .ok (.iconst 1, 1) := by decide +kernel
theorem dX6_hasAccepted_244 : decode cX6_hasAccepted 244 = .ok (.isub, 1) := by decide +kernel
theorem dX6_hasAccepted_245 : decode cX6_hasAccepted 245 = .ok (.if_icmp .ne 7, 3) := by decide +kernel
theorem dX6_hasAccepted_248 : decode cX6_hasAccepted 248 = .ok (.iconst 1, 1) := by decide +kernel
theorem dX6_hasAccepted_249 : decode cX6_hasAccepted 249 = .ok (.goto 4, 3) := by decide +kernel
theorem dX6_hasAccepted_252 : decode cX6_hasAccepted 252 = .ok (.iconst 0, 1) := by decide +kernel
theorem dX6_hasAccepted_253 : decode cX6_hasAccepted 253 = .ok (.iadd, 1) := by decide +kernel
theorem dX6_hasAccepted_254 : decode cX6_hasAccepted 254 = .ok (.istore 4, 2) := by decide +kernel
theorem dX6_hasAccepted_256 : decode cX6_hasAccepted 256 = .ok (.iinc 5 1, 3) := by decide +kernel
theorem dX6_hasAccepted_259 : decode cX6_hasAccepted 259 = .ok (.goto (-159), 3) := by decide +kernel
theorem dX6_hasAccepted_262 : decode cX6_hasAccepted 262 = .ok (.aload_n 0, 1) := by decide +kernel
theorem dX6_hasAccepted_263 : decode cX6_hasAccepted 263 = .ok (.getfield 52, 3) := by decide +kernel
theorem dX6_hasAccepted_266 : decode cX6_hasAccepted 266 = .ok (.iconst 2, 1) := by decide +kernel
theorem dX6_hasAccepted_267 : decode cX6_hasAccepted 267 = .ok (.if_icmp .ne 56, 3) := by decide +kernel
theorem dX6_hasAccepted_270 : decode cX6_hasAccepted 270 = .ok (.iload_n 3, 1) := by decide +kernel
theorem dX6_hasAccepted_271 : decode cX6_hasAccepted 271 = .ok (.ifCond .eq 50, 3) := by decide +kernel
theorem dX6_hasAccepted_274 : decode cX6_hasAccepted 274 = .ok (.iload_n 2, 1) := by decide +kernel
theorem dX6_hasAccepted_275 : decode cX6_hasAccepted 275 = .ok (.bipush 8, 2) := by decide +kernel
theorem dX6_hasAccepted_277 : decode cX6_hasAccepted 277 = .ok (.irem, 1) := by decide +kernel
theorem dX6_hasAccepted_278 : decode cX6_hasAccepted 278 = .ok (.ifCond .ne 24, 3) := by decide +kernel
theorem dX6_hasAccepted_281 : decode cX6_hasAccepted 281 = .ok (.iload_n 1, 1) := by decide +kernel
theorem dX6_hasAccepted_282 : decode cX6_hasAccepted 282 = .ok (.iload_n 2, 1) := by decide +kernel
theorem dX6_hasAccepted_283 : decode cX6_hasAccepted 283 = .ok (.bipush 8, 2) := by decide +kernel
theorem dX6_hasAccepted_285 : decode cX6_hasAccepted 285 = .ok (.idiv, 1) := by decide +kernel
theorem dX6_hasAccepted_286 : decode cX6_hasAccepted 286 = .ok (.if_icmp .ne 35, 3) := by decide +kernel
theorem dX6_hasAccepted_289 : decode cX6_hasAccepted 289 = .ok (.aload_n 0, 1) := by decide +kernel
theorem dX6_hasAccepted_290 : decode cX6_hasAccepted 290 = .ok (.getfield 13, 3) := by decide +kernel
theorem dX6_hasAccepted_293 : decode cX6_hasAccepted 293 = .ok (.iload_n 1, 1) := by decide +kernel
theorem dX6_hasAccepted_294 : decode cX6_hasAccepted 294 = .ok (.iaload, 1) := by decide +kernel
theorem dX6_hasAccepted_295 : decode cX6_hasAccepted 295 = .ok (.iconst 1, 1) := by decide +kernel
theorem dX6_hasAccepted_296 : decode cX6_hasAccepted 296 = .ok (.if_icmp .ne 25, 3) := by decide +kernel
theorem dX6_hasAccepted_299 : decode cX6_hasAccepted 299 = .ok (.goto 18, 3) := by decide +kernel
theorem dX6_hasAccepted_302 : decode cX6_hasAccepted 302 = .ok (.aload_n 0, 1) := by decide +kernel
theorem dX6_hasAccepted_303 : decode cX6_hasAccepted 303 = .ok (.getfield 13, 3) := by decide +kernel
theorem dX6_hasAccepted_306 : decode cX6_hasAccepted 306 = .ok (.iload_n 1, 1) := by decide +kernel
theorem dX6_hasAccepted_307 : decode cX6_hasAccepted 307 = .ok (.iaload, 1) := by decide +kernel
theorem dX6_hasAccepted_308 : decode cX6_hasAccepted 308 = .ok (.iconst 1, 1) := by decide +kernel
theorem dX6_hasAccepted_309 : decode cX6_hasAccepted 309 = .ok (.if_icmp .eq 12, 3) := by decide +kernel
theorem dX6_hasAccepted_312 : decode cX6_hasAccepted 312 = .ok (.iload 4, 2) := by decide +kernel
theorem dX6_hasAccepted_314 : decode cX6_hasAccepted 314 = .ok (.ifCond .le 7, 3) := by decide +kernel
theorem dX6_hasAccepted_317 : decode cX6_hasAccepted 317 = .ok (.iconst 1, 1) := by decide +kernel
theorem dX6_hasAccepted_318 : decode cX6_hasAccepted 318 = .ok (.goto 4, 3) := by decide +kernel
theorem dX6_hasAccepted_321 : decode cX6_hasAccepted 321 = .ok (.iconst 0, 1) := by decide +kernel
theorem dX6_hasAccepted_322 : decode cX6_hasAccepted 322 = .ok (.istore_n 3, 1) := by decide +kernel
theorem dX6_hasAccepted_323 : decode cX6_hasAccepted 323 = .ok (.aload_n 0, 1) := by decide +kernel
theorem dX6_hasAccepted_324 : decode cX6_hasAccepted 324 = .ok (.getfield 52, 3) := by decide +kernel
theorem dX6_hasAccepted_327 : decode cX6_hasAccepted 327 = .ok (.iconst 4, 1) := by decide +kernel
theorem dX6_hasAccepted_328 : decode cX6_hasAccepted 328 = .ok (.if_icmp .ne 23, 3) := by decide +kernel
theorem dX6_hasAccepted_331 : decode cX6_hasAccepted 331 = .ok (.iload_n 3, 1) := by decide +kernel
theorem dX6_hasAccepted_332 : decode cX6_hasAccepted 332 = .ok (.ifCond .eq 17, 3) := by decide +kernel
theorem dX6_hasAccepted_335 : decode cX6_hasAccepted 335 = .ok (.iload_n 2, 1) := by decide +kernel
theorem dX6_hasAccepted_336 : decode cX6_hasAccepted 336 = .ok (.ifCond .eq 9, 3) := by decide +kernel
theorem dX6_hasAccepted_339 : decode cX6_hasAccepted 339 = .ok (.iload 4, 2) := by decide +kernel
theorem dX6_hasAccepted_341 : decode cX6_hasAccepted 341 = .ok (.iconst 1, 1) := by decide +kernel
theorem dX6_hasAccepted_342 : decode cX6_hasAccepted 342 = .ok (.if_icmp .ne 7, 3) := by decide +kernel
theorem dX6_hasAccepted_345 : decode cX6_hasAccepted 345 = .ok (.iconst 1, 1) := by decide +kernel
theorem dX6_hasAccepted_346 : decode cX6_hasAccepted 346 = .ok (.goto 4, 3) := by decide +kernel
theorem dX6_hasAccepted_349 : decode cX6_hasAccepted 349 = .ok (.iconst 0, 1) := by decide +kernel
theorem dX6_hasAccepted_350 : decode cX6_hasAccepted 350 = .ok (.istore_n 3, 1) := by decide +kernel
theorem dX6_hasAccepted_351 : decode cX6_hasAccepted 351 = .ok (.iload_n 3, 1) := by decide +kernel
theorem dX6_hasAccepted_352 : decode cX6_hasAccepted 352 = .ok (.ireturn, 1) := by decide +kernel
theorem dX6_accepts_0 : decode cX6_accepts 0 = .ok (.aload_n 0, 1) := by decide +kernel
theorem dX6_accepts_1 : decode cX6_accepts 1 = .ok (.iload_n 1, 1) := by decide +kernel
theorem dX6_accepts_2 : decode cX6_accepts 2 = .ok (.invokevirtual 44, 3) := by decide +kernel
theorem dX6_accepts_5 : decode cX6_accepts 5 = .ok (.ifCond .ne 8, 3) := by decide +kernel
theorem dX6_accepts_8 : decode cX6_accepts 8 = .ok (.bipush (-101), 2) := by decide +kernel
theorem dX6_accepts_10 : decode cX6_accepts 10 = .ok (.goto 16, 3) := by decide +kernel
theorem dX6_accepts_13 : decode cX6_accepts 13 = .ok (.aload_n 0, 1) := by decide +kernel
theorem dX6_accepts_14 : decode cX6_accepts 14 = .ok (.iload_n 1, 1) := by decide +kernel
theorem dX6_accepts_15 : decode cX6_accepts 15 = .ok (.invokevirtual 89, 3) := by decide +kernel
theorem dX6_accepts_18 : decode cX6_accepts 18 = .ok (.ifCond .eq 7, 3) := by decide +kernel
theorem dX6_accepts_21 : decode cX6_accepts 21 = .ok (.iconst 1, 1) := by decide +kernel
theorem dX6_accepts_22 : decode cX6_accepts 22 = .ok (.goto 4, 3) := by decide +kernel
theorem dX6_accepts_25 : decode cX6_accepts 25 = .ok (.iconst 0, 1) := by decide +kernel
theorem dX6_accepts_26 : decode cX6_accepts 26 = .ok (.ireturn, 1) := by decide +kernel
theorem dX6_againstOf_0 : decode cX6_againstOf 0 = .ok (.iconst 0, 1) := by decide +kernel
theorem dX6_againstOf_1 : decode cX6_againstOf 1 = .ok (.istore_n 1, 1) := by decide +kernel
theorem dX6_againstOf_2 : decode cX6_againstOf 2 = .ok (.iconst 0, 1) := by decide +kernel
theorem dX6_againstOf_3 : decode cX6_againstOf 3 = .ok (.istore_n 2, 1) := by decide +kernel
theorem dX6_againstOf_4 : decode cX6_againstOf 4 = .ok (.iload_n 2, 1) := by decide +kernel
theorem dX6_againstOf_5 : decode cX6_againstOf 5 = .ok (.aload_n 0, 1) := by decide +kernel
theorem dX6_againstOf_6 : decode cX6_againstOf 6 = .ok (.getfield 34, 3) := by decide +kernel
theorem dX6_againstOf_9 : decode cX6_againstOf 9 = .ok (.if_icmp .ge 27, 3) := by decide +kernel
theorem dX6_againstOf_12 : decode cX6_againstOf 12 = .ok (.iload_n 1, 1) := by decide +kernel
theorem dX6_againstOf_13 : decode cX6_againstOf 13 = .ok (.aload_n 0, 1) := by decide +kernel
theorem dX6_againstOf_14 : decode cX6_againstOf 14 = .ok (.iload_n 2, 1) := by decide +kernel
theorem dX6_againstOf_15 : decode cX6_againstOf 15 = .ok (.invokevirtual 89, 3) := by decide +kernel
theorem dX6_againstOf_18 : decode cX6_againstOf 18 = .ok (.ifCond .eq 7, 3) := by decide +kernel
theorem dX6_againstOf_21 : decode cX6_againstOf 21 = .ok (.iconst 0, 1) := by decide +kernel
theorem dX6_againstOf_22 : decode cX6_againstOf 22 = .ok (.goto 6, 3) := by decide +kernel
theorem dX6_againstOf_25 : decode cX6_againstOf 25 = .ok (.iconst 1, 1) := by decide +kernel
theorem dX6_againstOf_26 : decode cX6_againstOf 26 = .ok (.iload_n 2, 1) := by decide +kernel
theorem dX6_againstOf_27 : decode cX6_againstOf 27 = .ok (.ishl, 1) := by decide +kernel
theorem dX6_againstOf_28 : decode cX6_againstOf 28 = .ok (.ior, 1) := by decide +kernel
theorem dX6_againstOf_29 : decode cX6_againstOf 29 = .ok (.istore_n 1, 1) := by decide +kernel
theorem dX6_againstOf_30 : decode cX6_againstOf 30 = .ok (.iinc 2 1, 3) := by decide +kernel
theorem dX6_againstOf_33 : decode cX6_againstOf 33 = .ok (.goto (-29), 3) := by decide +kernel
theorem dX6_againstOf_36 : decode cX6_againstOf 36 = .ok (.iload_n 1, 1) := by decide +kernel
theorem dX6_againstOf_37 : decode cX6_againstOf 37 = .ok (.ireturn, 1) := by decide +kernel
theorem dX6_against_0 : decode cX6_against 0 = .ok (.aload_n 0, 1) := by decide +kernel
theorem dX6_against_1 : decode cX6_against 1 = .ok (.invokevirtual 92, 3) := by decide +kernel
theorem dX6_against_4 : decode cX6_against 4 = .ok (.ireturn, 1) := by decide +kernel
theorem dX6_prove_0 : decode cX6_prove 0 = .ok (.aload_n 0, 1) := by decide +kernel
theorem dX6_prove_1 : decode cX6_prove 1 = .ok (.invokevirtual 83, 3) := by decide +kernel
theorem dX6_prove_4 : decode cX6_prove 4 = .ok (.ifCond .ne 5, 3) := by decide +kernel
theorem dX6_prove_7 : decode cX6_prove 7 = .ok (.iconst 0, 1) := by decide +kernel
theorem dX6_prove_8 : decode cX6_prove 8 = .ok (.ireturn, 1) := by decide +kernel
theorem dX6_prove_9 : decode cX6_prove 9 = .ok (.iconst 0, 1) := by decide +kernel
theorem dX6_prove_10 : decode cX6_prove 10 = .ok (.istore_n 1, 1) := by decide +kernel
theorem dX6_prove_11 : decode cX6_prove 11 = .ok (.iload_n 1, 1) := by decide +kernel
theorem dX6_prove_12 : decode cX6_prove 12 = .ok (.aload_n 0, 1) := by decide +kernel
theorem dX6_prove_13 : decode cX6_prove 13 = .ok (.getfield 34, 3) := by decide +kernel
theorem dX6_prove_16 : decode cX6_prove 16 = .ok (.if_icmp .ge 21, 3) := by decide +kernel
theorem dX6_prove_19 : decode cX6_prove 19 = .ok (.aload_n 0, 1) := by decide +kernel
theorem dX6_prove_20 : decode cX6_prove 20 = .ok (.getfield 16, 3) := by decide +kernel
theorem dX6_prove_23 : decode cX6_prove 23 = .ok (.iload_n 1, 1) := by decide +kernel
theorem dX6_prove_24 : decode cX6_prove 24 = .ok (.aload_n 0, 1) := by decide +kernel
theorem dX6_prove_25 : decode cX6_prove 25 = .ok (.getfield 25, 3) := by decide +kernel
theorem dX6_prove_28 : decode cX6_prove 28 = .ok (.iload_n 1, 1) := by decide +kernel
theorem dX6_prove_29 : decode cX6_prove 29 = .ok (.iaload, 1) := by decide +kernel
theorem dX6_prove_30 : decode cX6_prove 30 = .ok (.iastore, 1) := by decide +kernel
theorem dX6_prove_31 : decode cX6_prove 31 = .ok (.iinc 1 1, 3) := by decide +kernel
theorem dX6_prove_34 : decode cX6_prove 34 = .ok (.goto (-23), 3) := by decide +kernel
theorem dX6_prove_37 : decode cX6_prove 37 = .ok (.iconst 1, 1) := by decide +kernel
theorem dX6_prove_38 : decode cX6_prove 38 = .ok (.ireturn, 1) := by decide +kernel
theorem dX6_allOf_0 : decode cX6_allOf 0 = .ok (.lconst 1, 1) := by decide +kernel
theorem dX6_allOf_1 : decode cX6_allOf 1 = .ok (.lstore_n 2, 1) := by decide +kernel
theorem dX6_allOf_2 : decode cX6_allOf 2 = .ok (.iconst 0, 1) := by decide +kernel
theorem dX6_allOf_3 : decode cX6_allOf 3 = .ok (.istore 4, 2) := by decide +kernel
theorem dX6_allOf_5 : decode cX6_allOf 5 = .ok (.iload 4, 2) := by decide +kernel
theorem dX6_allOf_7 : decode cX6_allOf 7 = .ok (.aload_n 0, 1) := by decide +kernel
theorem dX6_allOf_8 : decode cX6_allOf 8 = .ok (.getfield 34, 3) := by decide +kernel
theorem dX6_allOf_11 : decode cX6_allOf 11 = .ok (.if_icmp .ge 14, 3) := by decide +kernel
theorem dX6_allOf_14 : decode cX6_allOf 14 = .ok (.lload_n 2, 1) := by decide +kernel
theorem dX6_allOf_15 : decode cX6_allOf 15 = .ok (.iload_n 1, 1) := by decide +kernel
theorem dX6_allOf_16 : decode cX6_allOf 16 = .ok (.i2l, 1) := by decide +kernel
theorem dX6_allOf_17 : decode cX6_allOf 17 = .ok (.lmul, 1) := by decide +kernel
theorem dX6_allOf_18 : decode cX6_allOf 18 = .ok (.lstore_n 2, 1) := by decide +kernel
theorem dX6_allOf_19 : decode cX6_allOf 19 = .ok (.iinc 4 1, 3) := by decide +kernel
theorem dX6_allOf_22 : decode cX6_allOf 22 = .ok (.goto (-17), 3) := by decide +kernel
theorem dX6_allOf_25 : decode cX6_allOf 25 = .ok (.lload_n 2, 1) := by decide +kernel
theorem dX6_allOf_26 : decode cX6_allOf 26 = .ok (.lreturn, 1) := by decide +kernel
theorem dX6_goThrough_0 : decode cX6_goThrough 0 = .ok (.aload_n 0, 1) := by decide +kernel
theorem dX6_goThrough_1 : decode cX6_goThrough 1 = .ok (.iload_n 1, 1) := by decide +kernel
theorem dX6_goThrough_2 : decode cX6_goThrough 2 = .ok (.invokevirtual 95, 3) := by decide +kernel
theorem dX6_goThrough_5 : decode cX6_goThrough 5 = .ok (.lstore_n 3, 1) := by decide +kernel
theorem dX6_goThrough_6 : decode cX6_goThrough 6 = .ok (.iconst 0, 1) := by decide +kernel
theorem dX6_goThrough_7 : decode cX6_goThrough 7 = .ok (.istore 5, 2) := by decide +kernel
theorem dX6_goThrough_9 : decode cX6_goThrough 9 = .ok (.iconst 0, 1) := by decide +kernel
theorem dX6_goThrough_10 : decode cX6_goThrough 10 = .ok (.istore 6, 2) := by decide +kernel
theorem dX6_goThrough_12 : decode cX6_goThrough 12 = .ok (.iload 6, 2) := by decide +kernel
theorem dX6_goThrough_14 : decode cX6_goThrough 14 = .ok (.i2l, 1) := by decide +kernel
theorem dX6_goThrough_15 : decode cX6_goThrough 15 = .ok (.lload_n 3, 1) := by decide +kernel
theorem dX6_goThrough_16 : decode cX6_goThrough 16 = .ok (.lcmp, 1) := by decide +kernel
theorem dX6_goThrough_17 : decode cX6_goThrough 17 = .ok (.ifCond .ge 70, 3) := by decide +kernel
theorem dX6_goThrough_20 : decode cX6_goThrough 20 = .ok (.iload 6, 2) := by decide +kernel
theorem dX6_goThrough_22 : decode cX6_goThrough 22 = .ok (.istore 7, 2) := by decide +kernel
theorem dX6_goThrough_24 : decode cX6_goThrough 24 = .ok (.aload_n 0, 1) := by decide +kernel
theorem dX6_goThrough_25 : decode cX6_goThrough 25 = .ok (.getfield 34, 3) := by decide +kernel
theorem dX6_goThrough_28 : decode cX6_goThrough 28 = .ok (.iconst 1, 1) := by decide +kernel
theorem dX6_goThrough_29 : decode cX6_goThrough 29 = .ok (.isub, 1) := by decide +kernel
theorem dX6_goThrough_30 : decode cX6_goThrough 30 = .ok (.istore 8, 2) := by decide +kernel
theorem dX6_goThrough_32 : decode cX6_goThrough 32 = .ok (.iload 8, 2) := by decide +kernel
theorem dX6_goThrough_34 : decode cX6_goThrough 34 = .ok (.ifCond .lt 26, 3) := by decide +kernel
theorem dX6_goThrough_37 : decode cX6_goThrough 37 = .ok (.aload_n 0, 1) := by decide +kernel
theorem dX6_goThrough_38 : decode cX6_goThrough 38 = .ok (.getfield 16, 3) := by decide +kernel
theorem dX6_goThrough_41 : decode cX6_goThrough 41 = .ok (.iload 8, 2) := by decide +kernel
theorem dX6_goThrough_43 : decode cX6_goThrough 43 = .ok (.iload 7, 2) := by decide +kernel
theorem dX6_goThrough_45 : decode cX6_goThrough 45 = .ok (.iload_n 1, 1) := by decide +kernel
theorem dX6_goThrough_46 : decode cX6_goThrough 46 = .ok (.irem, 1) := by decide +kernel
theorem dX6_goThrough_47 : decode cX6_goThrough 47 = .ok (.iastore, 1) := by decide +kernel
theorem dX6_goThrough_48 : decode cX6_goThrough 48 = .ok (.iload 7, 2) := by decide +kernel
theorem dX6_goThrough_50 : decode cX6_goThrough 50 = .ok (.iload_n 1, 1) := by decide +kernel
theorem dX6_goThrough_51 : decode cX6_goThrough 51 = .ok (.idiv, 1) := by decide +kernel
theorem dX6_goThrough_52 : decode cX6_goThrough 52 = .ok (.istore 7, 2) := by decide +kernel
theorem dX6_goThrough_54 : decode cX6_goThrough 54 = .ok (.iinc 8 (-1), 3) := by decide +kernel
theorem dX6_goThrough_57 : decode cX6_goThrough 57 = .ok (.goto (-25), 3) := by decide +kernel
theorem dX6_goThrough_60 : decode cX6_goThrough 60 = .ok (.aload_n 0, 1) := by decide +kernel
theorem dX6_goThrough_61 : decode cX6_goThrough 61 = .ok (.invokevirtual 92, 3) := by decide +kernel
theorem dX6_goThrough_64 : decode cX6_goThrough 64 = .ok (.ifCond .ne 17, 3) := by decide +kernel
theorem dX6_goThrough_67 : decode cX6_goThrough 67 = .ok (.iload 5, 2) := by decide +kernel
theorem dX6_goThrough_69 : decode cX6_goThrough 69 = .ok (.iload_n 2, 1) := by decide +kernel
theorem dX6_goThrough_70 : decode cX6_goThrough 70 = .ok (.if_icmp .ne 8, 3) := by decide +kernel
theorem dX6_goThrough_73 : decode cX6_goThrough 73 = .ok (.iload 5, 2) := by decide +kernel
theorem dX6_goThrough_75 : decode cX6_goThrough 75 = .ok (.iconst 1, 1) := by decide +kernel
theorem dX6_goThrough_76 : decode cX6_goThrough 76 = .ok (.iadd, 1) := by decide +kernel
theorem dX6_goThrough_77 : decode cX6_goThrough 77 = .ok (.ireturn, 1) := by decide +kernel
theorem dX6_goThrough_78 : decode cX6_goThrough 78 = .ok (.iinc 5 1, 3) := by decide +kernel
theorem dX6_goThrough_81 : decode cX6_goThrough 81 = .ok (.iinc 6 1, 3) := by decide +kernel
theorem dX6_goThrough_84 : decode cX6_goThrough 84 = .ok (.goto (-72), 3) := by decide +kernel
theorem dX6_goThrough_87 : decode cX6_goThrough 87 = .ok (.iload 5, 2) := by decide +kernel
theorem dX6_goThrough_89 : decode cX6_goThrough 89 = .ok (.ireturn, 1) := by decide +kernel
theorem dX6_layAside_0 : decode cX6_layAside 0 = .ok (.iconst 0, 1) := by decide +kernel
theorem dX6_layAside_1 : decode cX6_layAside 1 = .ok (.istore_n 1, 1) := by decide +kernel
theorem dX6_layAside_2 : decode cX6_layAside 2 = .ok (.iload_n 1, 1) := by decide +kernel
theorem dX6_layAside_3 : decode cX6_layAside 3 = .ok (.aload_n 0, 1) := by decide +kernel
theorem dX6_layAside_4 : decode cX6_layAside 4 = .ok (.getfield 34, 3) := by decide +kernel
theorem dX6_layAside_7 : decode cX6_layAside 7 = .ok (.if_icmp .ge 21, 3) := by decide +kernel
theorem dX6_layAside_10 : decode cX6_layAside 10 = .ok (.aload_n 0, 1) := by decide +kernel
theorem dX6_layAside_11 : decode cX6_layAside 11 = .ok (.getfield 28, 3) := by decide +kernel
theorem dX6_layAside_14 : decode cX6_layAside 14 = .ok (.iload_n 1, 1) := by decide +kernel
theorem dX6_layAside_15 : decode cX6_layAside 15 = .ok (.aload_n 0, 1) := by decide +kernel
theorem dX6_layAside_16 : decode cX6_layAside 16 = .ok (.getfield 16, 3) := by decide +kernel
theorem dX6_layAside_19 : decode cX6_layAside 19 = .ok (.iload_n 1, 1) := by decide +kernel
theorem dX6_layAside_20 : decode cX6_layAside 20 = .ok (.iaload, 1) := by decide +kernel
theorem dX6_layAside_21 : decode cX6_layAside 21 = .ok (.iastore, 1) := by decide +kernel
theorem dX6_layAside_22 : decode cX6_layAside 22 = .ok (.iinc 1 1, 3) := by decide +kernel
theorem dX6_layAside_25 : decode cX6_layAside 25 = .ok (.goto (-23), 3) := by decide +kernel
theorem dX6_layAside_28 : decode cX6_layAside 28 = .ok (.return_, 1) := by decide +kernel
theorem dX6_putBack_0 : decode cX6_putBack 0 = .ok (.iconst 0, 1) := by decide +kernel
theorem dX6_putBack_1 : decode cX6_putBack 1 = .ok (.istore_n 1, 1) := by decide +kernel
theorem dX6_putBack_2 : decode cX6_putBack 2 = .ok (.iload_n 1, 1) := by decide +kernel
theorem dX6_putBack_3 : decode cX6_putBack 3 = .ok (.aload_n 0, 1) := by decide +kernel
theorem dX6_putBack_4 : decode cX6_putBack 4 = .ok (.getfield 34, 3) := by decide +kernel
theorem dX6_putBack_7 : decode cX6_putBack 7 = .ok (.if_icmp .ge 21, 3) := by decide +kernel
theorem dX6_putBack_10 : decode cX6_putBack 10 = .ok (.aload_n 0, 1) := by decide +kernel
theorem dX6_putBack_11 : decode cX6_putBack 11 = .ok (.getfield 16, 3) := by decide +kernel
theorem dX6_putBack_14 : decode cX6_putBack 14 = .ok (.iload_n 1, 1) := by decide +kernel
theorem dX6_putBack_15 : decode cX6_putBack 15 = .ok (.aload_n 0, 1) := by decide +kernel
theorem dX6_putBack_16 : decode cX6_putBack 16 = .ok (.getfield 28, 3) := by decide +kernel
theorem dX6_putBack_19 : decode cX6_putBack 19 = .ok (.iload_n 1, 1) := by decide +kernel
theorem dX6_putBack_20 : decode cX6_putBack 20 = .ok (.iaload, 1) := by decide +kernel
theorem dX6_putBack_21 : decode cX6_putBack 21 = .ok (.iastore, 1) := by decide +kernel
theorem dX6_putBack_22 : decode cX6_putBack 22 = .ok (.iinc 1 1, 3) := by decide +kernel
theorem dX6_putBack_25 : decode cX6_putBack 25 = .ok (.goto (-23), 3) := by decide +kernel
theorem dX6_putBack_28 : decode cX6_putBack 28 = .ok (.return_, 1) := by decide +kernel
theorem dX6_tryAll_0 : decode cX6_tryAll 0 = .ok (.iload_n 1, 1) := by decide +kernel
theorem dX6_tryAll_1 : decode cX6_tryAll 1 = .ok (.i2l, 1) := by decide +kernel
theorem dX6_tryAll_2 : decode cX6_tryAll 2 = .ok (.lconst 1, 1) := by decide +kernel
theorem dX6_tryAll_3 : decode cX6_tryAll 3 = .ok (.ldc2_w 99, 3) := by decide +kernel
theorem dX6_tryAll_6 : decode cX6_tryAll 6 = .ok (.invokestatic 38, 3) := by decide +kernel
theorem dX6_tryAll_9 : decode cX6_tryAll 9 = .ok (.ifCond .ne 6, 3) := by decide +kernel
theorem dX6_tryAll_12 : decode cX6_tryAll 12 = .ok (.bipush (-102), 2) := by decide +kernel
theorem dX6_tryAll_14 : decode cX6_tryAll 14 = .ok (.ireturn, 1) := by decide +kernel
theorem dX6_tryAll_15 : decode cX6_tryAll 15 = .ok (.aload_n 0, 1) := by decide +kernel
theorem dX6_tryAll_16 : decode cX6_tryAll 16 = .ok (.iload_n 1, 1) := by decide +kernel
theorem dX6_tryAll_17 : decode cX6_tryAll 17 = .ok (.invokevirtual 95, 3) := by decide +kernel
theorem dX6_tryAll_20 : decode cX6_tryAll 20 = .ok (.ldc2_w 101, 3) := by decide +kernel
theorem dX6_tryAll_23 : decode cX6_tryAll 23 = .ok (.lcmp, 1) := by decide +kernel
theorem dX6_tryAll_24 : decode cX6_tryAll 24 = .ok (.ifCond .gt 12, 3) := by decide +kernel
theorem dX6_tryAll_27 : decode cX6_tryAll 27 = .ok (.aload_n 0, 1) := by decide +kernel
theorem dX6_tryAll_28 : decode cX6_tryAll 28 = .ok (.getfield 103, 3) := by decide +kernel
theorem dX6_tryAll_31 : decode cX6_tryAll 31 = .ok (.bipush 30, 2) := by decide +kernel
theorem dX6_tryAll_33 : decode cX6_tryAll 33 = .ok (.if_icmp .ne 6, 3) := by decide +kernel
theorem dX6_tryAll_36 : decode cX6_tryAll 36 = .ok (.bipush (-103), 2) := by decide +kernel
theorem dX6_tryAll_38 : decode cX6_tryAll 38 = .ok (.ireturn, 1) := by decide +kernel
theorem dX6_tryAll_39 : decode cX6_tryAll 39 = .ok (.aload_n 0, 1) := by decide +kernel
theorem dX6_tryAll_40 : decode cX6_tryAll 40 = .ok (.dup, 1) := by decide +kernel
theorem dX6_tryAll_41 : decode cX6_tryAll 41 = .ok (.getfield 103, 3) := by decide +kernel
theorem dX6_tryAll_44 : decode cX6_tryAll 44 = .ok (.iconst 1, 1) := by decide +kernel
theorem dX6_tryAll_45 : decode cX6_tryAll 45 = .ok (.iadd, 1) := by decide +kernel
theorem dX6_tryAll_46 : decode cX6_tryAll 46 = .ok (.putfield 103, 3) := by decide +kernel
theorem dX6_tryAll_49 : decode cX6_tryAll 49 = .ok (.aload_n 0, 1) := by decide +kernel
theorem dX6_tryAll_50 : decode cX6_tryAll 50 = .ok (.invokevirtual 106, 3) := by decide +kernel
theorem dX6_tryAll_53 : decode cX6_tryAll 53 = .ok (.aload_n 0, 1) := by decide +kernel
theorem dX6_tryAll_54 : decode cX6_tryAll 54 = .ok (.iload_n 1, 1) := by decide +kernel
theorem dX6_tryAll_55 : decode cX6_tryAll 55 = .ok (.iconst (-1), 1) := by decide +kernel
theorem dX6_tryAll_56 : decode cX6_tryAll 56 = .ok (.invokevirtual 109, 3) := by decide +kernel
theorem dX6_tryAll_59 : decode cX6_tryAll 59 = .ok (.istore_n 2, 1) := by decide +kernel
theorem dX6_tryAll_60 : decode cX6_tryAll 60 = .ok (.aload_n 0, 1) := by decide +kernel
theorem dX6_tryAll_61 : decode cX6_tryAll 61 = .ok (.invokevirtual 113, 3) := by decide +kernel
theorem dX6_tryAll_64 : decode cX6_tryAll 64 = .ok (.iload_n 2, 1) := by decide +kernel
theorem dX6_tryAll_65 : decode cX6_tryAll 65 = .ok (.ireturn, 1) := by decide +kernel
theorem dX6_attempt_0 : decode cX6_attempt 0 = .ok (.iload_n 1, 1) := by decide +kernel
theorem dX6_attempt_1 : decode cX6_attempt 1 = .ok (.i2l, 1) := by decide +kernel
theorem dX6_attempt_2 : decode cX6_attempt 2 = .ok (.lconst 1, 1) := by decide +kernel
theorem dX6_attempt_3 : decode cX6_attempt 3 = .ok (.ldc2_w 99, 3) := by decide +kernel
theorem dX6_attempt_6 : decode cX6_attempt 6 = .ok (.invokestatic 38, 3) := by decide +kernel
theorem dX6_attempt_9 : decode cX6_attempt 9 = .ok (.ifCond .ne 6, 3) := by decide +kernel
theorem dX6_attempt_12 : decode cX6_attempt 12 = .ok (.bipush (-102), 2) := by decide +kernel
theorem dX6_attempt_14 : decode cX6_attempt 14 = .ok (.ireturn, 1) := by decide +kernel
theorem dX6_attempt_15 : decode cX6_attempt 15 = .ok (.aload_n 0, 1) := by decide +kernel
theorem dX6_attempt_16 : decode cX6_attempt 16 = .ok (.iload_n 1, 1) := by decide +kernel
theorem dX6_attempt_17 : decode cX6_attempt 17 = .ok (.invokevirtual 95, 3) := by decide +kernel
theorem dX6_attempt_20 : decode cX6_attempt 20 = .ok (.ldc2_w 101, 3) := by decide +kernel
theorem dX6_attempt_23 : decode cX6_attempt 23 = .ok (.lcmp, 1) := by decide +kernel
theorem dX6_attempt_24 : decode cX6_attempt 24 = .ok (.ifCond .gt 12, 3) := by decide +kernel
theorem dX6_attempt_27 : decode cX6_attempt 27 = .ok (.aload_n 0, 1) := by decide +kernel
theorem dX6_attempt_28 : decode cX6_attempt 28 = .ok (.getfield 103, 3) := by decide +kernel
theorem dX6_attempt_31 : decode cX6_attempt 31 = .ok (.bipush 30, 2) := by decide +kernel
theorem dX6_attempt_33 : decode cX6_attempt 33 = .ok (.if_icmp .ne 6, 3) := by decide +kernel
theorem dX6_attempt_36 : decode cX6_attempt 36 = .ok (.bipush (-103), 2) := by decide +kernel
theorem dX6_attempt_38 : decode cX6_attempt 38 = .ok (.ireturn, 1) := by decide +kernel
theorem dX6_attempt_39 : decode cX6_attempt 39 = .ok (.aload_n 0, 1) := by decide +kernel
theorem dX6_attempt_40 : decode cX6_attempt 40 = .ok (.dup, 1) := by decide +kernel
theorem dX6_attempt_41 : decode cX6_attempt 41 = .ok (.getfield 103, 3) := by decide +kernel
theorem dX6_attempt_44 : decode cX6_attempt 44 = .ok (.iconst 1, 1) := by decide +kernel
theorem dX6_attempt_45 : decode cX6_attempt 45 = .ok (.iadd, 1) := by decide +kernel
theorem dX6_attempt_46 : decode cX6_attempt 46 = .ok (.putfield 103, 3) := by decide +kernel
theorem dX6_attempt_49 : decode cX6_attempt 49 = .ok (.aload_n 0, 1) := by decide +kernel
theorem dX6_attempt_50 : decode cX6_attempt 50 = .ok (.invokevirtual 106, 3) := by decide +kernel
theorem dX6_attempt_53 : decode cX6_attempt 53 = .ok (.iload_n 2, 1) := by decide +kernel
theorem dX6_attempt_54 : decode cX6_attempt 54 = .ok (.ifCond .lt 15, 3) := by decide +kernel
theorem dX6_attempt_57 : decode cX6_attempt 57 = .ok (.aload_n 0, 1) := by decide +kernel
theorem dX6_attempt_58 : decode cX6_attempt 58 = .ok (.iload_n 1, 1) := by decide +kernel
theorem dX6_attempt_59 : decode cX6_attempt 59 = .ok (.iload_n 2, 1) := by decide +kernel
theorem dX6_attempt_60 : decode cX6_attempt 60 = .ok (.invokevirtual 109, 3) := by decide +kernel
theorem dX6_attempt_63 : decode cX6_attempt 63 = .ok (.iload_n 2, 1) := by decide +kernel
theorem dX6_attempt_64 : decode cX6_attempt 64 = .ok (.iconst 1, 1) := by decide +kernel
theorem dX6_attempt_65 : decode cX6_attempt 65 = .ok (.iadd, 1) := by decide +kernel
theorem dX6_attempt_66 : decode cX6_attempt 66 = .ok (.if_icmp .eq 9, 3) := by decide +kernel
theorem dX6_attempt_69 : decode cX6_attempt 69 = .ok (.aload_n 0, 1) := by decide +kernel
theorem dX6_attempt_70 : decode cX6_attempt 70 = .ok (.invokevirtual 113, 3) := by decide +kernel
theorem dX6_attempt_73 : decode cX6_attempt 73 = .ok (.iconst (-1), 1) := by decide +kernel
theorem dX6_attempt_74 : decode cX6_attempt 74 = .ok (.ireturn, 1) := by decide +kernel
theorem dX6_attempt_75 : decode cX6_attempt 75 = .ok (.iconst 1, 1) := by decide +kernel
theorem dX6_attempt_76 : decode cX6_attempt 76 = .ok (.ireturn, 1) := by decide +kernel
theorem dX6_numbers_0 : decode cX6_numbers 0 = .ok (.aload_n 0, 1) := by decide +kernel
theorem dX6_numbers_1 : decode cX6_numbers 1 = .ok (.invokevirtual 83, 3) := by decide +kernel
theorem dX6_numbers_4 : decode cX6_numbers 4 = .ok (.ifCond .ne 5, 3) := by decide +kernel
theorem dX6_numbers_7 : decode cX6_numbers 7 = .ok (.iconst (-1), 1) := by decide +kernel
theorem dX6_numbers_8 : decode cX6_numbers 8 = .ok (.ireturn, 1) := by decide +kernel
theorem dX6_numbers_9 : decode cX6_numbers 9 = .ok (.iconst 0, 1) := by decide +kernel
theorem dX6_numbers_10 : decode cX6_numbers 10 = .ok (.istore_n 1, 1) := by decide +kernel
theorem dX6_numbers_11 : decode cX6_numbers 11 = .ok (.iconst 0, 1) := by decide +kernel
theorem dX6_numbers_12 : decode cX6_numbers 12 = .ok (.istore_n 2, 1) := by decide +kernel
theorem dX6_numbers_13 : decode cX6_numbers 13 = .ok (.iload_n 2, 1) := by decide +kernel
theorem dX6_numbers_14 : decode cX6_numbers 14 = .ok (.aload_n 0, 1) := by decide +kernel
theorem dX6_numbers_15 : decode cX6_numbers 15 = .ok (.getfield 34, 3) := by decide +kernel
theorem dX6_numbers_18 : decode cX6_numbers 18 = .ok (.if_icmp .ge 30, 3) := by decide +kernel
theorem dX6_numbers_21 : decode cX6_numbers 21 = .ok (.aload_n 0, 1) := by decide +kernel
theorem dX6_numbers_22 : decode cX6_numbers 22 = .ok (.getfield 25, 3) := by decide +kernel
theorem dX6_numbers_25 : decode cX6_numbers 25 = .ok (.iload_n 2, 1) := by decide +kernel
theorem dX6_numbers_26 : decode cX6_numbers 26 = .ok (.iaload, 1) := by decide +kernel
theorem dX6_numbers_27 : decode cX6_numbers 27 = .ok (.iload_n 1, 1) := by decide +kernel
theorem dX6_numbers_28 : decode cX6_numbers 28 = .ok (.if_icmp .le 12, 3) := by decide +kernel
theorem dX6_numbers_31 : decode cX6_numbers 31 = .ok (.aload_n 0, 1) := by decide +kernel
theorem dX6_numbers_32 : decode cX6_numbers 32 = .ok (.getfield 25, 3) := by decide +kernel
theorem dX6_numbers_35 : decode cX6_numbers 35 = .ok (.iload_n 2, 1) := by decide +kernel
theorem dX6_numbers_36 : decode cX6_numbers 36 = .ok (.iaload, 1) := by decide +kernel
theorem dX6_numbers_37 : decode cX6_numbers 37 = .ok (.goto 4, 3) := by decide +kernel
theorem dX6_numbers_40 : decode cX6_numbers 40 = .ok (.iload_n 1, 1) := by decide +kernel
theorem dX6_numbers_41 : decode cX6_numbers 41 = .ok (.istore_n 1, 1) := by decide +kernel
theorem dX6_numbers_42 : decode cX6_numbers 42 = .ok (.iinc 2 1, 3) := by decide +kernel
theorem dX6_numbers_45 : decode cX6_numbers 45 = .ok (.goto (-32), 3) := by decide +kernel
theorem dX6_numbers_48 : decode cX6_numbers 48 = .ok (.iload_n 1, 1) := by decide +kernel
theorem dX6_numbers_49 : decode cX6_numbers 49 = .ok (.iconst 1, 1) := by decide +kernel
theorem dX6_numbers_50 : decode cX6_numbers 50 = .ok (.iadd, 1) := by decide +kernel
theorem dX6_numbers_51 : decode cX6_numbers 51 = .ok (.ireturn, 1) := by decide +kernel
theorem dX6_slip_0 : decode cX6_slip 0 = .ok (.iload_n 1, 1) := by decide +kernel
theorem dX6_slip_1 : decode cX6_slip 1 = .ok (.i2l, 1) := by decide +kernel
theorem dX6_slip_2 : decode cX6_slip 2 = .ok (.lconst 0, 1) := by decide +kernel
theorem dX6_slip_3 : decode cX6_slip 3 = .ok (.ldc2_w 116, 3) := by decide +kernel
theorem dX6_slip_6 : decode cX6_slip 6 = .ok (.invokestatic 38, 3) := by decide +kernel
theorem dX6_slip_9 : decode cX6_slip 9 = .ok (.ifCond .eq 13, 3) := by decide +kernel
theorem dX6_slip_12 : decode cX6_slip 12 = .ok (.iload_n 2, 1) := by decide +kernel
theorem dX6_slip_13 : decode cX6_slip 13 = .ok (.i2l, 1) := by decide +kernel
theorem dX6_slip_14 : decode cX6_slip 14 = .ok (.lconst 0, 1) := by decide +kernel
theorem dX6_slip_15 : decode cX6_slip 15 = .ok (.lconst 1, 1) := by decide +kernel
theorem dX6_slip_16 : decode cX6_slip 16 = .ok (.invokestatic 38, 3) := by decide +kernel
theorem dX6_slip_19 : decode cX6_slip 19 = .ok (.ifCond .ne 7, 3) := by decide +kernel
theorem dX6_slip_22 : decode cX6_slip 22 = .ok (.ldc2_w 118, 3) := by decide +kernel
theorem dX6_slip_25 : decode cX6_slip 25 = .ok (.lreturn, 1) := by decide +kernel
theorem dX6_slip_26 : decode cX6_slip 26 = .ok (.aload_n 0, 1) := by decide +kernel
theorem dX6_slip_27 : decode cX6_slip 27 = .ok (.invokevirtual 92, 3) := by decide +kernel
theorem dX6_slip_30 : decode cX6_slip 30 = .ok (.istore_n 3, 1) := by decide +kernel
theorem dX6_slip_31 : decode cX6_slip 31 = .ok (.lconst 1, 1) := by decide +kernel
theorem dX6_slip_32 : decode cX6_slip 32 = .ok (.lstore 4, 2) := by decide +kernel
theorem dX6_slip_34 : decode cX6_slip 34 = .ok (.lconst 1, 1) := by decide +kernel
theorem dX6_slip_35 : decode cX6_slip 35 = .ok (.lstore 6, 2) := by decide +kernel
theorem dX6_slip_37 : decode cX6_slip 37 = .ok (.iconst 0, 1) := by decide +kernel
theorem dX6_slip_38 : decode cX6_slip 38 = .ok (.istore 8, 2) := by decide +kernel
theorem dX6_slip_40 : decode cX6_slip 40 = .ok (.iload 8, 2) := by decide +kernel
theorem dX6_slip_42 : decode cX6_slip 42 = .ok (.aload_n 0, 1) := by decide +kernel
theorem dX6_slip_43 : decode cX6_slip 43 = .ok (.getfield 34, 3) := by decide +kernel
theorem dX6_slip_46 : decode cX6_slip 46 = .ok (.if_icmp .ge 37, 3) := by decide +kernel
theorem dX6_slip_49 : decode cX6_slip 49 = .ok (.iload_n 3, 1) := by decide +kernel
theorem dX6_slip_50 : decode cX6_slip 50 = .ok (.iload 8, 2) := by decide +kernel
theorem dX6_slip_52 : decode cX6_slip 52 = .ok (.ishr, 1) := by decide +kernel
theorem dX6_slip_53 : decode cX6_slip 53 = .ok (.iconst 1, 1) := by decide +kernel
theorem dX6_slip_54 : decode cX6_slip 54 = .ok (.iand, 1) := by decide +kernel
theorem dX6_slip_55 : decode cX6_slip 55 = .ok (.iconst 1, 1) := by decide +kernel
theorem dX6_slip_56 : decode cX6_slip 56 = .ok (.if_icmp .ne 21, 3) := by decide +kernel
theorem dX6_slip_59 : decode cX6_slip 59 = .ok (.lload 4, 2) := by decide +kernel
theorem dX6_slip_61 : decode cX6_slip 61 = .ok (.bipush 10, 2) := by decide +kernel
theorem dX6_slip_63 : decode cX6_slip 63 = .ok (.iload_n 1, 1) := by decide +kernel
theorem dX6_slip_64 : decode cX6_slip 64 = .ok (.isub, 1) := by decide +kernel
theorem dX6_slip_65 : decode cX6_slip 65 = .ok (.i2l, 1) := by decide +kernel
theorem dX6_slip_66 : decode cX6_slip 66 = .ok (.lmul, 1) := by decide +kernel
theorem dX6_slip_67 : decode cX6_slip 67 = .ok (.lstore 4, 2) := by decide +kernel
theorem dX6_slip_69 : decode cX6_slip 69 = .ok (.lload 6, 2) := by decide +kernel
theorem dX6_slip_71 : decode cX6_slip 71 = .ok (.ldc2_w 116, 3) := by decide +kernel
theorem dX6_slip_74 : decode cX6_slip 74 = .ok (.lmul, 1) := by decide +kernel
theorem dX6_slip_75 : decode cX6_slip 75 = .ok (.lstore 6, 2) := by decide +kernel
theorem dX6_slip_77 : decode cX6_slip 77 = .ok (.iinc 8 1, 3) := by decide +kernel
theorem dX6_slip_80 : decode cX6_slip 80 = .ok (.goto (-40), 3) := by decide +kernel
theorem dX6_slip_83 : decode cX6_slip 83 = .ok (.lload 4, 2) := by decide +kernel
theorem dX6_slip_85 : decode cX6_slip 85 = .ok (.lstore 8, 2) := by decide +kernel
theorem dX6_slip_87 : decode cX6_slip 87 = .ok (.lload 6, 2) := by decide +kernel
theorem dX6_slip_89 : decode cX6_slip 89 = .ok (.lstore 10, 2) := by decide +kernel
theorem dX6_slip_91 : decode cX6_slip 91 = .ok (.lload 8, 2) := by decide +kernel
theorem dX6_slip_93 : decode cX6_slip 93 = .ok (.lconst 0, 1) := by decide +kernel
theorem dX6_slip_94 : decode cX6_slip 94 = .ok (.lcmp, 1) := by decide +kernel
theorem dX6_slip_95 : decode cX6_slip 95 = .ok (.ifCond .le 21, 3) := by decide +kernel
theorem dX6_slip_98 : decode cX6_slip 98 = .ok (.lload 10, 2) := by decide +kernel
theorem dX6_slip_100 : decode cX6_slip 100 = .ok (.lload 8, 2) := by decide +kernel
theorem dX6_slip_102 : decode cX6_slip 102 = .ok (.lrem, 1) := by decide +kernel
theorem dX6_slip_103 : decode cX6_slip 103 = .ok (.lstore 12, 2) := by decide +kernel
theorem dX6_slip_105 : decode cX6_slip 105 = .ok (.lload 8, 2) := by decide +kernel
theorem dX6_slip_107 : decode cX6_slip 107 = .ok (.lstore 10, 2) := by decide +kernel
theorem dX6_slip_109 : decode cX6_slip 109 = .ok (.lload 12, 2) := by decide +kernel
theorem dX6_slip_111 : decode cX6_slip 111 = .ok (.lstore 8, 2) := by decide +kernel
theorem dX6_slip_113 : decode cX6_slip 113 = .ok (.goto (-22), 3) := by decide +kernel
theorem dX6_slip_116 : decode cX6_slip 116 = .ok (.iload_n 2, 1) := by decide +kernel
theorem dX6_slip_117 : decode cX6_slip 117 = .ok (.ifCond .ne 11, 3) := by decide +kernel
theorem dX6_slip_120 : decode cX6_slip 120 = .ok (.lload 4, 2) := by decide +kernel
theorem dX6_slip_122 : decode cX6_slip 122 = .ok (.lload 10, 2) := by decide +kernel
theorem dX6_slip_124 : decode cX6_slip 124 = .ok (.ldiv, 1) := by decide +kernel
theorem dX6_slip_125 : decode cX6_slip 125 = .ok (.goto 8, 3) := by decide +kernel
theorem dX6_slip_128 : decode cX6_slip 128 = .ok (.lload 6, 2) := by decide +kernel
theorem dX6_slip_130 : decode cX6_slip 130 = .ok (.lload 10, 2) := by decide +kernel
theorem dX6_slip_132 : decode cX6_slip 132 = .ok (.ldiv, 1) := by decide +kernel
theorem dX6_slip_133 : decode cX6_slip 133 = .ok (.lreturn, 1) := by decide +kernel
theorem dX6_distance_0 : decode cX6_distance 0 = .ok (.aload_n 0, 1) := by decide +kernel
theorem dX6_distance_1 : decode cX6_distance 1 = .ok (.iload_n 1, 1) := by decide +kernel
theorem dX6_distance_2 : decode cX6_distance 2 = .ok (.invokevirtual 44, 3) := by decide +kernel
theorem dX6_distance_5 : decode cX6_distance 5 = .ok (.ifCond .ne 6, 3) := by decide +kernel
theorem dX6_distance_8 : decode cX6_distance 8 = .ok (.bipush (-101), 2) := by decide +kernel
theorem dX6_distance_10 : decode cX6_distance 10 = .ok (.ireturn, 1) := by decide +kernel
theorem dX6_distance_11 : decode cX6_distance 11 = .ok (.iload_n 2, 1) := by decide +kernel
theorem dX6_distance_12 : decode cX6_distance 12 = .ok (.i2l, 1) := by decide +kernel
theorem dX6_distance_13 : decode cX6_distance 13 = .ok (.lconst 0, 1) := by decide +kernel
theorem dX6_distance_14 : decode cX6_distance 14 = .ok (.ldc2_w 50, 3) := by decide +kernel
theorem dX6_distance_17 : decode cX6_distance 17 = .ok (.invokestatic 38, 3) := by decide +kernel
theorem dX6_distance_20 : decode cX6_distance 20 = .ok (.ifCond .ne 6, 3) := by decide +kernel
theorem dX6_distance_23 : decode cX6_distance 23 = .ok (.bipush (-102), 2) := by decide +kernel
theorem dX6_distance_25 : decode cX6_distance 25 = .ok (.ireturn, 1) := by decide +kernel
theorem dX6_distance_26 : decode cX6_distance 26 = .ok (.aload_n 0, 1) := by decide +kernel
theorem dX6_distance_27 : decode cX6_distance 27 = .ok (.getfield 19, 3) := by decide +kernel
theorem dX6_distance_30 : decode cX6_distance 30 = .ok (.iload_n 1, 1) := by decide +kernel
theorem dX6_distance_31 : decode cX6_distance 31 = .ok (.iaload, 1) := by decide +kernel
theorem dX6_distance_32 : decode cX6_distance 32 = .ok (.istore_n 3, 1) := by decide +kernel
theorem dX6_distance_33 : decode cX6_distance 33 = .ok (.aload_n 0, 1) := by decide +kernel
theorem dX6_distance_34 : decode cX6_distance 34 = .ok (.getfield 19, 3) := by decide +kernel
theorem dX6_distance_37 : decode cX6_distance 37 = .ok (.iload_n 1, 1) := by decide +kernel
theorem dX6_distance_38 : decode cX6_distance 38 = .ok (.iload_n 2, 1) := by decide +kernel
theorem dX6_distance_39 : decode cX6_distance 39 = .ok (.iastore, 1) := by decide +kernel
theorem dX6_distance_40 : decode cX6_distance 40 = .ok (.iload_n 3, 1) := by decide +kernel
theorem dX6_distance_41 : decode cX6_distance 41 = .ok (.ireturn, 1) := by decide +kernel
theorem dX6_ruleOf_0 : decode cX6_ruleOf 0 = .ok (.iload_n 1, 1) := by decide +kernel
theorem dX6_ruleOf_1 : decode cX6_ruleOf 1 = .ok (.ifCond .ne 5, 3) := by decide +kernel
theorem dX6_ruleOf_4 : decode cX6_ruleOf 4 = .ok (.iconst 0, 1) := by decide +kernel
theorem dX6_ruleOf_5 : decode cX6_ruleOf 5 = .ok (.ireturn, 1) := by decide +kernel
theorem dX6_ruleOf_6 : decode cX6_ruleOf 6 = .ok (.iconst 3, 1) := by decide +kernel
theorem dX6_ruleOf_7 : decode cX6_ruleOf 7 = .ok (.istore_n 2, 1) := by decide +kernel
theorem dX6_ruleOf_8 : decode cX6_ruleOf 8 = .ok (.iconst 0, 1) := by decide +kernel
theorem dX6_ruleOf_9 : decode cX6_ruleOf 9 = .ok (.istore_n 3, 1) := by decide +kernel
theorem dX6_ruleOf_10 : decode cX6_ruleOf 10 = .ok (.iload_n 3, 1) := by decide +kernel
theorem dX6_ruleOf_11 : decode cX6_ruleOf 11 = .ok (.aload_n 0, 1) := by decide +kernel
theorem dX6_ruleOf_12 : decode cX6_ruleOf 12 = .ok (.getfield 34, 3) := by decide +kernel
theorem dX6_ruleOf_15 : decode cX6_ruleOf 15 = .ok (.if_icmp .ge 39, 3) := by decide +kernel
theorem dX6_ruleOf_18 : decode cX6_ruleOf 18 = .ok (.aload_n 0, 1) := by decide +kernel
theorem dX6_ruleOf_19 : decode cX6_ruleOf 19 = .ok (.iload_n 1, 1) := by decide +kernel
theorem dX6_ruleOf_20 : decode cX6_ruleOf 20 = .ok (.iload_n 3, 1) := by decide +kernel
theorem dX6_ruleOf_21 : decode cX6_ruleOf 21 = .ok (.invokevirtual 55, 3) := by decide +kernel
theorem dX6_ruleOf_24 : decode cX6_ruleOf 24 = .ok (.ifCond .eq 22, 3) := by decide +kernel
theorem dX6_ruleOf_27 : decode cX6_ruleOf 27 = .ok (.aload_n 0, 1) := by decide +kernel
theorem dX6_ruleOf_28 : decode cX6_ruleOf 28 = .ok (.getfield 19, 3) := by decide +kernel
theorem dX6_ruleOf_31 : decode cX6_ruleOf 31 = .ok (.iload_n 3, 1) := by decide +kernel
theorem dX6_ruleOf_32 : decode cX6_ruleOf 32 = .ok (.iaload, 1) := by decide +kernel
theorem dX6_ruleOf_33 : decode cX6_ruleOf 33 = .ok (.iload_n 2, 1) := by decide +kernel
theorem dX6_ruleOf_34 : decode cX6_ruleOf 34 = .ok (.if_icmp .ge 12, 3) := by decide +kernel
theorem dX6_ruleOf_37 : decode cX6_ruleOf 37 = .ok (.aload_n 0, 1) := by decide +kernel
theorem dX6_ruleOf_38 : decode cX6_ruleOf 38 = .ok (.getfield 19, 3) := by decide +kernel
theorem dX6_ruleOf_41 : decode cX6_ruleOf 41 = .ok (.iload_n 3, 1) := by decide +kernel
theorem dX6_ruleOf_42 : decode cX6_ruleOf 42 = .ok (.iaload, 1) := by decide +kernel
theorem dX6_ruleOf_43 : decode cX6_ruleOf 43 = .ok (.goto 4, 3) := by decide +kernel
theorem dX6_ruleOf_46 : decode cX6_ruleOf 46 = .ok (.iload_n 2, 1) := by decide +kernel
theorem dX6_ruleOf_47 : decode cX6_ruleOf 47 = .ok (.istore_n 2, 1) := by decide +kernel
theorem dX6_ruleOf_48 : decode cX6_ruleOf 48 = .ok (.iinc 3 1, 3) := by decide +kernel
theorem dX6_ruleOf_51 : decode cX6_ruleOf 51 = .ok (.goto (-41), 3) := by decide +kernel
theorem dX6_ruleOf_54 : decode cX6_ruleOf 54 = .ok (.iload_n 2, 1) := by decide +kernel
theorem dX6_ruleOf_55 : decode cX6_ruleOf 55 = .ok (.iconst 1, 1) := by decide +kernel
theorem dX6_ruleOf_56 : decode cX6_ruleOf 56 = .ok (.iadd, 1) := by decide +kernel
theorem dX6_ruleOf_57 : decode cX6_ruleOf 57 = .ok (.ireturn, 1) := by decide +kernel
theorem dX6_restlessOf_0 : decode cX6_restlessOf 0 = .ok (.iconst 0, 1) := by decide +kernel
theorem dX6_restlessOf_1 : decode cX6_restlessOf 1 = .ok (.istore_n 1, 1) := by decide +kernel
theorem dX6_restlessOf_2 : decode cX6_restlessOf 2 = .ok (.iconst 0, 1) := by decide +kernel
theorem dX6_restlessOf_3 : decode cX6_restlessOf 3 = .ok (.istore_n 2, 1) := by decide +kernel
theorem dX6_restlessOf_4 : decode cX6_restlessOf 4 = .ok (.iload_n 2, 1) := by decide +kernel
theorem dX6_restlessOf_5 : decode cX6_restlessOf 5 = .ok (.aload_n 0, 1) := by decide +kernel
theorem dX6_restlessOf_6 : decode cX6_restlessOf 6 = .ok (.getfield 34, 3) := by decide +kernel
theorem dX6_restlessOf_9 : decode cX6_restlessOf 9 = .ok (.if_icmp .ge 33, 3) := by decide +kernel
theorem dX6_restlessOf_12 : decode cX6_restlessOf 12 = .ok (.iload_n 1, 1) := by decide +kernel
theorem dX6_restlessOf_13 : decode cX6_restlessOf 13 = .ok (.aload_n 0, 1) := by decide +kernel
theorem dX6_restlessOf_14 : decode cX6_restlessOf 14 = .ok (.iload_n 2, 1) := by decide +kernel
theorem dX6_restlessOf_15 : decode cX6_restlessOf 15 = .ok (.invokevirtual 120, 3) := by decide +kernel
theorem dX6_restlessOf_18 : decode cX6_restlessOf 18 = .ok (.aload_n 0, 1) := by decide +kernel
theorem dX6_restlessOf_19 : decode cX6_restlessOf 19 = .ok (.getfield 19, 3) := by decide +kernel
theorem dX6_restlessOf_22 : decode cX6_restlessOf 22 = .ok (.iload_n 2, 1) := by decide +kernel
theorem dX6_restlessOf_23 : decode cX6_restlessOf 23 = .ok (.iaload, 1) := by decide +kernel
theorem dX6_restlessOf_24 : decode cX6_restlessOf 24 = .ok (.if_icmp .ne 7, 3) := by decide +kernel
theorem dX6_restlessOf_27 : decode cX6_restlessOf 27 = .ok (.iconst 0, 1) := by decide +kernel
theorem dX6_restlessOf_28 : decode cX6_restlessOf 28 = .ok (.goto 6, 3) := by decide +kernel
theorem dX6_restlessOf_31 : decode cX6_restlessOf 31 = .ok (.iconst 1, 1) := by decide +kernel
theorem dX6_restlessOf_32 : decode cX6_restlessOf 32 = .ok (.iload_n 2, 1) := by decide +kernel
theorem dX6_restlessOf_33 : decode cX6_restlessOf 33 = .ok (.ishl, 1) := by decide +kernel
theorem dX6_restlessOf_34 : decode cX6_restlessOf 34 = .ok (.ior, 1) := by decide +kernel
theorem dX6_restlessOf_35 : decode cX6_restlessOf 35 = .ok (.istore_n 1, 1) := by decide +kernel
theorem dX6_restlessOf_36 : decode cX6_restlessOf 36 = .ok (.iinc 2 1, 3) := by decide +kernel
theorem dX6_restlessOf_39 : decode cX6_restlessOf 39 = .ok (.goto (-35), 3) := by decide +kernel
theorem dX6_restlessOf_42 : decode cX6_restlessOf 42 = .ok (.iload_n 1, 1) := by decide +kernel
theorem dX6_restlessOf_43 : decode cX6_restlessOf 43 = .ok (.ireturn, 1) := by decide +kernel
theorem dX6_restless_0 : decode cX6_restless 0 = .ok (.aload_n 0, 1) := by decide +kernel
theorem dX6_restless_1 : decode cX6_restless 1 = .ok (.invokevirtual 123, 3) := by decide +kernel
theorem dX6_restless_4 : decode cX6_restless 4 = .ok (.ireturn, 1) := by decide +kernel
theorem dX6_move_0 : decode cX6_move 0 = .ok (.aload_n 0, 1) := by decide +kernel
theorem dX6_move_1 : decode cX6_move 1 = .ok (.iload_n 1, 1) := by decide +kernel
theorem dX6_move_2 : decode cX6_move 2 = .ok (.invokevirtual 44, 3) := by decide +kernel
theorem dX6_move_5 : decode cX6_move 5 = .ok (.ifCond .ne 6, 3) := by decide +kernel
theorem dX6_move_8 : decode cX6_move 8 = .ok (.bipush (-101), 2) := by decide +kernel
theorem dX6_move_10 : decode cX6_move 10 = .ok (.ireturn, 1) := by decide +kernel
theorem dX6_move_11 : decode cX6_move 11 = .ok (.aload_n 0, 1) := by decide +kernel
theorem dX6_move_12 : decode cX6_move 12 = .ok (.iload_n 1, 1) := by decide +kernel
theorem dX6_move_13 : decode cX6_move 13 = .ok (.invokevirtual 120, 3) := by decide +kernel
theorem dX6_move_16 : decode cX6_move 16 = .ok (.aload_n 0, 1) := by decide +kernel
theorem dX6_move_17 : decode cX6_move 17 = .ok (.getfield 19, 3) := by decide +kernel
theorem dX6_move_20 : decode cX6_move 20 = .ok (.iload_n 1, 1) := by decide +kernel
theorem dX6_move_21 : decode cX6_move 21 = .ok (.iaload, 1) := by decide +kernel
theorem dX6_move_22 : decode cX6_move 22 = .ok (.if_icmp .ne 6, 3) := by decide +kernel
theorem dX6_move_25 : decode cX6_move 25 = .ok (.bipush (-103), 2) := by decide +kernel
theorem dX6_move_27 : decode cX6_move 27 = .ok (.ireturn, 1) := by decide +kernel
theorem dX6_move_28 : decode cX6_move 28 = .ok (.aload_n 0, 1) := by decide +kernel
theorem dX6_move_29 : decode cX6_move 29 = .ok (.getfield 19, 3) := by decide +kernel
theorem dX6_move_32 : decode cX6_move 32 = .ok (.iload_n 1, 1) := by decide +kernel
theorem dX6_move_33 : decode cX6_move 33 = .ok (.aload_n 0, 1) := by decide +kernel
theorem dX6_move_34 : decode cX6_move 34 = .ok (.iload_n 1, 1) := by decide +kernel
theorem dX6_move_35 : decode cX6_move 35 = .ok (.invokevirtual 120, 3) := by decide +kernel
theorem dX6_move_38 : decode cX6_move 38 = .ok (.iastore, 1) := by decide +kernel
theorem dX6_move_39 : decode cX6_move 39 = .ok (.aload_n 0, 1) := by decide +kernel
theorem dX6_move_40 : decode cX6_move 40 = .ok (.getfield 19, 3) := by decide +kernel
theorem dX6_move_43 : decode cX6_move 43 = .ok (.iload_n 1, 1) := by decide +kernel
theorem dX6_move_44 : decode cX6_move 44 = .ok (.iaload, 1) := by decide +kernel
theorem dX6_move_45 : decode cX6_move 45 = .ok (.ireturn, 1) := by decide +kernel
theorem dX6_mend_0 : decode cX6_mend 0 = .ok (.iconst 0, 1) := by decide +kernel
theorem dX6_mend_1 : decode cX6_mend 1 = .ok (.istore_n 1, 1) := by decide +kernel
theorem dX6_mend_2 : decode cX6_mend 2 = .ok (.aload_n 0, 1) := by decide +kernel
theorem dX6_mend_3 : decode cX6_mend 3 = .ok (.invokevirtual 123, 3) := by decide +kernel
theorem dX6_mend_6 : decode cX6_mend 6 = .ok (.istore_n 2, 1) := by decide +kernel
theorem dX6_mend_7 : decode cX6_mend 7 = .ok (.iload_n 2, 1) := by decide +kernel
theorem dX6_mend_8 : decode cX6_mend 8 = .ok (.ifCond .eq 48, 3) := by decide +kernel
theorem dX6_mend_11 : decode cX6_mend 11 = .ok (.iload_n 1, 1) := by decide +kernel
theorem dX6_mend_12 : decode cX6_mend 12 = .ok (.sipush 1000, 3) := by decide +kernel
theorem dX6_mend_15 : decode cX6_mend 15 = .ok (.if_icmp .ge 41, 3) := by decide +kernel
theorem dX6_mend_18 : decode cX6_mend 18 = .ok (.iconst 0, 1) := by decide +kernel
theorem dX6_mend_19 : decode cX6_mend 19 = .ok (.istore_n 3, 1) := by decide +kernel
theorem dX6_mend_20 : decode cX6_mend 20 = .ok (.iload_n 2, 1) := by decide +kernel
theorem dX6_mend_21 : decode cX6_mend 21 = .ok (.iload_n 3, 1) := by decide +kernel
theorem dX6_mend_22 : decode cX6_mend 22 = .ok (.ishr, 1) := by decide +kernel
theorem dX6_mend_23 : decode cX6_mend 23 = .ok (.iconst 1, 1) := by decide +kernel
theorem dX6_mend_24 : decode cX6_mend 24 = .ok (.iand, 1) := by decide +kernel
