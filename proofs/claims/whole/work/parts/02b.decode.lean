theorem dX3_numberFrom_28 : decode cX3_numberFrom 28 = .ok (.aload_n 0, 1) := by decide +kernel
theorem dX3_numberFrom_29 : decode cX3_numberFrom 29 = .ok (.getfield 15, 3) := by decide +kernel
theorem dX3_numberFrom_32 : decode cX3_numberFrom 32 = .ok (.getfield 95, 3) := by decide +kernel
theorem dX3_numberFrom_35 : decode cX3_numberFrom 35 = .ok (.iload_n 3, 1) := by decide +kernel
theorem dX3_numberFrom_36 : decode cX3_numberFrom 36 = .ok (.iaload, 1) := by decide +kernel
theorem dX3_numberFrom_37 : decode cX3_numberFrom 37 = .ok (.iadd, 1) := by decide +kernel
theorem dX3_numberFrom_38 : decode cX3_numberFrom 38 = .ok (.iastore, 1) := by decide +kernel
theorem dX3_numberFrom_39 : decode cX3_numberFrom 39 = .ok (.iinc 3 1, 3) := by decide +kernel
theorem dX3_numberFrom_42 : decode cX3_numberFrom 42 = .ok (.goto (-40), 3) := by decide +kernel
theorem dX3_numberFrom_45 : decode cX3_numberFrom 45 = .ok (.return_, 1) := by decide +kernel
theorem dX4_init_0 : decode cX4_init 0 = .ok (.aload_n 0, 1) := by decide +kernel
theorem dX4_init_1 : decode cX4_init 1 = .ok (.invokespecial 3, 3) := by decide +kernel
theorem dX4_init_4 : decode cX4_init 4 = .ok (.aload_n 0, 1) := by decide +kernel
theorem dX4_init_5 : decode cX4_init 5 = .ok (.bipush 8, 2) := by decide +kernel
theorem dX4_init_7 : decode cX4_init 7 = .ok (.newarray .int, 2) := by decide +kernel
theorem dX4_init_9 : decode cX4_init 9 = .ok (.putfield 9, 3) := by decide +kernel
theorem dX4_init_12 : decode cX4_init 12 = .ok (.aload_n 0, 1) := by decide +kernel
theorem dX4_init_13 : decode cX4_init 13 = .ok (.aload_n 1, 1) := by decide +kernel
theorem dX4_init_14 : decode cX4_init 14 = .ok (.putfield 15, 3) := by decide +kernel
theorem dX4_init_17 : decode cX4_init 17 = .ok (.return_, 1) := by decide +kernel
theorem dX4_search_0 : decode cX4_search 0 = .ok (.aload_n 0, 1) := by decide +kernel
theorem dX4_search_1 : decode cX4_search 1 = .ok (.iload_n 1, 1) := by decide +kernel
theorem dX4_search_2 : decode cX4_search 2 = .ok (.putfield 19, 3) := by decide +kernel
theorem dX4_search_5 : decode cX4_search 5 = .ok (.aload_n 0, 1) := by decide +kernel
theorem dX4_search_6 : decode cX4_search 6 = .ok (.iload_n 2, 1) := by decide +kernel
theorem dX4_search_7 : decode cX4_search 7 = .ok (.putfield 23, 3) := by decide +kernel
theorem dX4_search_10 : decode cX4_search 10 = .ok (.aload_n 0, 1) := by decide +kernel
theorem dX4_search_11 : decode cX4_search 11 = .ok (.iload_n 3, 1) := by decide +kernel
theorem dX4_search_12 : decode cX4_search 12 = .ok (.putfield 26, 3) := by decide +kernel
theorem dX4_search_15 : decode cX4_search 15 = .ok (.aload_n 0, 1) := by decide +kernel
theorem dX4_search_16 : decode cX4_search 16 = .ok (.iconst 0, 1) := by decide +kernel
theorem dX4_search_17 : decode cX4_search 17 = .ok (.putfield 29, 3) := by decide +kernel
theorem dX4_search_20 : decode cX4_search 20 = .ok (.aload_n 0, 1) := by decide +kernel
theorem dX4_search_21 : decode cX4_search 21 = .ok (.iconst 0, 1) := by decide +kernel
theorem dX4_search_22 : decode cX4_search 22 = .ok (.putfield 32, 3) := by decide +kernel
theorem dX4_search_25 : decode cX4_search 25 = .ok (.aload_n 0, 1) := by decide +kernel
theorem dX4_search_26 : decode cX4_search 26 = .ok (.iconst 0, 1) := by decide +kernel
theorem dX4_search_27 : decode cX4_search 27 = .ok (.invokestatic 36, 3) := by decide +kernel
theorem dX4_search_30 : decode cX4_search 30 = .ok (.return_, 1) := by decide +kernel
theorem dX4_place_0 : decode cX4_place 0 = .ok (.aload_n 0, 1) := by decide +kernel
theorem dX4_place_1 : decode cX4_place 1 = .ok (.getfield 15, 3) := by decide +kernel
theorem dX4_place_4 : decode cX4_place 4 = .ok (.iload_n 1, 1) := by decide +kernel
theorem dX4_place_5 : decode cX4_place 5 = .ok (.invokevirtual 40, 3) := by decide +kernel
theorem dX4_place_8 : decode cX4_place 8 = .ok (.ifCond .ne 34, 3) := by decide +kernel
theorem dX4_place_11 : decode cX4_place 11 = .ok (.aload_n 0, 1) := by decide +kernel
theorem dX4_place_12 : decode cX4_place 12 = .ok (.aload_n 0, 1) := by decide +kernel
theorem dX4_place_13 : decode cX4_place 13 = .ok (.getfield 29, 3) := by decide +kernel
theorem dX4_place_16 : decode cX4_place 16 = .ok (.aload_n 0, 1) := by decide +kernel
theorem dX4_place_17 : decode cX4_place 17 = .ok (.getfield 26, 3) := by decide +kernel
theorem dX4_place_20 : decode cX4_place 20 = .ok (.if_icmp .ne 7, 3) := by decide +kernel
theorem dX4_place_23 : decode cX4_place 23 = .ok (.iconst 1, 1) := by decide +kernel
theorem dX4_place_24 : decode cX4_place 24 = .ok (.goto 4, 3) := by decide +kernel
theorem dX4_place_27 : decode cX4_place 27 = .ok (.iconst 0, 1) := by decide +kernel
theorem dX4_place_28 : decode cX4_place 28 = .ok (.putfield 32, 3) := by decide +kernel
theorem dX4_place_31 : decode cX4_place 31 = .ok (.aload_n 0, 1) := by decide +kernel
theorem dX4_place_32 : decode cX4_place 32 = .ok (.dup, 1) := by decide +kernel
theorem dX4_place_33 : decode cX4_place 33 = .ok (.getfield 29, 3) := by decide +kernel
theorem dX4_place_36 : decode cX4_place 36 = .ok (.iconst 1, 1) := by decide +kernel
theorem dX4_place_37 : decode cX4_place 37 = .ok (.iadd, 1) := by decide +kernel
theorem dX4_place_38 : decode cX4_place 38 = .ok (.putfield 29, 3) := by decide +kernel
theorem dX4_place_41 : decode cX4_place 41 = .ok (.return_, 1) := by decide +kernel
theorem dX4_place_42 : decode cX4_place 42 = .ok (.iconst 0, 1) := by decide +kernel
theorem dX4_place_43 : decode cX4_place 43 = .ok (.istore_n 2, 1) := by decide +kernel
theorem dX4_place_44 : decode cX4_place 44 = .ok (.iload_n 2, 1) := by decide +kernel
theorem dX4_place_45 : decode cX4_place 45 = .ok (.aload_n 0, 1) := by decide +kernel
theorem dX4_place_46 : decode cX4_place 46 = .ok (.getfield 23, 3) := by decide +kernel
theorem dX4_place_49 : decode cX4_place 49 = .ok (.if_icmp .ge 54, 3) := by decide +kernel
theorem dX4_place_52 : decode cX4_place 52 = .ok (.aload_n 0, 1) := by decide +kernel
theorem dX4_place_53 : decode cX4_place 53 = .ok (.getfield 32, 3) := by decide +kernel
theorem dX4_place_56 : decode cX4_place 56 = .ok (.ifCond .ne 47, 3) := by decide +kernel
theorem dX4_place_59 : decode cX4_place 59 = .ok (.aload_n 0, 1) := by decide +kernel
theorem dX4_place_60 : decode cX4_place 60 = .ok (.getfield 15, 3) := by decide +kernel
theorem dX4_place_63 : decode cX4_place 63 = .ok (.aload_n 0, 1) := by decide +kernel
theorem dX4_place_64 : decode cX4_place 64 = .ok (.getfield 19, 3) := by decide +kernel
theorem dX4_place_67 : decode cX4_place 67 = .ok (.iload_n 1, 1) := by decide +kernel
theorem dX4_place_68 : decode cX4_place 68 = .ok (.iload_n 2, 1) := by decide +kernel
theorem dX4_place_69 : decode cX4_place 69 = .ok (.invokestatic 46, 3) := by decide +kernel
theorem dX4_place_72 : decode cX4_place 72 = .ok (.ifCond .eq 25, 3) := by decide +kernel
theorem dX4_place_75 : decode cX4_place 75 = .ok (.aload_n 0, 1) := by decide +kernel
theorem dX4_place_76 : decode cX4_place 76 = .ok (.getfield 9, 3) := by decide +kernel
theorem dX4_place_79 : decode cX4_place 79 = .ok (.iload_n 1, 1) := by decide +kernel
theorem dX4_place_80 : decode cX4_place 80 = .ok (.iload_n 2, 1) := by decide +kernel
theorem dX4_place_81 : decode cX4_place 81 = .ok (.iastore, 1) := by decide +kernel
theorem dX4_place_82 : decode cX4_place 82 = .ok (.aload_n 0, 1) := by decide +kernel
theorem dX4_place_83 : decode cX4_place 83 = .ok (.iload_n 1, 1) := by decide +kernel
theorem dX4_place_84 : decode cX4_place 84 = .ok (.invokevirtual 52, 3) := by decide +kernel
theorem dX4_place_87 : decode cX4_place 87 = .ok (.ifCond .eq 10, 3) := by decide +kernel
theorem dX4_place_90 : decode cX4_place 90 = .ok (.aload_n 0, 1) := by decide +kernel
theorem dX4_place_91 : decode cX4_place 91 = .ok (.iload_n 1, 1) := by decide +kernel
theorem dX4_place_92 : decode cX4_place 92 = .ok (.iconst 1, 1) := by decide +kernel
theorem dX4_place_93 : decode cX4_place 93 = .ok (.iadd, 1) := by decide +kernel
theorem dX4_place_94 : decode cX4_place 94 = .ok (.invokestatic 36, 3) := by decide +kernel
theorem dX4_place_97 : decode cX4_place 97 = .ok (.iinc 2 1, 3) := by decide +kernel
theorem dX4_place_100 : decode cX4_place 100 = .ok (.goto (-56), 3) := by decide +kernel
theorem dX4_place_103 : decode cX4_place 103 = .ok (.return_, 1) := by decide +kernel
theorem dX4_stillStands_0 : decode cX4_stillStands 0 = .ok (.iconst 0, 1) := by decide +kernel
theorem dX4_stillStands_1 : decode cX4_stillStands 1 = .ok (.istore_n 2, 1) := by decide +kernel
theorem dX4_stillStands_2 : decode cX4_stillStands 2 = .ok (.iload_n 2, 1) := by decide +kernel
theorem dX4_stillStands_3 : decode cX4_stillStands 3 = .ok (.iload_n 1, 1) := by decide +kernel
theorem dX4_stillStands_4 : decode cX4_stillStands 4 = .ok (.if_icmp .gt 59, 3) := by decide +kernel
theorem dX4_stillStands_7 : decode cX4_stillStands 7 = .ok (.aload_n 0, 1) := by decide +kernel
theorem dX4_stillStands_8 : decode cX4_stillStands 8 = .ok (.getfield 15, 3) := by decide +kernel
theorem dX4_stillStands_11 : decode cX4_stillStands 11 = .ok (.getfield 55, 3) := by decide +kernel
theorem dX4_stillStands_14 : decode cX4_stillStands 14 = .ok (.iload_n 2, 1) := by decide +kernel
theorem dX4_stillStands_15 : decode cX4_stillStands 15 = .ok (.iaload, 1) := by decide +kernel
theorem dX4_stillStands_16 : decode cX4_stillStands 16 = .ok (.iconst 1, 1) := by decide +kernel
theorem dX4_stillStands_17 : decode cX4_stillStands 17 = .ok (.iload_n 2, 1) := by decide +kernel
theorem dX4_stillStands_18 : decode cX4_stillStands 18 = .ok (.ishl, 1) := by decide +kernel
theorem dX4_stillStands_19 : decode cX4_stillStands 19 = .ok (.ior, 1) := by decide +kernel
theorem dX4_stillStands_20 : decode cX4_stillStands 20 = .ok (.iload_n 1, 1) := by decide +kernel
theorem dX4_stillStands_21 : decode cX4_stillStands 21 = .ok (.ishr, 1) := by decide +kernel
theorem dX4_stillStands_22 : decode cX4_stillStands 22 = .ok (.iconst 1, 1) := by decide +kernel
theorem dX4_stillStands_23 : decode cX4_stillStands 23 = .ok (.if_icmp .ne 7, 3) := by decide +kernel
theorem dX4_stillStands_26 : decode cX4_stillStands 26 = .ok (.iconst 1, 1) := by decide +kernel
theorem dX4_stillStands_27 : decode cX4_stillStands 27 = .ok (.goto 4, 3) := by decide +kernel
theorem dX4_stillStands_30 : decode cX4_stillStands 30 = .ok (.iconst 0, 1) := by decide +kernel
theorem dX4_stillStands_31 : decode cX4_stillStands 31 = .ok (.istore_n 3, 1) := by decide +kernel
theorem dX4_stillStands_32 : decode cX4_stillStands 32 = .ok (.iload_n 3, 1) := by decide +kernel
theorem dX4_stillStands_33 : decode cX4_stillStands 33 = .ok (.ifCond .eq 24, 3) := by decide +kernel
theorem dX4_stillStands_36 : decode cX4_stillStands 36 = .ok (.aload_n 0, 1) := by decide +kernel
theorem dX4_stillStands_37 : decode cX4_stillStands 37 = .ok (.getfield 15, 3) := by decide +kernel
theorem dX4_stillStands_40 : decode cX4_stillStands 40 = .ok (.aload_n 0, 1) := by decide +kernel
theorem dX4_stillStands_41 : decode cX4_stillStands 41 = .ok (.getfield 19, 3) := by decide +kernel
theorem dX4_stillStands_44 : decode cX4_stillStands 44 = .ok (.aload_n 0, 1) := by decide +kernel
theorem dX4_stillStands_45 : decode cX4_stillStands 45 = .ok (.getfield 9, 3) := by decide +kernel
theorem dX4_stillStands_48 : decode cX4_stillStands 48 = .ok (.iload_n 2, 1) := by decide +kernel
theorem dX4_stillStands_49 : decode cX4_stillStands 49 = .ok (.invokestatic 58, 3) := by decide +kernel
theorem dX4_stillStands_52 : decode cX4_stillStands 52 = .ok (.ifCond .ne 5, 3) := by decide +kernel
theorem dX4_stillStands_55 : decode cX4_stillStands 55 = .ok (.iconst 0, 1) := by decide +kernel
theorem dX4_stillStands_56 : decode cX4_stillStands 56 = .ok (.ireturn, 1) := by decide +kernel
theorem dX4_stillStands_57 : decode cX4_stillStands 57 = .ok (.iinc 2 1, 3) := by decide +kernel
theorem dX4_stillStands_60 : decode cX4_stillStands 60 = .ok (.goto (-58), 3) := by decide +kernel
theorem dX4_stillStands_63 : decode cX4_stillStands 63 = .ok (.iconst 1, 1) := by decide +kernel
theorem dX4_stillStands_64 : decode cX4_stillStands 64 = .ok (.ireturn, 1) := by decide +kernel
theorem dX5_init_0 : decode cX5_init 0 = .ok (.aload_n 0, 1) := by decide +kernel
theorem dX5_init_1 : decode cX5_init 1 = .ok (.invokespecial 1, 3) := by decide +kernel
theorem dX5_init_4 : decode cX5_init 4 = .ok (.aload_n 0, 1) := by decide +kernel
theorem dX5_init_5 : decode cX5_init 5 = .ok (.new 7, 3) := by decide +kernel
theorem dX5_init_8 : decode cX5_init 8 = .ok (.dup, 1) := by decide +kernel
theorem dX5_init_9 : decode cX5_init 9 = .ok (.invokespecial 9, 3) := by decide +kernel
theorem dX5_init_12 : decode cX5_init 12 = .ok (.putfield 10, 3) := by decide +kernel
theorem dX5_init_15 : decode cX5_init 15 = .ok (.aload_n 0, 1) := by decide +kernel
theorem dX5_init_16 : decode cX5_init 16 = .ok (.new 16, 3) := by decide +kernel
theorem dX5_init_19 : decode cX5_init 19 = .ok (.dup, 1) := by decide +kernel
theorem dX5_init_20 : decode cX5_init 20 = .ok (.aload_n 0, 1) := by decide +kernel
theorem dX5_init_21 : decode cX5_init 21 = .ok (.getfield 10, 3) := by decide +kernel
theorem dX5_init_24 : decode cX5_init 24 = .ok (.invokespecial 18, 3) := by decide +kernel
theorem dX5_init_27 : decode cX5_init 27 = .ok (.putfield 21, 3) := by decide +kernel
theorem dX5_init_30 : decode cX5_init 30 = .ok (.aload_n 0, 1) := by decide +kernel
theorem dX5_init_31 : decode cX5_init 31 = .ok (.new 25, 3) := by decide +kernel
theorem dX5_init_34 : decode cX5_init 34 = .ok (.dup, 1) := by decide +kernel
theorem dX5_init_35 : decode cX5_init 35 = .ok (.aload_n 0, 1) := by decide +kernel
theorem dX5_init_36 : decode cX5_init 36 = .ok (.getfield 10, 3) := by decide +kernel
theorem dX5_init_39 : decode cX5_init 39 = .ok (.aload_n 0, 1) := by decide +kernel
theorem dX5_init_40 : decode cX5_init 40 = .ok (.getfield 21, 3) := by decide +kernel
theorem dX5_init_43 : decode cX5_init 43 = .ok (.invokespecial 27, 3) := by decide +kernel
theorem dX5_init_46 : decode cX5_init 46 = .ok (.putfield 30, 3) := by decide +kernel
theorem dX5_init_49 : decode cX5_init 49 = .ok (.aload_n 0, 1) := by decide +kernel
theorem dX5_init_50 : decode cX5_init 50 = .ok (.new 34, 3) := by decide +kernel
theorem dX5_init_53 : decode cX5_init 53 = .ok (.dup, 1) := by decide +kernel
theorem dX5_init_54 : decode cX5_init 54 = .ok (.aload_n 0, 1) := by decide +kernel
theorem dX5_init_55 : decode cX5_init 55 = .ok (.getfield 10, 3) := by decide +kernel
theorem dX5_init_58 : decode cX5_init 58 = .ok (.invokespecial 36, 3) := by decide +kernel
theorem dX5_init_61 : decode cX5_init 61 = .ok (.putfield 37, 3) := by decide +kernel
theorem dX5_init_64 : decode cX5_init 64 = .ok (.aload_n 0, 1) := by decide +kernel
theorem dX5_init_65 : decode cX5_init 65 = .ok (.bipush 8, 2) := by decide +kernel
theorem dX5_init_67 : decode cX5_init 67 = .ok (.newarray .int, 2) := by decide +kernel
theorem dX5_init_69 : decode cX5_init 69 = .ok (.putfield 41, 3) := by decide +kernel
theorem dX5_init_72 : decode cX5_init 72 = .ok (.aload_n 0, 1) := by decide +kernel
theorem dX5_init_73 : decode cX5_init 73 = .ok (.iconst 0, 1) := by decide +kernel
theorem dX5_init_74 : decode cX5_init 74 = .ok (.putfield 45, 3) := by decide +kernel
theorem dX5_init_77 : decode cX5_init 77 = .ok (.return_, 1) := by decide +kernel
theorem dX5_posts_0 : decode cX5_posts 0 = .ok (.iload_n 1, 1) := by decide +kernel
theorem dX5_posts_1 : decode cX5_posts 1 = .ok (.iconst 1, 1) := by decide +kernel
theorem dX5_posts_2 : decode cX5_posts 2 = .ok (.if_icmp .lt 9, 3) := by decide +kernel
theorem dX5_posts_5 : decode cX5_posts 5 = .ok (.iload_n 1, 1) := by decide +kernel
theorem dX5_posts_6 : decode cX5_posts 6 = .ok (.bipush 8, 2) := by decide +kernel
theorem dX5_posts_8 : decode cX5_posts 8 = .ok (.if_icmp .le 6, 3) := by decide +kernel
theorem dX5_posts_11 : decode cX5_posts 11 = .ok (.bipush (-102), 2) := by decide +kernel
theorem dX5_posts_13 : decode cX5_posts 13 = .ok (.ireturn, 1) := by decide +kernel
theorem dX5_posts_14 : decode cX5_posts 14 = .ok (.aload_n 0, 1) := by decide +kernel
theorem dX5_posts_15 : decode cX5_posts 15 = .ok (.getfield 10, 3) := by decide +kernel
theorem dX5_posts_18 : decode cX5_posts 18 = .ok (.iload_n 1, 1) := by decide +kernel
theorem dX5_posts_19 : decode cX5_posts 19 = .ok (.invokevirtual 49, 3) := by decide +kernel
theorem dX5_posts_22 : decode cX5_posts 22 = .ok (.aload_n 0, 1) := by decide +kernel
theorem dX5_posts_23 : decode cX5_posts 23 = .ok (.getfield 37, 3) := by decide +kernel
theorem dX5_posts_26 : decode cX5_posts 26 = .ok (.invokevirtual 53, 3) := by decide +kernel
theorem dX5_posts_29 : decode cX5_posts 29 = .ok (.aload_n 0, 1) := by decide +kernel
theorem dX5_posts_30 : decode cX5_posts 30 = .ok (.getfield 41, 3) := by decide +kernel
theorem dX5_posts_33 : decode cX5_posts 33 = .ok (.iconst 0, 1) := by decide +kernel
theorem dX5_posts_34 : decode cX5_posts 34 = .ok (.invokestatic 55, 3) := by decide +kernel
theorem dX5_posts_37 : decode cX5_posts 37 = .ok (.iload_n 1, 1) := by decide +kernel
theorem dX5_posts_38 : decode cX5_posts 38 = .ok (.ireturn, 1) := by decide +kernel
theorem dX5_line_0 : decode cX5_line 0 = .ok (.aload_n 0, 1) := by decide +kernel
theorem dX5_line_1 : decode cX5_line 1 = .ok (.getfield 10, 3) := by decide +kernel
theorem dX5_line_4 : decode cX5_line 4 = .ok (.iload_n 1, 1) := by decide +kernel
theorem dX5_line_5 : decode cX5_line 5 = .ok (.invokevirtual 61, 3) := by decide +kernel
theorem dX5_line_8 : decode cX5_line 8 = .ok (.ifCond .eq 14, 3) := by decide +kernel
theorem dX5_line_11 : decode cX5_line 11 = .ok (.aload_n 0, 1) := by decide +kernel
theorem dX5_line_12 : decode cX5_line 12 = .ok (.getfield 10, 3) := by decide +kernel
theorem dX5_line_15 : decode cX5_line 15 = .ok (.iload_n 2, 1) := by decide +kernel
theorem dX5_line_16 : decode cX5_line 16 = .ok (.invokevirtual 61, 3) := by decide +kernel
theorem dX5_line_19 : decode cX5_line 19 = .ok (.ifCond .ne 6, 3) := by decide +kernel
theorem dX5_line_22 : decode cX5_line 22 = .ok (.bipush (-101), 2) := by decide +kernel
theorem dX5_line_24 : decode cX5_line 24 = .ok (.ireturn, 1) := by decide +kernel
theorem dX5_line_25 : decode cX5_line 25 = .ok (.iload_n 1, 1) := by decide +kernel
theorem dX5_line_26 : decode cX5_line 26 = .ok (.iload_n 2, 1) := by decide +kernel
theorem dX5_line_27 : decode cX5_line 27 = .ok (.if_icmp .ne 6, 3) := by decide +kernel
theorem dX5_line_30 : decode cX5_line 30 = .ok (.bipush (-102), 2) := by decide +kernel
theorem dX5_line_32 : decode cX5_line 32 = .ok (.ireturn, 1) := by decide +kernel
theorem dX5_line_33 : decode cX5_line 33 = .ok (.aload_n 0, 1) := by decide +kernel
theorem dX5_line_34 : decode cX5_line 34 = .ok (.getfield 10, 3) := by decide +kernel
theorem dX5_line_37 : decode cX5_line 37 = .ok (.iload_n 1, 1) := by decide +kernel
theorem dX5_line_38 : decode cX5_line 38 = .ok (.iload_n 2, 1) := by decide +kernel
theorem dX5_line_39 : decode cX5_line 39 = .ok (.invokevirtual 65, 3) := by decide +kernel
theorem dX5_line_42 : decode cX5_line 42 = .ok (.istore 4, 2) := by decide +kernel
theorem dX5_line_44 : decode cX5_line 44 = .ok (.aload_n 0, 1) := by decide +kernel
theorem dX5_line_45 : decode cX5_line 45 = .ok (.getfield 10, 3) := by decide +kernel
theorem dX5_line_48 : decode cX5_line 48 = .ok (.iload_n 1, 1) := by decide +kernel
theorem dX5_line_49 : decode cX5_line 49 = .ok (.iload_n 2, 1) := by decide +kernel
theorem dX5_line_50 : decode cX5_line 50 = .ok (.iload_n 3, 1) := by decide +kernel
theorem dX5_line_51 : decode cX5_line 51 = .ok (.invokevirtual 69, 3) := by decide +kernel
theorem dX5_line_54 : decode cX5_line 54 = .ok (.iload 4, 2) := by decide +kernel
theorem dX5_line_56 : decode cX5_line 56 = .ok (.ireturn, 1) := by decide +kernel
theorem dX5_mark_0 : decode cX5_mark 0 = .ok (.aload_n 0, 1) := by decide +kernel
theorem dX5_mark_1 : decode cX5_mark 1 = .ok (.getfield 10, 3) := by decide +kernel
theorem dX5_mark_4 : decode cX5_mark 4 = .ok (.iload_n 1, 1) := by decide +kernel
theorem dX5_mark_5 : decode cX5_mark 5 = .ok (.invokevirtual 61, 3) := by decide +kernel
theorem dX5_mark_8 : decode cX5_mark 8 = .ok (.ifCond .ne 6, 3) := by decide +kernel
theorem dX5_mark_11 : decode cX5_mark 11 = .ok (.bipush (-101), 2) := by decide +kernel
theorem dX5_mark_13 : decode cX5_mark 13 = .ok (.ireturn, 1) := by decide +kernel
theorem dX5_mark_14 : decode cX5_mark 14 = .ok (.iload_n 2, 1) := by decide +kernel
theorem dX5_mark_15 : decode cX5_mark 15 = .ok (.ifCond .lt 8, 3) := by decide +kernel
theorem dX5_mark_18 : decode cX5_mark 18 = .ok (.iload_n 2, 1) := by decide +kernel
theorem dX5_mark_19 : decode cX5_mark 19 = .ok (.iconst 3, 1) := by decide +kernel
theorem dX5_mark_20 : decode cX5_mark 20 = .ok (.if_icmp .le 6, 3) := by decide +kernel
theorem dX5_mark_23 : decode cX5_mark 23 = .ok (.bipush (-102), 2) := by decide +kernel
theorem dX5_mark_25 : decode cX5_mark 25 = .ok (.ireturn, 1) := by decide +kernel
theorem dX5_mark_26 : decode cX5_mark 26 = .ok (.aload_n 0, 1) := by decide +kernel
theorem dX5_mark_27 : decode cX5_mark 27 = .ok (.getfield 10, 3) := by decide +kernel
theorem dX5_mark_30 : decode cX5_mark 30 = .ok (.getfield 73, 3) := by decide +kernel
theorem dX5_mark_33 : decode cX5_mark 33 = .ok (.iload_n 1, 1) := by decide +kernel
theorem dX5_mark_34 : decode cX5_mark 34 = .ok (.iaload, 1) := by decide +kernel
theorem dX5_mark_35 : decode cX5_mark 35 = .ok (.istore_n 3, 1) := by decide +kernel
theorem dX5_mark_36 : decode cX5_mark 36 = .ok (.aload_n 0, 1) := by decide +kernel
theorem dX5_mark_37 : decode cX5_mark 37 = .ok (.getfield 10, 3) := by decide +kernel
theorem dX5_mark_40 : decode cX5_mark 40 = .ok (.getfield 73, 3) := by decide +kernel
theorem dX5_mark_43 : decode cX5_mark 43 = .ok (.iload_n 1, 1) := by decide +kernel
theorem dX5_mark_44 : decode cX5_mark 44 = .ok (.iload_n 2, 1) := by decide +kernel
theorem dX5_mark_45 : decode cX5_mark 45 = .ok (.iastore, 1) := by decide +kernel
theorem dX5_mark_46 : decode cX5_mark 46 = .ok (.iload_n 3, 1) := by decide +kernel
theorem dX5_mark_47 : decode cX5_mark 47 = .ok (.ireturn, 1) := by decide +kernel
theorem dX5_scheme_0 : decode cX5_scheme 0 = .ok (.iload_n 1, 1) := by decide +kernel
theorem dX5_scheme_1 : decode cX5_scheme 1 = .ok (.ifCond .lt 8, 3) := by decide +kernel
theorem dX5_scheme_4 : decode cX5_scheme 4 = .ok (.iload_n 1, 1) := by decide +kernel
theorem dX5_scheme_5 : decode cX5_scheme 5 = .ok (.iconst 4, 1) := by decide +kernel
theorem dX5_scheme_6 : decode cX5_scheme 6 = .ok (.if_icmp .le 6, 3) := by decide +kernel
theorem dX5_scheme_9 : decode cX5_scheme 9 = .ok (.bipush (-102), 2) := by decide +kernel
theorem dX5_scheme_11 : decode cX5_scheme 11 = .ok (.ireturn, 1) := by decide +kernel
theorem dX5_scheme_12 : decode cX5_scheme 12 = .ok (.aload_n 0, 1) := by decide +kernel
theorem dX5_scheme_13 : decode cX5_scheme 13 = .ok (.getfield 45, 3) := by decide +kernel
theorem dX5_scheme_16 : decode cX5_scheme 16 = .ok (.istore_n 2, 1) := by decide +kernel
theorem dX5_scheme_17 : decode cX5_scheme 17 = .ok (.aload_n 0, 1) := by decide +kernel
theorem dX5_scheme_18 : decode cX5_scheme 18 = .ok (.iload_n 1, 1) := by decide +kernel
theorem dX5_scheme_19 : decode cX5_scheme 19 = .ok (.putfield 45, 3) := by decide +kernel
theorem dX5_scheme_22 : decode cX5_scheme 22 = .ok (.iload_n 2, 1) := by decide +kernel
theorem dX5_scheme_23 : decode cX5_scheme 23 = .ok (.ireturn, 1) := by decide +kernel
theorem dX5_holds_0 : decode cX5_holds 0 = .ok (.aload_n 0, 1) := by decide +kernel
theorem dX5_holds_1 : decode cX5_holds 1 = .ok (.getfield 30, 3) := by decide +kernel
theorem dX5_holds_4 : decode cX5_holds 4 = .ok (.aload_n 0, 1) := by decide +kernel
theorem dX5_holds_5 : decode cX5_holds 5 = .ok (.getfield 45, 3) := by decide +kernel
theorem dX5_holds_8 : decode cX5_holds 8 = .ok (.invokevirtual 76, 3) := by decide +kernel
theorem dX5_holds_11 : decode cX5_holds 11 = .ok (.ifCond .eq 7, 3) := by decide +kernel
theorem dX5_holds_14 : decode cX5_holds 14 = .ok (.iconst 1, 1) := by decide +kernel
theorem dX5_holds_15 : decode cX5_holds 15 = .ok (.goto 4, 3) := by decide +kernel
theorem dX5_holds_18 : decode cX5_holds 18 = .ok (.iconst 0, 1) := by decide +kernel
theorem dX5_holds_19 : decode cX5_holds 19 = .ok (.ireturn, 1) := by decide +kernel
theorem dX5_sets_0 : decode cX5_sets 0 = .ok (.aload_n 0, 1) := by decide +kernel
theorem dX5_sets_1 : decode cX5_sets 1 = .ok (.getfield 10, 3) := by decide +kernel
theorem dX5_sets_4 : decode cX5_sets 4 = .ok (.invokevirtual 79, 3) := by decide +kernel
theorem dX5_sets_7 : decode cX5_sets 7 = .ok (.ireturn, 1) := by decide +kernel
theorem dX5_far_0 : decode cX5_far 0 = .ok (.aload_n 0, 1) := by decide +kernel
theorem dX5_far_1 : decode cX5_far 1 = .ok (.getfield 10, 3) := by decide +kernel
theorem dX5_far_4 : decode cX5_far 4 = .ok (.iload_n 1, 1) := by decide +kernel
theorem dX5_far_5 : decode cX5_far 5 = .ok (.invokevirtual 61, 3) := by decide +kernel
theorem dX5_far_8 : decode cX5_far 8 = .ok (.ifCond .eq 14, 3) := by decide +kernel
theorem dX5_far_11 : decode cX5_far 11 = .ok (.aload_n 0, 1) := by decide +kernel
theorem dX5_far_12 : decode cX5_far 12 = .ok (.getfield 10, 3) := by decide +kernel
theorem dX5_far_15 : decode cX5_far 15 = .ok (.iload_n 2, 1) := by decide +kernel
theorem dX5_far_16 : decode cX5_far 16 = .ok (.invokevirtual 61, 3) := by decide +kernel
theorem dX5_far_19 : decode cX5_far 19 = .ok (.ifCond .ne 6, 3) := by decide +kernel
theorem dX5_far_22 : decode cX5_far 22 = .ok (.bipush (-101), 2) := by decide +kernel
theorem dX5_far_24 : decode cX5_far 24 = .ok (.ireturn, 1) := by decide +kernel
theorem dX5_far_25 : decode cX5_far 25 = .ok (.aload_n 0, 1) := by decide +kernel
theorem dX5_far_26 : decode cX5_far 26 = .ok (.getfield 10, 3) := by decide +kernel
theorem dX5_far_29 : decode cX5_far 29 = .ok (.iload_n 1, 1) := by decide +kernel
theorem dX5_far_30 : decode cX5_far 30 = .ok (.invokevirtual 83, 3) := by decide +kernel
theorem dX5_far_33 : decode cX5_far 33 = .ok (.pop, 1) := by decide +kernel
theorem dX5_far_34 : decode cX5_far 34 = .ok (.aload_n 0, 1) := by decide +kernel
theorem dX5_far_35 : decode cX5_far 35 = .ok (.getfield 10, 3) := by decide +kernel
theorem dX5_far_38 : decode cX5_far 38 = .ok (.getfield 87, 3) := by decide +kernel
theorem dX5_far_41 : decode cX5_far 41 = .ok (.iload_n 2, 1) := by decide +kernel
theorem dX5_far_42 : decode cX5_far 42 = .ok (.iaload, 1) := by decide +kernel
theorem dX5_far_43 : decode cX5_far 43 = .ok (.ireturn, 1) := by decide +kernel
theorem dX5_proof_0 : decode cX5_proof 0 = .ok (.aload_n 0, 1) := by decide +kernel
theorem dX5_proof_1 : decode cX5_proof 1 = .ok (.getfield 10, 3) := by decide +kernel
theorem dX5_proof_4 : decode cX5_proof 4 = .ok (.iload_n 1, 1) := by decide +kernel
theorem dX5_proof_5 : decode cX5_proof 5 = .ok (.invokevirtual 61, 3) := by decide +kernel
theorem dX5_proof_8 : decode cX5_proof 8 = .ok (.ifCond .ne 6, 3) := by decide +kernel
theorem dX5_proof_11 : decode cX5_proof 11 = .ok (.bipush (-101), 2) := by decide +kernel
theorem dX5_proof_13 : decode cX5_proof 13 = .ok (.ireturn, 1) := by decide +kernel
theorem dX5_proof_14 : decode cX5_proof 14 = .ok (.iload_n 2, 1) := by decide +kernel
theorem dX5_proof_15 : decode cX5_proof 15 = .ok (.ifCond .lt 9, 3) := by decide +kernel
theorem dX5_proof_18 : decode cX5_proof 18 = .ok (.iload_n 2, 1) := by decide +kernel
theorem dX5_proof_19 : decode cX5_proof 19 = .ok (.bipush 63, 2) := by decide +kernel
theorem dX5_proof_21 : decode cX5_proof 21 = .ok (.if_icmp .le 6, 3) := by decide +kernel
theorem dX5_proof_24 : decode cX5_proof 24 = .ok (.bipush (-102), 2) := by decide +kernel
theorem dX5_proof_26 : decode cX5_proof 26 = .ok (.ireturn, 1) := by decide +kernel
theorem dX5_proof_27 : decode cX5_proof 27 = .ok (.aload_n 0, 1) := by decide +kernel
theorem dX5_proof_28 : decode cX5_proof 28 = .ok (.getfield 41, 3) := by decide +kernel
theorem dX5_proof_31 : decode cX5_proof 31 = .ok (.iload_n 1, 1) := by decide +kernel
theorem dX5_proof_32 : decode cX5_proof 32 = .ok (.iaload, 1) := by decide +kernel
theorem dX5_proof_33 : decode cX5_proof 33 = .ok (.istore_n 3, 1) := by decide +kernel
theorem dX5_proof_34 : decode cX5_proof 34 = .ok (.aload_n 0, 1) := by decide +kernel
theorem dX5_proof_35 : decode cX5_proof 35 = .ok (.getfield 41, 3) := by decide +kernel
theorem dX5_proof_38 : decode cX5_proof 38 = .ok (.iload_n 1, 1) := by decide +kernel
theorem dX5_proof_39 : decode cX5_proof 39 = .ok (.iload_n 2, 1) := by decide +kernel
theorem dX5_proof_40 : decode cX5_proof 40 = .ok (.iastore, 1) := by decide +kernel
theorem dX5_proof_41 : decode cX5_proof 41 = .ok (.iload_n 3, 1) := by decide +kernel
theorem dX5_proof_42 : decode cX5_proof 42 = .ok (.ireturn, 1) := by decide +kernel
theorem dX5_accepts_0 : decode cX5_accepts 0 = .ok (.aload_n 0, 1) := by decide +kernel
theorem dX5_accepts_1 : decode cX5_accepts 1 = .ok (.getfield 10, 3) := by decide +kernel
theorem dX5_accepts_4 : decode cX5_accepts 4 = .ok (.iload_n 1, 1) := by decide +kernel
theorem dX5_accepts_5 : decode cX5_accepts 5 = .ok (.invokevirtual 61, 3) := by decide +kernel
theorem dX5_accepts_8 : decode cX5_accepts 8 = .ok (.ifCond .ne 6, 3) := by decide +kernel
theorem dX5_accepts_11 : decode cX5_accepts 11 = .ok (.bipush (-101), 2) := by decide +kernel
theorem dX5_accepts_13 : decode cX5_accepts 13 = .ok (.ireturn, 1) := by decide +kernel
theorem dX5_accepts_14 : decode cX5_accepts 14 = .ok (.aload_n 0, 1) := by decide +kernel
theorem dX5_accepts_15 : decode cX5_accepts 15 = .ok (.getfield 10, 3) := by decide +kernel
theorem dX5_accepts_18 : decode cX5_accepts 18 = .ok (.aload_n 0, 1) := by decide +kernel
theorem dX5_accepts_19 : decode cX5_accepts 19 = .ok (.getfield 45, 3) := by decide +kernel
theorem dX5_accepts_22 : decode cX5_accepts 22 = .ok (.aload_n 0, 1) := by decide +kernel
theorem dX5_accepts_23 : decode cX5_accepts 23 = .ok (.getfield 41, 3) := by decide +kernel
theorem dX5_accepts_26 : decode cX5_accepts 26 = .ok (.iload_n 1, 1) := by decide +kernel
theorem dX5_accepts_27 : decode cX5_accepts 27 = .ok (.invokestatic 90, 3) := by decide +kernel
theorem dX5_accepts_30 : decode cX5_accepts 30 = .ok (.ifCond .eq 7, 3) := by decide +kernel
theorem dX5_accepts_33 : decode cX5_accepts 33 = .ok (.iconst 1, 1) := by decide +kernel
theorem dX5_accepts_34 : decode cX5_accepts 34 = .ok (.goto 4, 3) := by decide +kernel
theorem dX5_accepts_37 : decode cX5_accepts 37 = .ok (.iconst 0, 1) := by decide +kernel
theorem dX5_accepts_38 : decode cX5_accepts 38 = .ok (.ireturn, 1) := by decide +kernel
theorem dX5_against_0 : decode cX5_against 0 = .ok (.iconst 0, 1) := by decide +kernel
theorem dX5_against_1 : decode cX5_against 1 = .ok (.istore_n 1, 1) := by decide +kernel
theorem dX5_against_2 : decode cX5_against 2 = .ok (.iconst 0, 1) := by decide +kernel
theorem dX5_against_3 : decode cX5_against 3 = .ok (.istore_n 2, 1) := by decide +kernel
theorem dX5_against_4 : decode cX5_against 4 = .ok (.iload_n 2, 1) := by decide +kernel
theorem dX5_against_5 : decode cX5_against 5 = .ok (.aload_n 0, 1) := by decide +kernel
theorem dX5_against_6 : decode cX5_against 6 = .ok (.getfield 10, 3) := by decide +kernel
theorem dX5_against_9 : decode cX5_against 9 = .ok (.getfield 96, 3) := by decide +kernel
theorem dX5_against_12 : decode cX5_against 12 = .ok (.if_icmp .ge 34, 3) := by decide +kernel
theorem dX5_against_15 : decode cX5_against 15 = .ok (.aload_n 0, 1) := by decide +kernel
theorem dX5_against_16 : decode cX5_against 16 = .ok (.getfield 10, 3) := by decide +kernel
theorem dX5_against_19 : decode cX5_against 19 = .ok (.aload_n 0, 1) := by decide +kernel
theorem dX5_against_20 : decode cX5_against 20 = .ok (.getfield 45, 3) := by decide +kernel
theorem dX5_against_23 : decode cX5_against 23 = .ok (.aload_n 0, 1) := by decide +kernel
theorem dX5_against_24 : decode cX5_against 24 = .ok (.getfield 41, 3) := by decide +kernel
theorem dX5_against_27 : decode cX5_against 27 = .ok (.iload_n 2, 1) := by decide +kernel
theorem dX5_against_28 : decode cX5_against 28 = .ok (.invokestatic 90, 3) := by decide +kernel
theorem dX5_against_31 : decode cX5_against 31 = .ok (.ifCond .ne 9, 3) := by decide +kernel
theorem dX5_against_34 : decode cX5_against 34 = .ok (.iload_n 1, 1) := by decide +kernel
theorem dX5_against_35 : decode cX5_against 35 = .ok (.iconst 1, 1) := by decide +kernel
theorem dX5_against_36 : decode cX5_against 36 = .ok (.iload_n 2, 1) := by decide +kernel
theorem dX5_against_37 : decode cX5_against 37 = .ok (.ishl, 1) := by decide +kernel
theorem dX5_against_38 : decode cX5_against 38 = .ok (.ior, 1) := by decide +kernel
theorem dX5_against_39 : decode cX5_against 39 = .ok (.istore_n 1, 1) := by decide +kernel
theorem dX5_against_40 : decode cX5_against 40 = .ok (.iinc 2 1, 3) := by decide +kernel
theorem dX5_against_43 : decode cX5_against 43 = .ok (.goto (-39), 3) := by decide +kernel
theorem dX5_against_46 : decode cX5_against 46 = .ok (.iload_n 1, 1) := by decide +kernel
theorem dX5_against_47 : decode cX5_against 47 = .ok (.ireturn, 1) := by decide +kernel
theorem dX5_prove_0 : decode cX5_prove 0 = .ok (.aload_n 0, 1) := by decide +kernel
theorem dX5_prove_1 : decode cX5_prove 1 = .ok (.getfield 30, 3) := by decide +kernel
theorem dX5_prove_4 : decode cX5_prove 4 = .ok (.aload_n 0, 1) := by decide +kernel
theorem dX5_prove_5 : decode cX5_prove 5 = .ok (.getfield 45, 3) := by decide +kernel
theorem dX5_prove_8 : decode cX5_prove 8 = .ok (.invokevirtual 76, 3) := by decide +kernel
theorem dX5_prove_11 : decode cX5_prove 11 = .ok (.ifCond .ne 5, 3) := by decide +kernel
theorem dX5_prove_14 : decode cX5_prove 14 = .ok (.iconst 0, 1) := by decide +kernel
theorem dX5_prove_15 : decode cX5_prove 15 = .ok (.ireturn, 1) := by decide +kernel
theorem dX5_prove_16 : decode cX5_prove 16 = .ok (.aload_n 0, 1) := by decide +kernel
theorem dX5_prove_17 : decode cX5_prove 17 = .ok (.getfield 30, 3) := by decide +kernel
theorem dX5_prove_20 : decode cX5_prove 20 = .ok (.getfield 99, 3) := by decide +kernel
theorem dX5_prove_23 : decode cX5_prove 23 = .ok (.iconst 0, 1) := by decide +kernel
theorem dX5_prove_24 : decode cX5_prove 24 = .ok (.aload_n 0, 1) := by decide +kernel
theorem dX5_prove_25 : decode cX5_prove 25 = .ok (.getfield 41, 3) := by decide +kernel
theorem dX5_prove_28 : decode cX5_prove 28 = .ok (.iconst 0, 1) := by decide +kernel
theorem dX5_prove_29 : decode cX5_prove 29 = .ok (.aload_n 0, 1) := by decide +kernel
theorem dX5_prove_30 : decode cX5_prove 30 = .ok (.getfield 10, 3) := by decide +kernel
theorem dX5_prove_33 : decode cX5_prove 33 = .ok (.getfield 96, 3) := by decide +kernel
theorem dX5_prove_36 : decode cX5_prove 36 = .ok (.invokestatic 102, 3) := by decide +kernel
theorem dX5_prove_39 : decode cX5_prove 39 = .ok (.iconst 1, 1) := by decide +kernel
theorem dX5_prove_40 : decode cX5_prove 40 = .ok (.ireturn, 1) := by decide +kernel
theorem dX5_tryAll_0 : decode cX5_tryAll 0 = .ok (.aload_n 0, 1) := by decide +kernel
theorem dX5_tryAll_1 : decode cX5_tryAll 1 = .ok (.iload_n 1, 1) := by decide +kernel
theorem dX5_tryAll_2 : decode cX5_tryAll 2 = .ok (.invokevirtual 108, 3) := by decide +kernel
theorem dX5_tryAll_5 : decode cX5_tryAll 5 = .ok (.istore_n 2, 1) := by decide +kernel
theorem dX5_tryAll_6 : decode cX5_tryAll 6 = .ok (.iload_n 2, 1) := by decide +kernel
theorem dX5_tryAll_7 : decode cX5_tryAll 7 = .ok (.ifCond .eq 5, 3) := by decide +kernel
theorem dX5_tryAll_10 : decode cX5_tryAll 10 = .ok (.iload_n 2, 1) := by decide +kernel
theorem dX5_tryAll_11 : decode cX5_tryAll 11 = .ok (.ireturn, 1) := by decide +kernel
theorem dX5_tryAll_12 : decode cX5_tryAll 12 = .ok (.aload_n 0, 1) := by decide +kernel
theorem dX5_tryAll_13 : decode cX5_tryAll 13 = .ok (.dup, 1) := by decide +kernel
theorem dX5_tryAll_14 : decode cX5_tryAll 14 = .ok (.getfield 111, 3) := by decide +kernel
theorem dX5_tryAll_17 : decode cX5_tryAll 17 = .ok (.iconst 1, 1) := by decide +kernel
theorem dX5_tryAll_18 : decode cX5_tryAll 18 = .ok (.iadd, 1) := by decide +kernel
theorem dX5_tryAll_19 : decode cX5_tryAll 19 = .ok (.putfield 111, 3) := by decide +kernel
theorem dX5_tryAll_22 : decode cX5_tryAll 22 = .ok (.aload_n 0, 1) := by decide +kernel
theorem dX5_tryAll_23 : decode cX5_tryAll 23 = .ok (.getfield 21, 3) := by decide +kernel
theorem dX5_tryAll_26 : decode cX5_tryAll 26 = .ok (.aload_n 0, 1) := by decide +kernel
theorem dX5_tryAll_27 : decode cX5_tryAll 27 = .ok (.getfield 45, 3) := by decide +kernel
theorem dX5_tryAll_30 : decode cX5_tryAll 30 = .ok (.iload_n 1, 1) := by decide +kernel
theorem dX5_tryAll_31 : decode cX5_tryAll 31 = .ok (.iconst (-1), 1) := by decide +kernel
theorem dX5_tryAll_32 : decode cX5_tryAll 32 = .ok (.invokevirtual 114, 3) := by decide +kernel
theorem dX5_tryAll_35 : decode cX5_tryAll 35 = .ok (.aload_n 0, 1) := by decide +kernel
theorem dX5_tryAll_36 : decode cX5_tryAll 36 = .ok (.getfield 21, 3) := by decide +kernel
theorem dX5_tryAll_39 : decode cX5_tryAll 39 = .ok (.getfield 118, 3) := by decide +kernel
theorem dX5_tryAll_42 : decode cX5_tryAll 42 = .ok (.ireturn, 1) := by decide +kernel
theorem dX5_attempt_0 : decode cX5_attempt 0 = .ok (.aload_n 0, 1) := by decide +kernel
theorem dX5_attempt_1 : decode cX5_attempt 1 = .ok (.iload_n 1, 1) := by decide +kernel
theorem dX5_attempt_2 : decode cX5_attempt 2 = .ok (.invokevirtual 108, 3) := by decide +kernel
theorem dX5_attempt_5 : decode cX5_attempt 5 = .ok (.istore_n 3, 1) := by decide +kernel
theorem dX5_attempt_6 : decode cX5_attempt 6 = .ok (.iload_n 3, 1) := by decide +kernel
theorem dX5_attempt_7 : decode cX5_attempt 7 = .ok (.ifCond .eq 5, 3) := by decide +kernel
theorem dX5_attempt_10 : decode cX5_attempt 10 = .ok (.iload_n 3, 1) := by decide +kernel
theorem dX5_attempt_11 : decode cX5_attempt 11 = .ok (.ireturn, 1) := by decide +kernel
theorem dX5_attempt_12 : decode cX5_attempt 12 = .ok (.aload_n 0, 1) := by decide +kernel
theorem dX5_attempt_13 : decode cX5_attempt 13 = .ok (.dup, 1) := by decide +kernel
theorem dX5_attempt_14 : decode cX5_attempt 14 = .ok (.getfield 111, 3) := by decide +kernel
theorem dX5_attempt_17 : decode cX5_attempt 17 = .ok (.iconst 1, 1) := by decide +kernel
theorem dX5_attempt_18 : decode cX5_attempt 18 = .ok (.iadd, 1) := by decide +kernel
theorem dX5_attempt_19 : decode cX5_attempt 19 = .ok (.putfield 111, 3) := by decide +kernel
theorem dX5_attempt_22 : decode cX5_attempt 22 = .ok (.aload_n 0, 1) := by decide +kernel
theorem dX5_attempt_23 : decode cX5_attempt 23 = .ok (.getfield 21, 3) := by decide +kernel
theorem dX5_attempt_26 : decode cX5_attempt 26 = .ok (.aload_n 0, 1) := by decide +kernel
theorem dX5_attempt_27 : decode cX5_attempt 27 = .ok (.getfield 45, 3) := by decide +kernel
theorem dX5_attempt_30 : decode cX5_attempt 30 = .ok (.iload_n 1, 1) := by decide +kernel
theorem dX5_attempt_31 : decode cX5_attempt 31 = .ok (.iload_n 2, 1) := by decide +kernel
theorem dX5_attempt_32 : decode cX5_attempt 32 = .ok (.invokevirtual 114, 3) := by decide +kernel
theorem dX5_attempt_35 : decode cX5_attempt 35 = .ok (.aload_n 0, 1) := by decide +kernel
theorem dX5_attempt_36 : decode cX5_attempt 36 = .ok (.getfield 21, 3) := by decide +kernel
theorem dX5_attempt_39 : decode cX5_attempt 39 = .ok (.getfield 121, 3) := by decide +kernel
theorem dX5_attempt_42 : decode cX5_attempt 42 = .ok (.ifCond .ne 5, 3) := by decide +kernel
theorem dX5_attempt_45 : decode cX5_attempt 45 = .ok (.iconst (-1), 1) := by decide +kernel
theorem dX5_attempt_46 : decode cX5_attempt 46 = .ok (.ireturn, 1) := by decide +kernel
theorem dX5_attempt_47 : decode cX5_attempt 47 = .ok (.aload_n 0, 1) := by decide +kernel
theorem dX5_attempt_48 : decode cX5_attempt 48 = .ok (.getfield 21, 3) := by decide +kernel
theorem dX5_attempt_51 : decode cX5_attempt 51 = .ok (.getfield 125, 3) := by decide +kernel
theorem dX5_attempt_54 : decode cX5_attempt 54 = .ok (.iconst 0, 1) := by decide +kernel
theorem dX5_attempt_55 : decode cX5_attempt 55 = .ok (.aload_n 0, 1) := by decide +kernel
theorem dX5_attempt_56 : decode cX5_attempt 56 = .ok (.getfield 41, 3) := by decide +kernel
theorem dX5_attempt_59 : decode cX5_attempt 59 = .ok (.iconst 0, 1) := by decide +kernel
theorem dX5_attempt_60 : decode cX5_attempt 60 = .ok (.aload_n 0, 1) := by decide +kernel
theorem dX5_attempt_61 : decode cX5_attempt 61 = .ok (.getfield 10, 3) := by decide +kernel
theorem dX5_attempt_64 : decode cX5_attempt 64 = .ok (.getfield 96, 3) := by decide +kernel
theorem dX5_attempt_67 : decode cX5_attempt 67 = .ok (.invokestatic 102, 3) := by decide +kernel
theorem dX5_attempt_70 : decode cX5_attempt 70 = .ok (.iconst 1, 1) := by decide +kernel
theorem dX5_attempt_71 : decode cX5_attempt 71 = .ok (.ireturn, 1) := by decide +kernel
theorem dX5_numbers_0 : decode cX5_numbers 0 = .ok (.aload_n 0, 1) := by decide +kernel
theorem dX5_numbers_1 : decode cX5_numbers 1 = .ok (.getfield 30, 3) := by decide +kernel
theorem dX5_numbers_4 : decode cX5_numbers 4 = .ok (.aload_n 0, 1) := by decide +kernel
theorem dX5_numbers_5 : decode cX5_numbers 5 = .ok (.getfield 45, 3) := by decide +kernel
theorem dX5_numbers_8 : decode cX5_numbers 8 = .ok (.invokevirtual 76, 3) := by decide +kernel
theorem dX5_numbers_11 : decode cX5_numbers 11 = .ok (.ifCond .ne 5, 3) := by decide +kernel
theorem dX5_numbers_14 : decode cX5_numbers 14 = .ok (.iconst (-1), 1) := by decide +kernel
theorem dX5_numbers_15 : decode cX5_numbers 15 = .ok (.ireturn, 1) := by decide +kernel
theorem dX5_numbers_16 : decode cX5_numbers 16 = .ok (.iconst 0, 1) := by decide +kernel
theorem dX5_numbers_17 : decode cX5_numbers 17 = .ok (.istore_n 1, 1) := by decide +kernel
theorem dX5_numbers_18 : decode cX5_numbers 18 = .ok (.iconst 0, 1) := by decide +kernel
theorem dX5_numbers_19 : decode cX5_numbers 19 = .ok (.istore_n 2, 1) := by decide +kernel
theorem dX5_numbers_20 : decode cX5_numbers 20 = .ok (.iload_n 2, 1) := by decide +kernel
theorem dX5_numbers_21 : decode cX5_numbers 21 = .ok (.aload_n 0, 1) := by decide +kernel
theorem dX5_numbers_22 : decode cX5_numbers 22 = .ok (.getfield 10, 3) := by decide +kernel
theorem dX5_numbers_25 : decode cX5_numbers 25 = .ok (.getfield 96, 3) := by decide +kernel
theorem dX5_numbers_28 : decode cX5_numbers 28 = .ok (.if_icmp .ge 23, 3) := by decide +kernel
theorem dX5_numbers_31 : decode cX5_numbers 31 = .ok (.iload_n 1, 1) := by decide +kernel
theorem dX5_numbers_32 : decode cX5_numbers 32 = .ok (.aload_n 0, 1) := by decide +kernel
theorem dX5_numbers_33 : decode cX5_numbers 33 = .ok (.getfield 30, 3) := by decide +kernel
theorem dX5_numbers_36 : decode cX5_numbers 36 = .ok (.getfield 99, 3) := by decide +kernel
theorem dX5_numbers_39 : decode cX5_numbers 39 = .ok (.iload_n 2, 1) := by decide +kernel
theorem dX5_numbers_40 : decode cX5_numbers 40 = .ok (.iaload, 1) := by decide +kernel
theorem dX5_numbers_41 : decode cX5_numbers 41 = .ok (.invokestatic 126, 3) := by decide +kernel
theorem dX5_numbers_44 : decode cX5_numbers 44 = .ok (.istore_n 1, 1) := by decide +kernel
theorem dX5_numbers_45 : decode cX5_numbers 45 = .ok (.iinc 2 1, 3) := by decide +kernel
theorem dX5_numbers_48 : decode cX5_numbers 48 = .ok (.goto (-28), 3) := by decide +kernel
theorem dX5_numbers_51 : decode cX5_numbers 51 = .ok (.iload_n 1, 1) := by decide +kernel
theorem dX5_numbers_52 : decode cX5_numbers 52 = .ok (.iconst 1, 1) := by decide +kernel
theorem dX5_numbers_53 : decode cX5_numbers 53 = .ok (.iadd, 1) := by decide +kernel
theorem dX5_numbers_54 : decode cX5_numbers 54 = .ok (.ireturn, 1) := by decide +kernel
theorem dX5_slip_0 : decode cX5_slip 0 = .ok (.iload_n 1, 1) := by decide +kernel
theorem dX5_slip_1 : decode cX5_slip 1 = .ok (.ifCond .lt 18, 3) := by decide +kernel
theorem dX5_slip_4 : decode cX5_slip 4 = .ok (.iload_n 1, 1) := by decide +kernel
theorem dX5_slip_5 : decode cX5_slip 5 = .ok (.bipush 10, 2) := by decide +kernel
theorem dX5_slip_7 : decode cX5_slip 7 = .ok (.if_icmp .gt 12, 3) := by decide +kernel
theorem dX5_slip_10 : decode cX5_slip 10 = .ok (.iload_n 2, 1) := by decide +kernel
theorem dX5_slip_11 : decode cX5_slip 11 = .ok (.ifCond .lt 8, 3) := by decide +kernel
theorem dX5_slip_14 : decode cX5_slip 14 = .ok (.iload_n 2, 1) := by decide +kernel
theorem dX5_slip_15 : decode cX5_slip 15 = .ok (.iconst 1, 1) := by decide +kernel
theorem dX5_slip_16 : decode cX5_slip 16 = .ok (.if_icmp .le 7, 3) := by decide +kernel
theorem dX5_slip_19 : decode cX5_slip 19 = .ok (.ldc2_w 131, 3) := by decide +kernel
theorem dX5_slip_22 : decode cX5_slip 22 = .ok (.lreturn, 1) := by decide +kernel
theorem dX5_slip_23 : decode cX5_slip 23 = .ok (.bipush 10, 2) := by decide +kernel
theorem dX5_slip_25 : decode cX5_slip 25 = .ok (.iload_n 1, 1) := by decide +kernel
theorem dX5_slip_26 : decode cX5_slip 26 = .ok (.isub, 1) := by decide +kernel
theorem dX5_slip_27 : decode cX5_slip 27 = .ok (.invokestatic 133, 3) := by decide +kernel
theorem dX5_slip_30 : decode cX5_slip 30 = .ok (.istore_n 3, 1) := by decide +kernel
theorem dX5_slip_31 : decode cX5_slip 31 = .ok (.bipush 10, 2) := by decide +kernel
theorem dX5_slip_33 : decode cX5_slip 33 = .ok (.iload_n 1, 1) := by decide +kernel
theorem dX5_slip_34 : decode cX5_slip 34 = .ok (.isub, 1) := by decide +kernel
theorem dX5_slip_35 : decode cX5_slip 35 = .ok (.iload_n 3, 1) := by decide +kernel
theorem dX5_slip_36 : decode cX5_slip 36 = .ok (.imul, 1) := by decide +kernel
theorem dX5_slip_37 : decode cX5_slip 37 = .ok (.bipush 10, 2) := by decide +kernel
theorem dX5_slip_39 : decode cX5_slip 39 = .ok (.idiv, 1) := by decide +kernel
theorem dX5_slip_40 : decode cX5_slip 40 = .ok (.istore 4, 2) := by decide +kernel
theorem dX5_slip_42 : decode cX5_slip 42 = .ok (.iload_n 2, 1) := by decide +kernel
theorem dX5_slip_43 : decode cX5_slip 43 = .ok (.ifCond .ne 9, 3) := by decide +kernel
theorem dX5_slip_46 : decode cX5_slip 46 = .ok (.iload 4, 2) := by decide +kernel
theorem dX5_slip_48 : decode cX5_slip 48 = .ok (.i2l, 1) := by decide +kernel
theorem dX5_slip_49 : decode cX5_slip 49 = .ok (.goto 5, 3) := by decide +kernel
theorem dX5_slip_52 : decode cX5_slip 52 = .ok (.iload_n 3, 1) := by decide +kernel
theorem dX5_slip_53 : decode cX5_slip 53 = .ok (.i2l, 1) := by decide +kernel
theorem dX5_slip_54 : decode cX5_slip 54 = .ok (.aload_n 0, 1) := by decide +kernel
theorem dX5_slip_55 : decode cX5_slip 55 = .ok (.invokevirtual 136, 3) := by decide +kernel
theorem dX5_slip_58 : decode cX5_slip 58 = .ok (.invokestatic 139, 3) := by decide +kernel
theorem dX5_slip_61 : decode cX5_slip 61 = .ok (.invokestatic 144, 3) := by decide +kernel
theorem dX5_slip_64 : decode cX5_slip 64 = .ok (.lreturn, 1) := by decide +kernel
theorem dX5_distance_0 : decode cX5_distance 0 = .ok (.aload_n 0, 1) := by decide +kernel
theorem dX5_distance_1 : decode cX5_distance 1 = .ok (.getfield 10, 3) := by decide +kernel
theorem dX5_distance_4 : decode cX5_distance 4 = .ok (.iload_n 1, 1) := by decide +kernel
theorem dX5_distance_5 : decode cX5_distance 5 = .ok (.invokevirtual 61, 3) := by decide +kernel
theorem dX5_distance_8 : decode cX5_distance 8 = .ok (.ifCond .ne 6, 3) := by decide +kernel
theorem dX5_distance_11 : decode cX5_distance 11 = .ok (.bipush (-101), 2) := by decide +kernel
theorem dX5_distance_13 : decode cX5_distance 13 = .ok (.ireturn, 1) := by decide +kernel
theorem dX5_distance_14 : decode cX5_distance 14 = .ok (.iload_n 2, 1) := by decide +kernel
theorem dX5_distance_15 : decode cX5_distance 15 = .ok (.ifCond .lt 8, 3) := by decide +kernel
theorem dX5_distance_18 : decode cX5_distance 18 = .ok (.iload_n 2, 1) := by decide +kernel
theorem dX5_distance_19 : decode cX5_distance 19 = .ok (.iconst 4, 1) := by decide +kernel
theorem dX5_distance_20 : decode cX5_distance 20 = .ok (.if_icmp .le 6, 3) := by decide +kernel
theorem dX5_distance_23 : decode cX5_distance 23 = .ok (.bipush (-102), 2) := by decide +kernel
theorem dX5_distance_25 : decode cX5_distance 25 = .ok (.ireturn, 1) := by decide +kernel
theorem dX5_distance_26 : decode cX5_distance 26 = .ok (.aload_n 0, 1) := by decide +kernel
theorem dX5_distance_27 : decode cX5_distance 27 = .ok (.getfield 37, 3) := by decide +kernel
theorem dX5_distance_30 : decode cX5_distance 30 = .ok (.getfield 148, 3) := by decide +kernel
theorem dX5_distance_33 : decode cX5_distance 33 = .ok (.iload_n 1, 1) := by decide +kernel
theorem dX5_distance_34 : decode cX5_distance 34 = .ok (.iaload, 1) := by decide +kernel
theorem dX5_distance_35 : decode cX5_distance 35 = .ok (.istore_n 3, 1) := by decide +kernel
theorem dX5_distance_36 : decode cX5_distance 36 = .ok (.aload_n 0, 1) := by decide +kernel
theorem dX5_distance_37 : decode cX5_distance 37 = .ok (.getfield 37, 3) := by decide +kernel
theorem dX5_distance_40 : decode cX5_distance 40 = .ok (.getfield 148, 3) := by decide +kernel
theorem dX5_distance_43 : decode cX5_distance 43 = .ok (.iload_n 1, 1) := by decide +kernel
theorem dX5_distance_44 : decode cX5_distance 44 = .ok (.iload_n 2, 1) := by decide +kernel
theorem dX5_distance_45 : decode cX5_distance 45 = .ok (.iastore, 1) := by decide +kernel
theorem dX5_distance_46 : decode cX5_distance 46 = .ok (.iload_n 3, 1) := by decide +kernel
theorem dX5_distance_47 : decode cX5_distance 47 = .ok (.ireturn, 1) := by decide +kernel
theorem dX5_restless_0 : decode cX5_restless 0 = .ok (.iconst 0, 1) := by decide +kernel
theorem dX5_restless_1 : decode cX5_restless 1 = .ok (.istore_n 1, 1) := by decide +kernel
theorem dX5_restless_2 : decode cX5_restless 2 = .ok (.iconst 0, 1) := by decide +kernel
theorem dX5_restless_3 : decode cX5_restless 3 = .ok (.istore_n 2, 1) := by decide +kernel
theorem dX5_restless_4 : decode cX5_restless 4 = .ok (.iload_n 2, 1) := by decide +kernel
theorem dX5_restless_5 : decode cX5_restless 5 = .ok (.aload_n 0, 1) := by decide +kernel
theorem dX5_restless_6 : decode cX5_restless 6 = .ok (.getfield 10, 3) := by decide +kernel
theorem dX5_restless_9 : decode cX5_restless 9 = .ok (.getfield 96, 3) := by decide +kernel
theorem dX5_restless_12 : decode cX5_restless 12 = .ok (.if_icmp .ge 26, 3) := by decide +kernel
theorem dX5_restless_15 : decode cX5_restless 15 = .ok (.aload_n 0, 1) := by decide +kernel
theorem dX5_restless_16 : decode cX5_restless 16 = .ok (.getfield 37, 3) := by decide +kernel
theorem dX5_restless_19 : decode cX5_restless 19 = .ok (.iload_n 2, 1) := by decide +kernel
theorem dX5_restless_20 : decode cX5_restless 20 = .ok (.invokevirtual 151, 3) := by decide +kernel
theorem dX5_restless_23 : decode cX5_restless 23 = .ok (.ifCond .eq 9, 3) := by decide +kernel
theorem dX5_restless_26 : decode cX5_restless 26 = .ok (.iload_n 1, 1) := by decide +kernel
theorem dX5_restless_27 : decode cX5_restless 27 = .ok (.iconst 1, 1) := by decide +kernel
theorem dX5_restless_28 : decode cX5_restless 28 = .ok (.iload_n 2, 1) := by decide +kernel
theorem dX5_restless_29 : decode cX5_restless 29 = .ok (.ishl, 1) := by decide +kernel
theorem dX5_restless_30 : decode cX5_restless 30 = .ok (.ior, 1) := by decide +kernel
theorem dX5_restless_31 : decode cX5_restless 31 = .ok (.istore_n 1, 1) := by decide +kernel
theorem dX5_restless_32 : decode cX5_restless 32 = .ok (.iinc 2 1, 3) := by decide +kernel
theorem dX5_restless_35 : decode cX5_restless 35 = .ok (.goto (-31), 3) := by decide +kernel
theorem dX5_restless_38 : decode cX5_restless 38 = .ok (.iload_n 1, 1) := by decide +kernel
theorem dX5_restless_39 : decode cX5_restless 39 = .ok (.ireturn, 1) := by decide +kernel
theorem dX5_move_0 : decode cX5_move 0 = .ok (.aload_n 0, 1) := by decide +kernel
theorem dX5_move_1 : decode cX5_move 1 = .ok (.getfield 10, 3) := by decide +kernel
theorem dX5_move_4 : decode cX5_move 4 = .ok (.iload_n 1, 1) := by decide +kernel
theorem dX5_move_5 : decode cX5_move 5 = .ok (.invokevirtual 61, 3) := by decide +kernel
theorem dX5_move_8 : decode cX5_move 8 = .ok (.ifCond .ne 6, 3) := by decide +kernel
theorem dX5_move_11 : decode cX5_move 11 = .ok (.bipush (-101), 2) := by decide +kernel
theorem dX5_move_13 : decode cX5_move 13 = .ok (.ireturn, 1) := by decide +kernel
theorem dX5_move_14 : decode cX5_move 14 = .ok (.aload_n 0, 1) := by decide +kernel
theorem dX5_move_15 : decode cX5_move 15 = .ok (.getfield 37, 3) := by decide +kernel
theorem dX5_move_18 : decode cX5_move 18 = .ok (.iload_n 1, 1) := by decide +kernel
theorem dX5_move_19 : decode cX5_move 19 = .ok (.invokevirtual 151, 3) := by decide +kernel
theorem dX5_move_22 : decode cX5_move 22 = .ok (.ifCond .ne 6, 3) := by decide +kernel
theorem dX5_move_25 : decode cX5_move 25 = .ok (.bipush (-103), 2) := by decide +kernel
theorem dX5_move_27 : decode cX5_move 27 = .ok (.ireturn, 1) := by decide +kernel
theorem dX5_move_28 : decode cX5_move 28 = .ok (.aload_n 0, 1) := by decide +kernel
theorem dX5_move_29 : decode cX5_move 29 = .ok (.getfield 37, 3) := by decide +kernel
theorem dX5_move_32 : decode cX5_move 32 = .ok (.iload_n 1, 1) := by decide +kernel
theorem dX5_move_33 : decode cX5_move 33 = .ok (.invokevirtual 154, 3) := by decide +kernel
theorem dX5_move_36 : decode cX5_move 36 = .ok (.aload_n 0, 1) := by decide +kernel
theorem dX5_move_37 : decode cX5_move 37 = .ok (.getfield 37, 3) := by decide +kernel
theorem dX5_move_40 : decode cX5_move 40 = .ok (.getfield 148, 3) := by decide +kernel
theorem dX5_move_43 : decode cX5_move 43 = .ok (.iload_n 1, 1) := by decide +kernel
theorem dX5_move_44 : decode cX5_move 44 = .ok (.iaload, 1) := by decide +kernel
theorem dX5_move_45 : decode cX5_move 45 = .ok (.ireturn, 1) := by decide +kernel
theorem dX5_mend_0 : decode cX5_mend 0 = .ok (.aload_n 0, 1) := by decide +kernel
theorem dX5_mend_1 : decode cX5_mend 1 = .ok (.getfield 37, 3) := by decide +kernel
theorem dX5_mend_4 : decode cX5_mend 4 = .ok (.invokevirtual 157, 3) := by decide +kernel
theorem dX5_mend_7 : decode cX5_mend 7 = .ok (.ireturn, 1) := by decide +kernel
theorem dX5_longest_0 : decode cX5_longest 0 = .ok (.aload_n 0, 1) := by decide +kernel
theorem dX5_longest_1 : decode cX5_longest 1 = .ok (.invokevirtual 160, 3) := by decide +kernel
theorem dX5_longest_4 : decode cX5_longest 4 = .ok (.ifCond .eq 6, 3) := by decide +kernel
theorem dX5_longest_7 : decode cX5_longest 7 = .ok (.bipush (-103), 2) := by decide +kernel
theorem dX5_longest_9 : decode cX5_longest 9 = .ok (.ireturn, 1) := by decide +kernel
theorem dX5_longest_10 : decode cX5_longest 10 = .ok (.aload_n 0, 1) := by decide +kernel
theorem dX5_longest_11 : decode cX5_longest 11 = .ok (.dup, 1) := by decide +kernel
theorem dX5_longest_12 : decode cX5_longest 12 = .ok (.getfield 164, 3) := by decide +kernel
theorem dX5_longest_15 : decode cX5_longest 15 = .ok (.iconst 1, 1) := by decide +kernel
theorem dX5_longest_16 : decode cX5_longest 16 = .ok (.iadd, 1) := by decide +kernel
theorem dX5_longest_17 : decode cX5_longest 17 = .ok (.putfield 164, 3) := by decide +kernel
theorem dX5_longest_20 : decode cX5_longest 20 = .ok (.aload_n 0, 1) := by decide +kernel
theorem dX5_longest_21 : decode cX5_longest 21 = .ok (.getfield 37, 3) := by decide +kernel
theorem dX5_longest_24 : decode cX5_longest 24 = .ok (.invokevirtual 167, 3) := by decide +kernel
theorem dX5_longest_27 : decode cX5_longest 27 = .ok (.ireturn, 1) := by decide +kernel
theorem dX5_shortest_0 : decode cX5_shortest 0 = .ok (.aload_n 0, 1) := by decide +kernel
theorem dX5_shortest_1 : decode cX5_shortest 1 = .ok (.invokevirtual 160, 3) := by decide +kernel
theorem dX5_shortest_4 : decode cX5_shortest 4 = .ok (.ifCond .eq 6, 3) := by decide +kernel
theorem dX5_shortest_7 : decode cX5_shortest 7 = .ok (.bipush (-103), 2) := by decide +kernel
theorem dX5_shortest_9 : decode cX5_shortest 9 = .ok (.ireturn, 1) := by decide +kernel
theorem dX5_shortest_10 : decode cX5_shortest 10 = .ok (.aload_n 0, 1) := by decide +kernel
theorem dX5_shortest_11 : decode cX5_shortest 11 = .ok (.dup, 1) := by decide +kernel
theorem dX5_shortest_12 : decode cX5_shortest 12 = .ok (.getfield 164, 3) := by decide +kernel
theorem dX5_shortest_15 : decode cX5_shortest 15 = .ok (.iconst 1, 1) := by decide +kernel
theorem dX5_shortest_16 : decode cX5_shortest 16 = .ok (.iadd, 1) := by decide +kernel
theorem dX5_shortest_17 : decode cX5_shortest 17 = .ok (.putfield 164, 3) := by decide +kernel
theorem dX5_shortest_20 : decode cX5_shortest 20 = .ok (.aload_n 0, 1) := by decide +kernel
theorem dX5_shortest_21 : decode cX5_shortest 21 = .ok (.getfield 37, 3) := by decide +kernel
theorem dX5_shortest_24 : decode cX5_shortest 24 = .ok (.invokevirtual 170, 3) := by decide +kernel
theorem dX5_shortest_27 : decode cX5_shortest 27 = .ok (.ireturn, 1) := by decide +kernel
theorem dX5_count_0 : decode cX5_count 0 = .ok (.iload_n 1, 1) := by decide +kernel
theorem dX5_count_1 : decode cX5_count 1 = .ok (.tableswitch 81 0 5 #[39, 47, 55, 60, 71, 76], 39) := by decide +kernel
theorem dX5_count_40 : decode cX5_count 40 = .ok (.aload_n 0, 1) := by decide +kernel
theorem dX5_count_41 : decode cX5_count 41 = .ok (.getfield 10, 3) := by decide +kernel
theorem dX5_count_44 : decode cX5_count 44 = .ok (.getfield 96, 3) := by decide +kernel
theorem dX5_count_47 : decode cX5_count 47 = .ok (.ireturn, 1) := by decide +kernel
theorem dX5_count_48 : decode cX5_count 48 = .ok (.aload_n 0, 1) := by decide +kernel
theorem dX5_count_49 : decode cX5_count 49 = .ok (.getfield 10, 3) := by decide +kernel
theorem dX5_count_52 : decode cX5_count 52 = .ok (.invokevirtual 173, 3) := by decide +kernel
theorem dX5_count_55 : decode cX5_count 55 = .ok (.ireturn, 1) := by decide +kernel
theorem dX5_count_56 : decode cX5_count 56 = .ok (.aload_n 0, 1) := by decide +kernel
theorem dX5_count_57 : decode cX5_count 57 = .ok (.getfield 45, 3) := by decide +kernel
theorem dX5_count_60 : decode cX5_count 60 = .ok (.ireturn, 1) := by decide +kernel
theorem dX5_count_61 : decode cX5_count 61 = .ok (.aload_n 0, 1) := by decide +kernel
theorem dX5_count_62 : decode cX5_count 62 = .ok (.getfield 10, 3) := by decide +kernel
theorem dX5_count_65 : decode cX5_count 65 = .ok (.invokevirtual 176, 3) := by decide +kernel
theorem dX5_count_68 : decode cX5_count 68 = .ok (.invokestatic 139, 3) := by decide +kernel
theorem dX5_count_71 : decode cX5_count 71 = .ok (.ireturn, 1) := by decide +kernel
theorem dX5_count_72 : decode cX5_count 72 = .ok (.aload_n 0, 1) := by decide +kernel
theorem dX5_count_73 : decode cX5_count 73 = .ok (.getfield 111, 3) := by decide +kernel
theorem dX5_count_76 : decode cX5_count 76 = .ok (.ireturn, 1) := by decide +kernel
theorem dX5_count_77 : decode cX5_count 77 = .ok (.aload_n 0, 1) := by decide +kernel
theorem dX5_count_78 : decode cX5_count 78 = .ok (.getfield 164, 3) := by decide +kernel
theorem dX5_count_81 : decode cX5_count 81 = .ok (.ireturn, 1) := by decide +kernel
theorem dX5_count_82 : decode cX5_count 82 = .ok (.bipush (-102), 2) := by decide +kernel
theorem dX5_count_84 : decode cX5_count 84 = .ok (.ireturn, 1) := by decide +kernel
theorem dX5_digest_0 : decode cX5_digest 0 = .ok (.ldc2_w 179, 3) := by decide +kernel
theorem dX5_digest_3 : decode cX5_digest 3 = .ok (.aload_n 0, 1) := by decide +kernel
theorem dX5_digest_4 : decode cX5_digest 4 = .ok (.getfield 10, 3) := by decide +kernel
theorem dX5_digest_7 : decode cX5_digest 7 = .ok (.getfield 96, 3) := by decide +kernel
theorem dX5_digest_10 : decode cX5_digest 10 = .ok (.i2l, 1) := by decide +kernel
theorem dX5_digest_11 : decode cX5_digest 11 = .ok (.invokestatic 181, 3) := by decide +kernel
theorem dX5_digest_14 : decode cX5_digest 14 = .ok (.lstore_n 1, 1) := by decide +kernel
theorem dX5_digest_15 : decode cX5_digest 15 = .ok (.iconst 0, 1) := by decide +kernel
theorem dX5_digest_16 : decode cX5_digest 16 = .ok (.istore_n 3, 1) := by decide +kernel
theorem dX5_digest_17 : decode cX5_digest 17 = .ok (.iload_n 3, 1) := by decide +kernel
theorem dX5_digest_18 : decode cX5_digest 18 = .ok (.aload_n 0, 1) := by decide +kernel
theorem dX5_digest_19 : decode cX5_digest 19 = .ok (.getfield 10, 3) := by decide +kernel
theorem dX5_digest_22 : decode cX5_digest 22 = .ok (.getfield 96, 3) := by decide +kernel
theorem dX5_digest_25 : decode cX5_digest 25 = .ok (.if_icmp .ge 90, 3) := by decide +kernel
theorem dX5_digest_28 : decode cX5_digest 28 = .ok (.lload_n 1, 1) := by decide +kernel
theorem dX5_digest_29 : decode cX5_digest 29 = .ok (.aload_n 0, 1) := by decide +kernel
theorem dX5_digest_30 : decode cX5_digest 30 = .ok (.getfield 10, 3) := by decide +kernel
theorem dX5_digest_33 : decode cX5_digest 33 = .ok (.getfield 73, 3) := by decide +kernel
theorem dX5_digest_36 : decode cX5_digest 36 = .ok (.iload_n 3, 1) := by decide +kernel
theorem dX5_digest_37 : decode cX5_digest 37 = .ok (.iaload, 1) := by decide +kernel
theorem dX5_digest_38 : decode cX5_digest 38 = .ok (.i2l, 1) := by decide +kernel
theorem dX5_digest_39 : decode cX5_digest 39 = .ok (.invokestatic 181, 3) := by decide +kernel
theorem dX5_digest_42 : decode cX5_digest 42 = .ok (.lstore_n 1, 1) := by decide +kernel
theorem dX5_digest_43 : decode cX5_digest 43 = .ok (.lload_n 1, 1) := by decide +kernel
theorem dX5_digest_44 : decode cX5_digest 44 = .ok (.aload_n 0, 1) := by decide +kernel
theorem dX5_digest_45 : decode cX5_digest 45 = .ok (.getfield 41, 3) := by decide +kernel
theorem dX5_digest_48 : decode cX5_digest 48 = .ok (.iload_n 3, 1) := by decide +kernel
theorem dX5_digest_49 : decode cX5_digest 49 = .ok (.iaload, 1) := by decide +kernel
theorem dX5_digest_50 : decode cX5_digest 50 = .ok (.i2l, 1) := by decide +kernel
theorem dX5_digest_51 : decode cX5_digest 51 = .ok (.invokestatic 181, 3) := by decide +kernel
theorem dX5_digest_54 : decode cX5_digest 54 = .ok (.lstore_n 1, 1) := by decide +kernel
theorem dX5_digest_55 : decode cX5_digest 55 = .ok (.lload_n 1, 1) := by decide +kernel
theorem dX5_digest_56 : decode cX5_digest 56 = .ok (.aload_n 0, 1) := by decide +kernel
theorem dX5_digest_57 : decode cX5_digest 57 = .ok (.getfield 37, 3) := by decide +kernel
theorem dX5_digest_60 : decode cX5_digest 60 = .ok (.getfield 148, 3) := by decide +kernel
theorem dX5_digest_63 : decode cX5_digest 63 = .ok (.iload_n 3, 1) := by decide +kernel
theorem dX5_digest_64 : decode cX5_digest 64 = .ok (.iaload, 1) := by decide +kernel
theorem dX5_digest_65 : decode cX5_digest 65 = .ok (.i2l, 1) := by decide +kernel
theorem dX5_digest_66 : decode cX5_digest 66 = .ok (.invokestatic 181, 3) := by decide +kernel
theorem dX5_digest_69 : decode cX5_digest 69 = .ok (.lstore_n 1, 1) := by decide +kernel
theorem dX5_digest_70 : decode cX5_digest 70 = .ok (.iload_n 3, 1) := by decide +kernel
theorem dX5_digest_71 : decode cX5_digest 71 = .ok (.iconst 1, 1) := by decide +kernel
theorem dX5_digest_72 : decode cX5_digest 72 = .ok (.iadd, 1) := by decide +kernel
theorem dX5_digest_73 : decode cX5_digest 73 = .ok (.istore 4, 2) := by decide +kernel
theorem dX5_digest_75 : decode cX5_digest 75 = .ok (.iload 4, 2) := by decide +kernel
theorem dX5_digest_77 : decode cX5_digest 77 = .ok (.aload_n 0, 1) := by decide +kernel
theorem dX5_digest_78 : decode cX5_digest 78 = .ok (.getfield 10, 3) := by decide +kernel
theorem dX5_digest_81 : decode cX5_digest 81 = .ok (.getfield 96, 3) := by decide +kernel
theorem dX5_digest_84 : decode cX5_digest 84 = .ok (.if_icmp .ge 25, 3) := by decide +kernel
theorem dX5_digest_87 : decode cX5_digest 87 = .ok (.lload_n 1, 1) := by decide +kernel
theorem dX5_digest_88 : decode cX5_digest 88 = .ok (.aload_n 0, 1) := by decide +kernel
theorem dX5_digest_89 : decode cX5_digest 89 = .ok (.getfield 10, 3) := by decide +kernel
theorem dX5_digest_92 : decode cX5_digest 92 = .ok (.iload_n 3, 1) := by decide +kernel
theorem dX5_digest_93 : decode cX5_digest 93 = .ok (.iload 4, 2) := by decide +kernel
theorem dX5_digest_95 : decode cX5_digest 95 = .ok (.invokevirtual 65, 3) := by decide +kernel
theorem dX5_digest_98 : decode cX5_digest 98 = .ok (.i2l, 1) := by decide +kernel
theorem dX5_digest_99 : decode cX5_digest 99 = .ok (.invokestatic 181, 3) := by decide +kernel
theorem dX5_digest_102 : decode cX5_digest 102 = .ok (.lstore_n 1, 1) := by decide +kernel
theorem dX5_digest_103 : decode cX5_digest 103 = .ok (.iinc 4 1, 3) := by decide +kernel
theorem dX5_digest_106 : decode cX5_digest 106 = .ok (.goto (-31), 3) := by decide +kernel
theorem dX5_digest_109 : decode cX5_digest 109 = .ok (.iinc 3 1, 3) := by decide +kernel
theorem dX5_digest_112 : decode cX5_digest 112 = .ok (.goto (-95), 3) := by decide +kernel
theorem dX5_digest_115 : decode cX5_digest 115 = .ok (.lload_n 1, 1) := by decide +kernel
theorem dX5_digest_116 : decode cX5_digest 116 = .ok (.aload_n 0, 1) := by decide +kernel
theorem dX5_digest_117 : decode cX5_digest 117 = .ok (.getfield 45, 3) := by decide +kernel
theorem dX5_digest_120 : decode cX5_digest 120 = .ok (.i2l, 1) := by decide +kernel
theorem dX5_digest_121 : decode cX5_digest 121 = .ok (.invokestatic 181, 3) := by decide +kernel
theorem dX5_digest_124 : decode cX5_digest 124 = .ok (.lstore_n 1, 1) := by decide +kernel
theorem dX5_digest_125 : decode cX5_digest 125 = .ok (.lload_n 1, 1) := by decide +kernel
theorem dX5_digest_126 : decode cX5_digest 126 = .ok (.aload_n 0, 1) := by decide +kernel
theorem dX5_digest_127 : decode cX5_digest 127 = .ok (.getfield 111, 3) := by decide +kernel
theorem dX5_digest_130 : decode cX5_digest 130 = .ok (.i2l, 1) := by decide +kernel
theorem dX5_digest_131 : decode cX5_digest 131 = .ok (.invokestatic 181, 3) := by decide +kernel
theorem dX5_digest_134 : decode cX5_digest 134 = .ok (.lstore_n 1, 1) := by decide +kernel
theorem dX5_digest_135 : decode cX5_digest 135 = .ok (.lload_n 1, 1) := by decide +kernel
theorem dX5_digest_136 : decode cX5_digest 136 = .ok (.aload_n 0, 1) := by decide +kernel
theorem dX5_digest_137 : decode cX5_digest 137 = .ok (.getfield 164, 3) := by decide +kernel
theorem dX5_digest_140 : decode cX5_digest 140 = .ok (.i2l, 1) := by decide +kernel
theorem dX5_digest_141 : decode cX5_digest 141 = .ok (.invokestatic 181, 3) := by decide +kernel
theorem dX5_digest_144 : decode cX5_digest 144 = .ok (.lreturn, 1) := by decide +kernel
theorem dX5_mix_0 : decode cX5_mix 0 = .ok (.ldc2_w 185, 3) := by decide +kernel
theorem dX5_mix_3 : decode cX5_mix 3 = .ok (.lload_n 0, 1) := by decide +kernel
theorem dX5_mix_4 : decode cX5_mix 4 = .ok (.lmul, 1) := by decide +kernel
theorem dX5_mix_5 : decode cX5_mix 5 = .ok (.lload_n 2, 1) := by decide +kernel
theorem dX5_mix_6 : decode cX5_mix 6 = .ok (.ladd, 1) := by decide +kernel
theorem dX5_mix_7 : decode cX5_mix 7 = .ok (.lreturn, 1) := by decide +kernel
theorem dX5_tryRefusal_0 : decode cX5_tryRefusal 0 = .ok (.iload_n 1, 1) := by decide +kernel
theorem dX5_tryRefusal_1 : decode cX5_tryRefusal 1 = .ok (.iconst 1, 1) := by decide +kernel
theorem dX5_tryRefusal_2 : decode cX5_tryRefusal 2 = .ok (.if_icmp .lt 9, 3) := by decide +kernel
theorem dX5_tryRefusal_5 : decode cX5_tryRefusal 5 = .ok (.iload_n 1, 1) := by decide +kernel
theorem dX5_tryRefusal_6 : decode cX5_tryRefusal 6 = .ok (.bipush 64, 2) := by decide +kernel
theorem dX5_tryRefusal_8 : decode cX5_tryRefusal 8 = .ok (.if_icmp .le 6, 3) := by decide +kernel
theorem dX5_tryRefusal_11 : decode cX5_tryRefusal 11 = .ok (.bipush (-102), 2) := by decide +kernel
theorem dX5_tryRefusal_13 : decode cX5_tryRefusal 13 = .ok (.ireturn, 1) := by decide +kernel
theorem dX5_tryRefusal_14 : decode cX5_tryRefusal 14 = .ok (.aload_n 0, 1) := by decide +kernel
theorem dX5_tryRefusal_15 : decode cX5_tryRefusal 15 = .ok (.getfield 111, 3) := by decide +kernel
theorem dX5_tryRefusal_18 : decode cX5_tryRefusal 18 = .ok (.bipush 30, 2) := by decide +kernel
theorem dX5_tryRefusal_20 : decode cX5_tryRefusal 20 = .ok (.if_icmp .ge 22, 3) := by decide +kernel
theorem dX5_tryRefusal_23 : decode cX5_tryRefusal 23 = .ok (.iload_n 1, 1) := by decide +kernel
theorem dX5_tryRefusal_24 : decode cX5_tryRefusal 24 = .ok (.i2l, 1) := by decide +kernel
theorem dX5_tryRefusal_25 : decode cX5_tryRefusal 25 = .ok (.aload_n 0, 1) := by decide +kernel
theorem dX5_tryRefusal_26 : decode cX5_tryRefusal 26 = .ok (.getfield 10, 3) := by decide +kernel
theorem dX5_tryRefusal_29 : decode cX5_tryRefusal 29 = .ok (.getfield 96, 3) := by decide +kernel
theorem dX5_tryRefusal_32 : decode cX5_tryRefusal 32 = .ok (.invokestatic 144, 3) := by decide +kernel
theorem dX5_tryRefusal_35 : decode cX5_tryRefusal 35 = .ok (.ldc2_w 187, 3) := by decide +kernel
theorem dX5_tryRefusal_38 : decode cX5_tryRefusal 38 = .ok (.lcmp, 1) := by decide +kernel
theorem dX5_tryRefusal_39 : decode cX5_tryRefusal 39 = .ok (.ifCond .le 6, 3) := by decide +kernel
theorem dX5_tryRefusal_42 : decode cX5_tryRefusal 42 = .ok (.bipush (-103), 2) := by decide +kernel
theorem dX5_tryRefusal_44 : decode cX5_tryRefusal 44 = .ok (.ireturn, 1) := by decide +kernel
theorem dX5_tryRefusal_45 : decode cX5_tryRefusal 45 = .ok (.iconst 0, 1) := by decide +kernel
theorem dX5_tryRefusal_46 : decode cX5_tryRefusal 46 = .ok (.ireturn, 1) := by decide +kernel
theorem dX5_waysRefused_0 : decode cX5_waysRefused 0 = .ok (.aload_n 0, 1) := by decide +kernel
theorem dX5_waysRefused_1 : decode cX5_waysRefused 1 = .ok (.getfield 10, 3) := by decide +kernel
theorem dX5_waysRefused_4 : decode cX5_waysRefused 4 = .ok (.getfield 96, 3) := by decide +kernel
theorem dX5_waysRefused_7 : decode cX5_waysRefused 7 = .ok (.iconst 5, 1) := by decide +kernel
theorem dX5_waysRefused_8 : decode cX5_waysRefused 8 = .ok (.if_icmp .gt 12, 3) := by decide +kernel
theorem dX5_waysRefused_11 : decode cX5_waysRefused 11 = .ok (.aload_n 0, 1) := by decide +kernel
theorem dX5_waysRefused_12 : decode cX5_waysRefused 12 = .ok (.getfield 164, 3) := by decide +kernel
theorem dX5_waysRefused_15 : decode cX5_waysRefused 15 = .ok (.bipush 20, 2) := by decide +kernel
theorem dX5_waysRefused_17 : decode cX5_waysRefused 17 = .ok (.if_icmp .lt 7, 3) := by decide +kernel
theorem dX5_waysRefused_20 : decode cX5_waysRefused 20 = .ok (.iconst 1, 1) := by decide +kernel
theorem dX5_waysRefused_21 : decode cX5_waysRefused 21 = .ok (.goto 4, 3) := by decide +kernel
theorem dX5_waysRefused_24 : decode cX5_waysRefused 24 = .ok (.iconst 0, 1) := by decide +kernel
theorem dX5_waysRefused_25 : decode cX5_waysRefused 25 = .ok (.ireturn, 1) := by decide +kernel
theorem dX5_power_0 : decode cX5_power 0 = .ok (.lconst 1, 1) := by decide +kernel
theorem dX5_power_1 : decode cX5_power 1 = .ok (.lstore_n 3, 1) := by decide +kernel
theorem dX5_power_2 : decode cX5_power 2 = .ok (.iconst 0, 1) := by decide +kernel
theorem dX5_power_3 : decode cX5_power 3 = .ok (.istore 5, 2) := by decide +kernel
theorem dX5_power_5 : decode cX5_power 5 = .ok (.iload 5, 2) := by decide +kernel
theorem dX5_power_7 : decode cX5_power 7 = .ok (.iload_n 2, 1) := by decide +kernel
theorem dX5_power_8 : decode cX5_power 8 = .ok (.if_icmp .ge 13, 3) := by decide +kernel
theorem dX5_power_11 : decode cX5_power 11 = .ok (.lload_n 3, 1) := by decide +kernel
theorem dX5_power_12 : decode cX5_power 12 = .ok (.lload_n 0, 1) := by decide +kernel
theorem dX5_power_13 : decode cX5_power 13 = .ok (.lmul, 1) := by decide +kernel
theorem dX5_power_14 : decode cX5_power 14 = .ok (.lstore_n 3, 1) := by decide +kernel
theorem dX5_power_15 : decode cX5_power 15 = .ok (.iinc 5 1, 3) := by decide +kernel
theorem dX5_power_18 : decode cX5_power 18 = .ok (.goto (-13), 3) := by decide +kernel
theorem dX5_power_21 : decode cX5_power 21 = .ok (.lload_n 3, 1) := by decide +kernel
theorem dX5_power_22 : decode cX5_power 22 = .ok (.lreturn, 1) := by decide +kernel
theorem dX5_lowestBelow_0 : decode cX5_lowestBelow 0 = .ok (.iconst 1, 1) := by decide +kernel
theorem dX5_lowestBelow_1 : decode cX5_lowestBelow 1 = .ok (.istore_n 1, 1) := by decide +kernel
theorem dX5_lowestBelow_2 : decode cX5_lowestBelow 2 = .ok (.iload_n 1, 1) := by decide +kernel
theorem dX5_lowestBelow_3 : decode cX5_lowestBelow 3 = .ok (.bipush 10, 2) := by decide +kernel
theorem dX5_lowestBelow_5 : decode cX5_lowestBelow 5 = .ok (.if_icmp .ge 20, 3) := by decide +kernel
theorem dX5_lowestBelow_8 : decode cX5_lowestBelow 8 = .ok (.iload_n 0, 1) := by decide +kernel
theorem dX5_lowestBelow_9 : decode cX5_lowestBelow 9 = .ok (.iload_n 1, 1) := by decide +kernel
theorem dX5_lowestBelow_10 : decode cX5_lowestBelow 10 = .ok (.imul, 1) := by decide +kernel
theorem dX5_lowestBelow_11 : decode cX5_lowestBelow 11 = .ok (.bipush 10, 2) := by decide +kernel
theorem dX5_lowestBelow_13 : decode cX5_lowestBelow 13 = .ok (.irem, 1) := by decide +kernel
theorem dX5_lowestBelow_14 : decode cX5_lowestBelow 14 = .ok (.ifCond .ne 5, 3) := by decide +kernel
theorem dX5_lowestBelow_17 : decode cX5_lowestBelow 17 = .ok (.iload_n 1, 1) := by decide +kernel
theorem dX5_lowestBelow_18 : decode cX5_lowestBelow 18 = .ok (.ireturn, 1) := by decide +kernel
theorem dX5_lowestBelow_19 : decode cX5_lowestBelow 19 = .ok (.iinc 1 1, 3) := by decide +kernel
theorem dX5_lowestBelow_22 : decode cX5_lowestBelow 22 = .ok (.goto (-20), 3) := by decide +kernel
theorem dX5_lowestBelow_25 : decode cX5_lowestBelow 25 = .ok (.bipush 10, 2) := by decide +kernel
theorem dX5_lowestBelow_27 : decode cX5_lowestBelow 27 = .ok (.ireturn, 1) := by decide +kernel
theorem dX6_init_0 : decode cX6_init 0 = .ok (.aload_n 0, 1) := by decide +kernel
theorem dX6_init_1 : decode cX6_init 1 = .ok (.invokespecial 1, 3) := by decide +kernel
theorem dX6_init_4 : decode cX6_init 4 = .ok (.aload_n 0, 1) := by decide +kernel
theorem dX6_init_5 : decode cX6_init 5 = .ok (.bipush 8, 2) := by decide +kernel
theorem dX6_init_7 : decode cX6_init 7 = .ok (.newarray .int, 2) := by decide +kernel
theorem dX6_init_9 : decode cX6_init 9 = .ok (.putfield 7, 3) := by decide +kernel
theorem dX6_init_12 : decode cX6_init 12 = .ok (.aload_n 0, 1) := by decide +kernel
theorem dX6_init_13 : decode cX6_init 13 = .ok (.bipush 8, 2) := by decide +kernel
theorem dX6_init_15 : decode cX6_init 15 = .ok (.newarray .int, 2) := by decide +kernel
theorem dX6_init_17 : decode cX6_init 17 = .ok (.putfield 13, 3) := by decide +kernel
theorem dX6_init_20 : decode cX6_init 20 = .ok (.aload_n 0, 1) := by decide +kernel
theorem dX6_init_21 : decode cX6_init 21 = .ok (.bipush 8, 2) := by decide +kernel
theorem dX6_init_23 : decode cX6_init 23 = .ok (.newarray .int, 2) := by decide +kernel
theorem dX6_init_25 : decode cX6_init 25 = .ok (.putfield 16, 3) := by decide +kernel
theorem dX6_init_28 : decode cX6_init 28 = .ok (.aload_n 0, 1) := by decide +kernel
theorem dX6_init_29 : decode cX6_init 29 = .ok (.bipush 8, 2) := by decide +kernel
theorem dX6_init_31 : decode cX6_init 31 = .ok (.newarray .int, 2) := by decide +kernel
theorem dX6_init_33 : decode cX6_init 33 = .ok (.putfield 19, 3) := by decide +kernel
theorem dX6_init_36 : decode cX6_init 36 = .ok (.aload_n 0, 1) := by decide +kernel
theorem dX6_init_37 : decode cX6_init 37 = .ok (.bipush 8, 2) := by decide +kernel
theorem dX6_init_39 : decode cX6_init 39 = .ok (.newarray .int, 2) := by decide +kernel
theorem dX6_init_41 : decode cX6_init 41 = .ok (.putfield 22, 3) := by decide +kernel
theorem dX6_init_44 : decode cX6_init 44 = .ok (.aload_n 0, 1) := by decide +kernel
theorem dX6_init_45 : decode cX6_init 45 = .ok (.bipush 8, 2) := by decide +kernel
theorem dX6_init_47 : decode cX6_init 47 = .ok (.newarray .int, 2) := by decide +kernel
theorem dX6_init_49 : decode cX6_init 49 = .ok (.putfield 25, 3) := by decide +kernel
theorem dX6_init_52 : decode cX6_init 52 = .ok (.aload_n 0, 1) := by decide +kernel
theorem dX6_init_53 : decode cX6_init 53 = .ok (.bipush 8, 2) := by decide +kernel
theorem dX6_init_55 : decode cX6_init 55 = .ok (.newarray .int, 2) := by decide +kernel
theorem dX6_init_57 : decode cX6_init 57 = .ok (.putfield 28, 3) := by decide +kernel
theorem dX6_init_60 : decode cX6_init 60 = .ok (.aload_n 0, 1) := by decide +kernel
theorem dX6_init_61 : decode cX6_init 61 = .ok (.sipush 3125, 3) := by decide +kernel
theorem dX6_init_64 : decode cX6_init 64 = .ok (.newarray .int, 2) := by decide +kernel
theorem dX6_init_66 : decode cX6_init 66 = .ok (.putfield 31, 3) := by decide +kernel
theorem dX6_init_69 : decode cX6_init 69 = .ok (.aload_n 0, 1) := by decide +kernel
theorem dX6_init_70 : decode cX6_init 70 = .ok (.iconst 1, 1) := by decide +kernel
theorem dX6_init_71 : decode cX6_init 71 = .ok (.putfield 34, 3) := by decide +kernel
theorem dX6_init_74 : decode cX6_init 74 = .ok (.return_, 1) := by decide +kernel
theorem dX6_in_0 : decode cX6_in 0 = .ok (.lload_n 0, 1) := by decide +kernel
theorem dX6_in_1 : decode cX6_in 1 = .ok (.lload_n 2, 1) := by decide +kernel
theorem dX6_in_2 : decode cX6_in 2 = .ok (.lcmp, 1) := by decide +kernel
theorem dX6_in_3 : decode cX6_in 3 = .ok (.ifCond .lt 14, 3) := by decide +kernel
theorem dX6_in_6 : decode cX6_in 6 = .ok (.lload_n 0, 1) := by decide +kernel
theorem dX6_in_7 : decode cX6_in 7 = .ok (.lload 4, 2) := by decide +kernel
theorem dX6_in_9 : decode cX6_in 9 = .ok (.lcmp, 1) := by decide +kernel
theorem dX6_in_10 : decode cX6_in 10 = .ok (.ifCond .gt 7, 3) := by decide +kernel
theorem dX6_in_13 : decode cX6_in 13 = .ok (.iconst 1, 1) := by decide +kernel
theorem dX6_in_14 : decode cX6_in 14 = .ok (.goto 4, 3) := by decide +kernel
theorem dX6_in_17 : decode cX6_in 17 = .ok (.iconst 0, 1) := by decide +kernel
theorem dX6_in_18 : decode cX6_in 18 = .ok (.ireturn, 1) := by decide +kernel
theorem dX6_isPost_0 : decode cX6_isPost 0 = .ok (.iload_n 1, 1) := by decide +kernel
theorem dX6_isPost_1 : decode cX6_isPost 1 = .ok (.i2l, 1) := by decide +kernel
theorem dX6_isPost_2 : decode cX6_isPost 2 = .ok (.lconst 0, 1) := by decide +kernel
theorem dX6_isPost_3 : decode cX6_isPost 3 = .ok (.aload_n 0, 1) := by decide +kernel
theorem dX6_isPost_4 : decode cX6_isPost 4 = .ok (.getfield 34, 3) := by decide +kernel
theorem dX6_isPost_7 : decode cX6_isPost 7 = .ok (.iconst 1, 1) := by decide +kernel
theorem dX6_isPost_8 : decode cX6_isPost 8 = .ok (.isub, 1) := by decide +kernel
theorem dX6_isPost_9 : decode cX6_isPost 9 = .ok (.i2l, 1) := by decide +kernel
theorem dX6_isPost_10 : decode cX6_isPost 10 = .ok (.invokestatic 38, 3) := by decide +kernel
theorem dX6_isPost_13 : decode cX6_isPost 13 = .ok (.ireturn, 1) := by decide +kernel
theorem dX6_posts_0 : decode cX6_posts 0 = .ok (.iload_n 1, 1) := by decide +kernel
theorem dX6_posts_1 : decode cX6_posts 1 = .ok (.i2l, 1) := by decide +kernel
theorem dX6_posts_2 : decode cX6_posts 2 = .ok (.lconst 1, 1) := by decide +kernel
theorem dX6_posts_3 : decode cX6_posts 3 = .ok (.ldc2_w 42, 3) := by decide +kernel
theorem dX6_posts_6 : decode cX6_posts 6 = .ok (.invokestatic 38, 3) := by decide +kernel
theorem dX6_posts_9 : decode cX6_posts 9 = .ok (.ifCond .ne 6, 3) := by decide +kernel
theorem dX6_posts_12 : decode cX6_posts 12 = .ok (.bipush (-102), 2) := by decide +kernel
theorem dX6_posts_14 : decode cX6_posts 14 = .ok (.ireturn, 1) := by decide +kernel
theorem dX6_posts_15 : decode cX6_posts 15 = .ok (.aload_n 0, 1) := by decide +kernel
theorem dX6_posts_16 : decode cX6_posts 16 = .ok (.iload_n 1, 1) := by decide +kernel
theorem dX6_posts_17 : decode cX6_posts 17 = .ok (.putfield 34, 3) := by decide +kernel
theorem dX6_posts_20 : decode cX6_posts 20 = .ok (.iconst 0, 1) := by decide +kernel
theorem dX6_posts_21 : decode cX6_posts 21 = .ok (.istore_n 2, 1) := by decide +kernel
theorem dX6_posts_22 : decode cX6_posts 22 = .ok (.iload_n 2, 1) := by decide +kernel
theorem dX6_posts_23 : decode cX6_posts 23 = .ok (.bipush 8, 2) := by decide +kernel
theorem dX6_posts_25 : decode cX6_posts 25 = .ok (.if_icmp .ge 37, 3) := by decide +kernel
theorem dX6_posts_28 : decode cX6_posts 28 = .ok (.aload_n 0, 1) := by decide +kernel
theorem dX6_posts_29 : decode cX6_posts 29 = .ok (.getfield 7, 3) := by decide +kernel
theorem dX6_posts_32 : decode cX6_posts 32 = .ok (.iload_n 2, 1) := by decide +kernel
theorem dX6_posts_33 : decode cX6_posts 33 = .ok (.iconst 0, 1) := by decide +kernel
theorem dX6_posts_34 : decode cX6_posts 34 = .ok (.iastore, 1) := by decide +kernel
theorem dX6_posts_35 : decode cX6_posts 35 = .ok (.aload_n 0, 1) := by decide +kernel
theorem dX6_posts_36 : decode cX6_posts 36 = .ok (.getfield 13, 3) := by decide +kernel
theorem dX6_posts_39 : decode cX6_posts 39 = .ok (.iload_n 2, 1) := by decide +kernel
theorem dX6_posts_40 : decode cX6_posts 40 = .ok (.iconst 0, 1) := by decide +kernel
theorem dX6_posts_41 : decode cX6_posts 41 = .ok (.iastore, 1) := by decide +kernel
theorem dX6_posts_42 : decode cX6_posts 42 = .ok (.aload_n 0, 1) := by decide +kernel
theorem dX6_posts_43 : decode cX6_posts 43 = .ok (.getfield 16, 3) := by decide +kernel
theorem dX6_posts_46 : decode cX6_posts 46 = .ok (.iload_n 2, 1) := by decide +kernel
theorem dX6_posts_47 : decode cX6_posts 47 = .ok (.iconst 0, 1) := by decide +kernel
theorem dX6_posts_48 : decode cX6_posts 48 = .ok (.iastore, 1) := by decide +kernel
theorem dX6_posts_49 : decode cX6_posts 49 = .ok (.aload_n 0, 1) := by decide +kernel
theorem dX6_posts_50 : decode cX6_posts 50 = .ok (.getfield 19, 3) := by decide +kernel
theorem dX6_posts_53 : decode cX6_posts 53 = .ok (.iload_n 2, 1) := by decide +kernel
theorem dX6_posts_54 : decode cX6_posts 54 = .ok (.iconst 0, 1) := by decide +kernel
theorem dX6_posts_55 : decode cX6_posts 55 = .ok (.iastore, 1) := by decide +kernel
theorem dX6_posts_56 : decode cX6_posts 56 = .ok (.iinc 2 1, 3) := by decide +kernel
theorem dX6_posts_59 : decode cX6_posts 59 = .ok (.goto (-37), 3) := by decide +kernel
theorem dX6_posts_62 : decode cX6_posts 62 = .ok (.aload_n 0, 1) := by decide +kernel
theorem dX6_posts_63 : decode cX6_posts 63 = .ok (.getfield 34, 3) := by decide +kernel
theorem dX6_posts_66 : decode cX6_posts 66 = .ok (.ireturn, 1) := by decide +kernel
theorem dX6_areNear_0 : decode cX6_areNear 0 = .ok (.aload_n 0, 1) := by decide +kernel
theorem dX6_areNear_1 : decode cX6_areNear 1 = .ok (.getfield 7, 3) := by decide +kernel
theorem dX6_areNear_4 : decode cX6_areNear 4 = .ok (.iload_n 1, 1) := by decide +kernel
theorem dX6_areNear_5 : decode cX6_areNear 5 = .ok (.iaload, 1) := by decide +kernel
theorem dX6_areNear_6 : decode cX6_areNear 6 = .ok (.iload_n 2, 1) := by decide +kernel
theorem dX6_areNear_7 : decode cX6_areNear 7 = .ok (.ishr, 1) := by decide +kernel
theorem dX6_areNear_8 : decode cX6_areNear 8 = .ok (.iconst 1, 1) := by decide +kernel
theorem dX6_areNear_9 : decode cX6_areNear 9 = .ok (.iand, 1) := by decide +kernel
theorem dX6_areNear_10 : decode cX6_areNear 10 = .ok (.iconst 1, 1) := by decide +kernel
theorem dX6_areNear_11 : decode cX6_areNear 11 = .ok (.if_icmp .ne 7, 3) := by decide +kernel
theorem dX6_areNear_14 : decode cX6_areNear 14 = .ok (.iconst 1, 1) := by decide +kernel
theorem dX6_areNear_15 : decode cX6_areNear 15 = .ok (.goto 4, 3) := by decide +kernel
theorem dX6_areNear_18 : decode cX6_areNear 18 = .ok (.iconst 0, 1) := by decide +kernel
theorem dX6_areNear_19 : decode cX6_areNear 19 = .ok (.ireturn, 1) := by decide +kernel
theorem dX6_line_0 : decode cX6_line 0 = .ok (.aload_n 0, 1) := by decide +kernel
theorem dX6_line_1 : decode cX6_line 1 = .ok (.iload_n 1, 1) := by decide +kernel
theorem dX6_line_2 : decode cX6_line 2 = .ok (.invokevirtual 44, 3) := by decide +kernel
theorem dX6_line_5 : decode cX6_line 5 = .ok (.ifCond .eq 11, 3) := by decide +kernel
theorem dX6_line_8 : decode cX6_line 8 = .ok (.aload_n 0, 1) := by decide +kernel
theorem dX6_line_9 : decode cX6_line 9 = .ok (.iload_n 2, 1) := by decide +kernel
theorem dX6_line_10 : decode cX6_line 10 = .ok (.invokevirtual 44, 3) := by decide +kernel
theorem dX6_line_13 : decode cX6_line 13 = .ok (.ifCond .ne 6, 3) := by decide +kernel
theorem dX6_line_16 : decode cX6_line 16 = .ok (.bipush (-101), 2) := by decide +kernel
theorem dX6_line_18 : decode cX6_line 18 = .ok (.ireturn, 1) := by decide +kernel
theorem dX6_line_19 : decode cX6_line 19 = .ok (.iload_n 1, 1) := by decide +kernel
theorem dX6_line_20 : decode cX6_line 20 = .ok (.iload_n 2, 1) := by decide +kernel
theorem dX6_line_21 : decode cX6_line 21 = .ok (.if_icmp .ne 6, 3) := by decide +kernel
theorem dX6_line_24 : decode cX6_line 24 = .ok (.bipush (-102), 2) := by decide +kernel
theorem dX6_line_26 : decode cX6_line 26 = .ok (.ireturn, 1) := by decide +kernel
theorem dX6_line_27 : decode cX6_line 27 = .ok (.aload_n 0, 1) := by decide +kernel
theorem dX6_line_28 : decode cX6_line 28 = .ok (.getfield 7, 3) := by decide +kernel
theorem dX6_line_31 : decode cX6_line 31 = .ok (.iload_n 1, 1) := by decide +kernel
theorem dX6_line_32 : decode cX6_line 32 = .ok (.iaload, 1) := by decide +kernel
theorem dX6_line_33 : decode cX6_line 33 = .ok (.iload_n 2, 1) := by decide +kernel
theorem dX6_line_34 : decode cX6_line 34 = .ok (.ishr, 1) := by decide +kernel
theorem dX6_line_35 : decode cX6_line 35 = .ok (.iconst 1, 1) := by decide +kernel
theorem dX6_line_36 : decode cX6_line 36 = .ok (.iand, 1) := by decide +kernel
theorem dX6_line_37 : decode cX6_line 37 = .ok (.istore 4, 2) := by decide +kernel
theorem dX6_line_39 : decode cX6_line 39 = .ok (.aload_n 0, 1) := by decide +kernel
theorem dX6_line_40 : decode cX6_line 40 = .ok (.getfield 7, 3) := by decide +kernel
theorem dX6_line_43 : decode cX6_line 43 = .ok (.iload_n 1, 1) := by decide +kernel
theorem dX6_line_44 : decode cX6_line 44 = .ok (.iload_n 3, 1) := by decide +kernel
theorem dX6_line_45 : decode cX6_line 45 = .ok (.ifCond .eq 16, 3) := by decide +kernel
theorem dX6_line_48 : decode cX6_line 48 = .ok (.aload_n 0, 1) := by decide +kernel
theorem dX6_line_49 : decode cX6_line 49 = .ok (.getfield 7, 3) := by decide +kernel
theorem dX6_line_52 : decode cX6_line 52 = .ok (.iload_n 1, 1) := by decide +kernel
theorem dX6_line_53 : decode cX6_line 53 = .ok (.iaload, 1) := by decide +kernel
theorem dX6_line_54 : decode cX6_line 54 = .ok (.iconst 1, 1) := by decide +kernel
theorem dX6_line_55 : decode cX6_line 55 = .ok (.iload_n 2, 1) := by decide +kernel
theorem dX6_line_56 : decode cX6_line 56 = .ok (.ishl, 1) := by decide +kernel
theorem dX6_line_57 : decode cX6_line 57 = .ok (.ior, 1) := by decide +kernel
theorem dX6_line_58 : decode cX6_line 58 = .ok (.goto 15, 3) := by decide +kernel
theorem dX6_line_61 : decode cX6_line 61 = .ok (.aload_n 0, 1) := by decide +kernel
theorem dX6_line_62 : decode cX6_line 62 = .ok (.getfield 7, 3) := by decide +kernel
theorem dX6_line_65 : decode cX6_line 65 = .ok (.iload_n 1, 1) := by decide +kernel
theorem dX6_line_66 : decode cX6_line 66 = .ok (.iaload, 1) := by decide +kernel
theorem dX6_line_67 : decode cX6_line 67 = .ok (.iconst 1, 1) := by decide +kernel
theorem dX6_line_68 : decode cX6_line 68 = .ok (.iload_n 2, 1) := by decide +kernel
theorem dX6_line_69 : decode cX6_line 69 = .ok (.ishl, 1) := by decide +kernel
theorem dX6_line_70 : decode cX6_line 70 = .ok (.iconst (-1), 1) := by decide +kernel
theorem dX6_line_71 : decode cX6_line 71 = .ok (.ixor, 1) := by decide +kernel
theorem dX6_line_72 : decode cX6_line 72 = .ok (.iand, 1) := by decide +kernel
theorem dX6_line_73 : decode cX6_line 73 = .ok (.iastore, 1) := by decide +kernel
theorem dX6_line_74 : decode cX6_line 74 = .ok (.aload_n 0, 1) := by decide +kernel
theorem dX6_line_75 : decode cX6_line 75 = .ok (.getfield 7, 3) := by decide +kernel
theorem dX6_line_78 : decode cX6_line 78 = .ok (.iload_n 2, 1) := by decide +kernel
theorem dX6_line_79 : decode cX6_line 79 = .ok (.iload_n 3, 1) := by decide +kernel
theorem dX6_line_80 : decode cX6_line 80 = .ok (.ifCond .eq 16, 3) := by decide +kernel
theorem dX6_line_83 : decode cX6_line 83 = .ok (.aload_n 0, 1) := by decide +kernel
theorem dX6_line_84 : decode cX6_line 84 = .ok (.getfield 7, 3) := by decide +kernel
theorem dX6_line_87 : decode cX6_line 87 = .ok (.iload_n 2, 1) := by decide +kernel
theorem dX6_line_88 : decode cX6_line 88 = .ok (.iaload, 1) := by decide +kernel
theorem dX6_line_89 : decode cX6_line 89 = .ok (.iconst 1, 1) := by decide +kernel
theorem dX6_line_90 : decode cX6_line 90 = .ok (.iload_n 1, 1) := by decide +kernel
theorem dX6_line_91 : decode cX6_line 91 = .ok (.ishl, 1) := by decide +kernel
theorem dX6_line_92 : decode cX6_line 92 = .ok (.ior, 1) := by decide +kernel
theorem dX6_line_93 : decode cX6_line 93 = .ok (.goto 15, 3) := by decide +kernel
theorem dX6_line_96 : decode cX6_line 96 = .ok (.aload_n 0, 1) := by decide +kernel
theorem dX6_line_97 : decode cX6_line 97 = .ok (.getfield 7, 3) := by decide +kernel
theorem dX6_line_100 : decode cX6_line 100 = .ok (.iload_n 2, 1) := by decide +kernel
theorem dX6_line_101 : decode cX6_line 101 = .ok (.iaload, 1) := by decide +kernel
theorem dX6_line_102 : decode cX6_line 102 = .ok (.iconst 1, 1) := by decide +kernel
theorem dX6_line_103 : decode cX6_line 103 = .ok (.iload_n 1, 1) := by decide +kernel
theorem dX6_line_104 : decode cX6_line 104 = .ok (.ishl, 1) := by decide +kernel
theorem dX6_line_105 : decode cX6_line 105 = .ok (.iconst (-1), 1) := by decide +kernel
theorem dX6_line_106 : decode cX6_line 106 = .ok (.ixor, 1) := by decide +kernel
theorem dX6_line_107 : decode cX6_line 107 = .ok (.iand, 1) := by decide +kernel
theorem dX6_line_108 : decode cX6_line 108 = .ok (.iastore, 1) := by decide +kernel
theorem dX6_line_109 : decode cX6_line 109 = .ok (.iload 4, 2) := by decide +kernel
theorem dX6_line_111 : decode cX6_line 111 = .ok (.ireturn, 1) := by decide +kernel
theorem dX6_mark_0 : decode cX6_mark 0 = .ok (.aload_n 0, 1) := by decide +kernel
theorem dX6_mark_1 : decode cX6_mark 1 = .ok (.iload_n 1, 1) := by decide +kernel
theorem dX6_mark_2 : decode cX6_mark 2 = .ok (.invokevirtual 44, 3) := by decide +kernel
theorem dX6_mark_5 : decode cX6_mark 5 = .ok (.ifCond .ne 6, 3) := by decide +kernel
theorem dX6_mark_8 : decode cX6_mark 8 = .ok (.bipush (-101), 2) := by decide +kernel
theorem dX6_mark_10 : decode cX6_mark 10 = .ok (.ireturn, 1) := by decide +kernel
theorem dX6_mark_11 : decode cX6_mark 11 = .ok (.iload_n 2, 1) := by decide +kernel
theorem dX6_mark_12 : decode cX6_mark 12 = .ok (.i2l, 1) := by decide +kernel
theorem dX6_mark_13 : decode cX6_mark 13 = .ok (.lconst 0, 1) := by decide +kernel
theorem dX6_mark_14 : decode cX6_mark 14 = .ok (.ldc2_w 48, 3) := by decide +kernel
theorem dX6_mark_17 : decode cX6_mark 17 = .ok (.invokestatic 38, 3) := by decide +kernel
theorem dX6_mark_20 : decode cX6_mark 20 = .ok (.ifCond .ne 6, 3) := by decide +kernel
theorem dX6_mark_23 : decode cX6_mark 23 = .ok (.bipush (-102), 2) := by decide +kernel
theorem dX6_mark_25 : decode cX6_mark 25 = .ok (.ireturn, 1) := by decide +kernel
theorem dX6_mark_26 : decode cX6_mark 26 = .ok (.aload_n 0, 1) := by decide +kernel
theorem dX6_mark_27 : decode cX6_mark 27 = .ok (.getfield 13, 3) := by decide +kernel
theorem dX6_mark_30 : decode cX6_mark 30 = .ok (.iload_n 1, 1) := by decide +kernel
theorem dX6_mark_31 : decode cX6_mark 31 = .ok (.iaload, 1) := by decide +kernel
theorem dX6_mark_32 : decode cX6_mark 32 = .ok (.istore_n 3, 1) := by decide +kernel
theorem dX6_mark_33 : decode cX6_mark 33 = .ok (.aload_n 0, 1) := by decide +kernel
theorem dX6_mark_34 : decode cX6_mark 34 = .ok (.getfield 13, 3) := by decide +kernel
theorem dX6_mark_37 : decode cX6_mark 37 = .ok (.iload_n 1, 1) := by decide +kernel
theorem dX6_mark_38 : decode cX6_mark 38 = .ok (.iload_n 2, 1) := by decide +kernel
theorem dX6_mark_39 : decode cX6_mark 39 = .ok (.iastore, 1) := by decide +kernel
theorem dX6_mark_40 : decode cX6_mark 40 = .ok (.iload_n 3, 1) := by decide +kernel
theorem dX6_mark_41 : decode cX6_mark 41 = .ok (.ireturn, 1) := by decide +kernel
theorem dX6_scheme_0 : decode cX6_scheme 0 = .ok (.iload_n 1, 1) := by decide +kernel
theorem dX6_scheme_1 : decode cX6_scheme 1 = .ok (.i2l, 1) := by decide +kernel
theorem dX6_scheme_2 : decode cX6_scheme 2 = .ok (.lconst 0, 1) := by decide +kernel
theorem dX6_scheme_3 : decode cX6_scheme 3 = .ok (.ldc2_w 50, 3) := by decide +kernel
theorem dX6_scheme_6 : decode cX6_scheme 6 = .ok (.invokestatic 38, 3) := by decide +kernel
theorem dX6_scheme_9 : decode cX6_scheme 9 = .ok (.ifCond .ne 6, 3) := by decide +kernel
theorem dX6_scheme_12 : decode cX6_scheme 12 = .ok (.bipush (-102), 2) := by decide +kernel
theorem dX6_scheme_14 : decode cX6_scheme 14 = .ok (.ireturn, 1) := by decide +kernel
theorem dX6_scheme_15 : decode cX6_scheme 15 = .ok (.aload_n 0, 1) := by decide +kernel
theorem dX6_scheme_16 : decode cX6_scheme 16 = .ok (.getfield 52, 3) := by decide +kernel
theorem dX6_scheme_19 : decode cX6_scheme 19 = .ok (.istore_n 2, 1) := by decide +kernel
theorem dX6_scheme_20 : decode cX6_scheme 20 = .ok (.aload_n 0, 1) := by decide +kernel
theorem dX6_scheme_21 : decode cX6_scheme 21 = .ok (.iload_n 1, 1) := by decide +kernel
theorem dX6_scheme_22 : decode cX6_scheme 22 = .ok (.putfield 52, 3) := by decide +kernel
theorem dX6_scheme_25 : decode cX6_scheme 25 = .ok (.iload_n 2, 1) := by decide +kernel
theorem dX6_scheme_26 : decode cX6_scheme 26 = .ok (.ireturn, 1) := by decide +kernel
theorem dX6_spread_0 : decode cX6_spread 0 = .ok (.iconst 0, 1) := by decide +kernel
theorem dX6_spread_1 : decode cX6_spread 1 = .ok (.istore_n 2, 1) := by decide +kernel
theorem dX6_spread_2 : decode cX6_spread 2 = .ok (.iload_n 2, 1) := by decide +kernel
theorem dX6_spread_3 : decode cX6_spread 3 = .ok (.aload_n 0, 1) := by decide +kernel
theorem dX6_spread_4 : decode cX6_spread 4 = .ok (.getfield 34, 3) := by decide +kernel
theorem dX6_spread_7 : decode cX6_spread 7 = .ok (.if_icmp .ge 25, 3) := by decide +kernel
theorem dX6_spread_10 : decode cX6_spread 10 = .ok (.aload_n 0, 1) := by decide +kernel
theorem dX6_spread_11 : decode cX6_spread 11 = .ok (.getfield 22, 3) := by decide +kernel
theorem dX6_spread_14 : decode cX6_spread 14 = .ok (.iload_n 2, 1) := by decide +kernel
theorem dX6_spread_15 : decode cX6_spread 15 = .ok (.iload_n 2, 1) := by decide +kernel
theorem dX6_spread_16 : decode cX6_spread 16 = .ok (.iload_n 1, 1) := by decide +kernel
theorem dX6_spread_17 : decode cX6_spread 17 = .ok (.if_icmp .ne 7, 3) := by decide +kernel
theorem dX6_spread_20 : decode cX6_spread 20 = .ok (.iconst 0, 1) := by decide +kernel
theorem dX6_spread_21 : decode cX6_spread 21 = .ok (.goto 4, 3) := by decide +kernel
theorem dX6_spread_24 : decode cX6_spread 24 = .ok (.iconst (-1), 1) := by decide +kernel
theorem dX6_spread_25 : decode cX6_spread 25 = .ok (.iastore, 1) := by decide +kernel
theorem dX6_spread_26 : decode cX6_spread 26 = .ok (.iinc 2 1, 3) := by decide +kernel
theorem dX6_spread_29 : decode cX6_spread 29 = .ok (.goto (-27), 3) := by decide +kernel
theorem dX6_spread_32 : decode cX6_spread 32 = .ok (.iconst 0, 1) := by decide +kernel
theorem dX6_spread_33 : decode cX6_spread 33 = .ok (.istore_n 2, 1) := by decide +kernel
theorem dX6_spread_34 : decode cX6_spread 34 = .ok (.iload_n 2, 1) := by decide +kernel
theorem dX6_spread_35 : decode cX6_spread 35 = .ok (.aload_n 0, 1) := by decide +kernel
theorem dX6_spread_36 : decode cX6_spread 36 = .ok (.getfield 34, 3) := by decide +kernel
theorem dX6_spread_39 : decode cX6_spread 39 = .ok (.if_icmp .ge 84, 3) := by decide +kernel
theorem dX6_spread_42 : decode cX6_spread 42 = .ok (.iconst 0, 1) := by decide +kernel
theorem dX6_spread_43 : decode cX6_spread 43 = .ok (.istore_n 3, 1) := by decide +kernel
theorem dX6_spread_44 : decode cX6_spread 44 = .ok (.iload_n 3, 1) := by decide +kernel
theorem dX6_spread_45 : decode cX6_spread 45 = .ok (.aload_n 0, 1) := by decide +kernel
theorem dX6_spread_46 : decode cX6_spread 46 = .ok (.getfield 34, 3) := by decide +kernel
theorem dX6_spread_49 : decode cX6_spread 49 = .ok (.if_icmp .ge 68, 3) := by decide +kernel
theorem dX6_spread_52 : decode cX6_spread 52 = .ok (.iconst 0, 1) := by decide +kernel
theorem dX6_spread_53 : decode cX6_spread 53 = .ok (.istore 4, 2) := by decide +kernel
theorem dX6_spread_55 : decode cX6_spread 55 = .ok (.iload 4, 2) := by decide +kernel
theorem dX6_spread_57 : decode cX6_spread 57 = .ok (.aload_n 0, 1) := by decide +kernel
theorem dX6_spread_58 : decode cX6_spread 58 = .ok (.getfield 34, 3) := by decide +kernel
theorem dX6_spread_61 : decode cX6_spread 61 = .ok (.if_icmp .ge 50, 3) := by decide +kernel
theorem dX6_spread_64 : decode cX6_spread 64 = .ok (.aload_n 0, 1) := by decide +kernel
theorem dX6_spread_65 : decode cX6_spread 65 = .ok (.getfield 22, 3) := by decide +kernel
theorem dX6_spread_68 : decode cX6_spread 68 = .ok (.iload_n 3, 1) := by decide +kernel
theorem dX6_spread_69 : decode cX6_spread 69 = .ok (.iaload, 1) := by decide +kernel
theorem dX6_spread_70 : decode cX6_spread 70 = .ok (.iload_n 2, 1) := by decide +kernel
theorem dX6_spread_71 : decode cX6_spread 71 = .ok (.if_icmp .ne 34, 3) := by decide +kernel
theorem dX6_spread_74 : decode cX6_spread 74 = .ok (.aload_n 0, 1) := by decide +kernel
