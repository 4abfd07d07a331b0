theorem dX7_walked_20 : decode cX7_walked 20 = .ok (.getfield 142, 3) := by decide +kernel
theorem dX7_walked_23 : decode cX7_walked 23 = .ok (.if_icmp .ge 25, 3) := by decide +kernel
theorem dX7_walked_26 : decode cX7_walked 26 = .ok (.iload_n 1, 1) := by decide +kernel
theorem dX7_walked_27 : decode cX7_walked 27 = .ok (.bipush 10, 2) := by decide +kernel
theorem dX7_walked_29 : decode cX7_walked 29 = .ok (.isub, 1) := by decide +kernel
theorem dX7_walked_30 : decode cX7_walked 30 = .ok (.sipush 200, 3) := by decide +kernel
theorem dX7_walked_33 : decode cX7_walked 33 = .ok (.if_icmp .ge 15, 3) := by decide +kernel
theorem dX7_walked_36 : decode cX7_walked 36 = .ok (.aload_n 0, 1) := by decide +kernel
theorem dX7_walked_37 : decode cX7_walked 37 = .ok (.getfield 35, 3) := by decide +kernel
theorem dX7_walked_40 : decode cX7_walked 40 = .ok (.iload_n 1, 1) := by decide +kernel
theorem dX7_walked_41 : decode cX7_walked 41 = .ok (.bipush 10, 2) := by decide +kernel
theorem dX7_walked_43 : decode cX7_walked 43 = .ok (.isub, 1) := by decide +kernel
theorem dX7_walked_44 : decode cX7_walked 44 = .ok (.iaload, 1) := by decide +kernel
theorem dX7_walked_45 : decode cX7_walked 45 = .ok (.goto 4, 3) := by decide +kernel
theorem dX7_walked_48 : decode cX7_walked 48 = .ok (.iconst (-1), 1) := by decide +kernel
theorem dX7_walked_49 : decode cX7_walked 49 = .ok (.ireturn, 1) := by decide +kernel
theorem dX7_walked_50 : decode cX7_walked 50 = .ok (.iload_n 1, 1) := by decide +kernel
theorem dX7_walked_51 : decode cX7_walked 51 = .ok (.ifCond .ne 10, 3) := by decide +kernel
theorem dX7_walked_54 : decode cX7_walked 54 = .ok (.aload_n 0, 1) := by decide +kernel
theorem dX7_walked_55 : decode cX7_walked 55 = .ok (.getfield 148, 3) := by decide +kernel
theorem dX7_walked_58 : decode cX7_walked 58 = .ok (.goto 28, 3) := by decide +kernel
theorem dX7_walked_61 : decode cX7_walked 61 = .ok (.iload_n 1, 1) := by decide +kernel
theorem dX7_walked_62 : decode cX7_walked 62 = .ok (.iconst 1, 1) := by decide +kernel
theorem dX7_walked_63 : decode cX7_walked 63 = .ok (.if_icmp .ne 10, 3) := by decide +kernel
theorem dX7_walked_66 : decode cX7_walked 66 = .ok (.aload_n 0, 1) := by decide +kernel
theorem dX7_walked_67 : decode cX7_walked 67 = .ok (.getfield 151, 3) := by decide +kernel
theorem dX7_walked_70 : decode cX7_walked 70 = .ok (.goto 16, 3) := by decide +kernel
theorem dX7_walked_73 : decode cX7_walked 73 = .ok (.iload_n 1, 1) := by decide +kernel
theorem dX7_walked_74 : decode cX7_walked 74 = .ok (.iconst 2, 1) := by decide +kernel
theorem dX7_walked_75 : decode cX7_walked 75 = .ok (.if_icmp .ne 10, 3) := by decide +kernel
theorem dX7_walked_78 : decode cX7_walked 78 = .ok (.aload_n 0, 1) := by decide +kernel
theorem dX7_walked_79 : decode cX7_walked 79 = .ok (.getfield 142, 3) := by decide +kernel
theorem dX7_walked_82 : decode cX7_walked 82 = .ok (.goto 4, 3) := by decide +kernel
theorem dX7_walked_85 : decode cX7_walked 85 = .ok (.iconst (-1), 1) := by decide +kernel
theorem dX7_walked_86 : decode cX7_walked 86 = .ok (.ireturn, 1) := by decide +kernel
theorem dX7_start_0 : decode cX7_start 0 = .ok (.aload_n 0, 1) := by decide +kernel
theorem dX7_start_1 : decode cX7_start 1 = .ok (.iload_n 1, 1) := by decide +kernel
theorem dX7_start_2 : decode cX7_start 2 = .ok (.iload_n 2, 1) := by decide +kernel
theorem dX7_start_3 : decode cX7_start 3 = .ok (.invokevirtual 94, 3) := by decide +kernel
theorem dX7_start_6 : decode cX7_start 6 = .ok (.ifCond .ne 5, 3) := by decide +kernel
theorem dX7_start_9 : decode cX7_start 9 = .ok (.iconst 0, 1) := by decide +kernel
theorem dX7_start_10 : decode cX7_start 10 = .ok (.ireturn, 1) := by decide +kernel
theorem dX7_start_11 : decode cX7_start 11 = .ok (.aload_n 0, 1) := by decide +kernel
theorem dX7_start_12 : decode cX7_start 12 = .ok (.iconst 1, 1) := by decide +kernel
theorem dX7_start_13 : decode cX7_start 13 = .ok (.putfield 104, 3) := by decide +kernel
theorem dX7_start_16 : decode cX7_start 16 = .ok (.aload_n 0, 1) := by decide +kernel
theorem dX7_start_17 : decode cX7_start 17 = .ok (.iload_n 1, 1) := by decide +kernel
theorem dX7_start_18 : decode cX7_start 18 = .ok (.putfield 98, 3) := by decide +kernel
theorem dX7_start_21 : decode cX7_start 21 = .ok (.aload_n 0, 1) := by decide +kernel
theorem dX7_start_22 : decode cX7_start 22 = .ok (.iload_n 2, 1) := by decide +kernel
theorem dX7_start_23 : decode cX7_start 23 = .ok (.putfield 154, 3) := by decide +kernel
theorem dX7_start_26 : decode cX7_start 26 = .ok (.aload_n 0, 1) := by decide +kernel
theorem dX7_start_27 : decode cX7_start 27 = .ok (.iconst 0, 1) := by decide +kernel
theorem dX7_start_28 : decode cX7_start 28 = .ok (.putfield 101, 3) := by decide +kernel
theorem dX7_start_31 : decode cX7_start 31 = .ok (.iconst 1, 1) := by decide +kernel
theorem dX7_start_32 : decode cX7_start 32 = .ok (.ireturn, 1) := by decide +kernel
theorem dX7_follow_0 : decode cX7_follow 0 = .ok (.aload_n 0, 1) := by decide +kernel
theorem dX7_follow_1 : decode cX7_follow 1 = .ok (.getfield 62, 3) := by decide +kernel
theorem dX7_follow_4 : decode cX7_follow 4 = .ok (.iconst 0, 1) := by decide +kernel
theorem dX7_follow_5 : decode cX7_follow 5 = .ok (.iload_n 1, 1) := by decide +kernel
theorem dX7_follow_6 : decode cX7_follow 6 = .ok (.iastore, 1) := by decide +kernel
theorem dX7_follow_7 : decode cX7_follow 7 = .ok (.aload_n 0, 1) := by decide +kernel
theorem dX7_follow_8 : decode cX7_follow 8 = .ok (.getfield 65, 3) := by decide +kernel
theorem dX7_follow_11 : decode cX7_follow 11 = .ok (.iconst 0, 1) := by decide +kernel
theorem dX7_follow_12 : decode cX7_follow 12 = .ok (.iload_n 2, 1) := by decide +kernel
theorem dX7_follow_13 : decode cX7_follow 13 = .ok (.iastore, 1) := by decide +kernel
theorem dX7_follow_14 : decode cX7_follow 14 = .ok (.iconst 0, 1) := by decide +kernel
theorem dX7_follow_15 : decode cX7_follow 15 = .ok (.istore 6, 2) := by decide +kernel
theorem dX7_follow_17 : decode cX7_follow 17 = .ok (.iload 6, 2) := by decide +kernel
theorem dX7_follow_19 : decode cX7_follow 19 = .ok (.iload 5, 2) := by decide +kernel
theorem dX7_follow_21 : decode cX7_follow 21 = .ok (.if_icmp .ge 69, 3) := by decide +kernel
theorem dX7_follow_24 : decode cX7_follow 24 = .ok (.aload_n 0, 1) := by decide +kernel
theorem dX7_follow_25 : decode cX7_follow 25 = .ok (.getfield 13, 3) := by decide +kernel
theorem dX7_follow_28 : decode cX7_follow 28 = .ok (.iconst 4, 1) := by decide +kernel
theorem dX7_follow_29 : decode cX7_follow 29 = .ok (.aload_n 0, 1) := by decide +kernel
theorem dX7_follow_30 : decode cX7_follow 30 = .ok (.getfield 62, 3) := by decide +kernel
theorem dX7_follow_33 : decode cX7_follow 33 = .ok (.iload 6, 2) := by decide +kernel
theorem dX7_follow_35 : decode cX7_follow 35 = .ok (.iaload, 1) := by decide +kernel
theorem dX7_follow_36 : decode cX7_follow 36 = .ok (.imul, 1) := by decide +kernel
theorem dX7_follow_37 : decode cX7_follow 37 = .ok (.aload_n 3, 1) := by decide +kernel
theorem dX7_follow_38 : decode cX7_follow 38 = .ok (.iload 4, 2) := by decide +kernel
theorem dX7_follow_40 : decode cX7_follow 40 = .ok (.iload 6, 2) := by decide +kernel
theorem dX7_follow_42 : decode cX7_follow 42 = .ok (.iadd, 1) := by decide +kernel
theorem dX7_follow_43 : decode cX7_follow 43 = .ok (.iaload, 1) := by decide +kernel
theorem dX7_follow_44 : decode cX7_follow 44 = .ok (.iadd, 1) := by decide +kernel
theorem dX7_follow_45 : decode cX7_follow 45 = .ok (.iaload, 1) := by decide +kernel
theorem dX7_follow_46 : decode cX7_follow 46 = .ok (.istore 7, 2) := by decide +kernel
theorem dX7_follow_48 : decode cX7_follow 48 = .ok (.iload 7, 2) := by decide +kernel
theorem dX7_follow_50 : decode cX7_follow 50 = .ok (.iconst (-1), 1) := by decide +kernel
theorem dX7_follow_51 : decode cX7_follow 51 = .ok (.if_icmp .ne 5, 3) := by decide +kernel
theorem dX7_follow_54 : decode cX7_follow 54 = .ok (.iconst 0, 1) := by decide +kernel
theorem dX7_follow_55 : decode cX7_follow 55 = .ok (.ireturn, 1) := by decide +kernel
theorem dX7_follow_56 : decode cX7_follow 56 = .ok (.aload_n 0, 1) := by decide +kernel
theorem dX7_follow_57 : decode cX7_follow 57 = .ok (.getfield 62, 3) := by decide +kernel
theorem dX7_follow_60 : decode cX7_follow 60 = .ok (.iload 6, 2) := by decide +kernel
theorem dX7_follow_62 : decode cX7_follow 62 = .ok (.iconst 1, 1) := by decide +kernel
theorem dX7_follow_63 : decode cX7_follow 63 = .ok (.iadd, 1) := by decide +kernel
theorem dX7_follow_64 : decode cX7_follow 64 = .ok (.iload 7, 2) := by decide +kernel
theorem dX7_follow_66 : decode cX7_follow 66 = .ok (.iconst 4, 1) := by decide +kernel
theorem dX7_follow_67 : decode cX7_follow 67 = .ok (.idiv, 1) := by decide +kernel
theorem dX7_follow_68 : decode cX7_follow 68 = .ok (.iastore, 1) := by decide +kernel
theorem dX7_follow_69 : decode cX7_follow 69 = .ok (.aload_n 0, 1) := by decide +kernel
theorem dX7_follow_70 : decode cX7_follow 70 = .ok (.getfield 65, 3) := by decide +kernel
theorem dX7_follow_73 : decode cX7_follow 73 = .ok (.iload 6, 2) := by decide +kernel
theorem dX7_follow_75 : decode cX7_follow 75 = .ok (.iconst 1, 1) := by decide +kernel
theorem dX7_follow_76 : decode cX7_follow 76 = .ok (.iadd, 1) := by decide +kernel
theorem dX7_follow_77 : decode cX7_follow 77 = .ok (.iload 7, 2) := by decide +kernel
theorem dX7_follow_79 : decode cX7_follow 79 = .ok (.iconst 2, 1) := by decide +kernel
theorem dX7_follow_80 : decode cX7_follow 80 = .ok (.iadd, 1) := by decide +kernel
theorem dX7_follow_81 : decode cX7_follow 81 = .ok (.iconst 4, 1) := by decide +kernel
theorem dX7_follow_82 : decode cX7_follow 82 = .ok (.irem, 1) := by decide +kernel
theorem dX7_follow_83 : decode cX7_follow 83 = .ok (.iastore, 1) := by decide +kernel
theorem dX7_follow_84 : decode cX7_follow 84 = .ok (.iinc 6 1, 3) := by decide +kernel
theorem dX7_follow_87 : decode cX7_follow 87 = .ok (.goto (-70), 3) := by decide +kernel
theorem dX7_follow_90 : decode cX7_follow 90 = .ok (.iconst 1, 1) := by decide +kernel
theorem dX7_follow_91 : decode cX7_follow 91 = .ok (.ireturn, 1) := by decide +kernel
theorem dX7_go_0 : decode cX7_go 0 = .ok (.aload_n 0, 1) := by decide +kernel
theorem dX7_go_1 : decode cX7_go 1 = .ok (.getfield 104, 3) := by decide +kernel
theorem dX7_go_4 : decode cX7_go 4 = .ok (.ifCond .eq 21, 3) := by decide +kernel
theorem dX7_go_7 : decode cX7_go 7 = .ok (.iload_n 1, 1) := by decide +kernel
theorem dX7_go_8 : decode cX7_go 8 = .ok (.iconst 0, 1) := by decide +kernel
theorem dX7_go_9 : decode cX7_go 9 = .ok (.iconst 3, 1) := by decide +kernel
theorem dX7_go_10 : decode cX7_go 10 = .ok (.invokestatic 86, 3) := by decide +kernel
theorem dX7_go_13 : decode cX7_go 13 = .ok (.ifCond .eq 12, 3) := by decide +kernel
theorem dX7_go_16 : decode cX7_go 16 = .ok (.aload_n 0, 1) := by decide +kernel
theorem dX7_go_17 : decode cX7_go 17 = .ok (.getfield 101, 3) := by decide +kernel
theorem dX7_go_20 : decode cX7_go 20 = .ok (.bipush 30, 2) := by decide +kernel
theorem dX7_go_22 : decode cX7_go 22 = .ok (.if_icmp .ne 5, 3) := by decide +kernel
theorem dX7_go_25 : decode cX7_go 25 = .ok (.iconst (-1), 1) := by decide +kernel
theorem dX7_go_26 : decode cX7_go 26 = .ok (.ireturn, 1) := by decide +kernel
theorem dX7_go_27 : decode cX7_go 27 = .ok (.aload_n 0, 1) := by decide +kernel
theorem dX7_go_28 : decode cX7_go 28 = .ok (.aload_n 0, 1) := by decide +kernel
theorem dX7_go_29 : decode cX7_go 29 = .ok (.getfield 98, 3) := by decide +kernel
theorem dX7_go_32 : decode cX7_go 32 = .ok (.aload_n 0, 1) := by decide +kernel
theorem dX7_go_33 : decode cX7_go 33 = .ok (.getfield 154, 3) := by decide +kernel
theorem dX7_go_36 : decode cX7_go 36 = .ok (.aload_n 0, 1) := by decide +kernel
theorem dX7_go_37 : decode cX7_go 37 = .ok (.getfield 32, 3) := by decide +kernel
theorem dX7_go_40 : decode cX7_go 40 = .ok (.iconst 0, 1) := by decide +kernel
theorem dX7_go_41 : decode cX7_go 41 = .ok (.aload_n 0, 1) := by decide +kernel
theorem dX7_go_42 : decode cX7_go 42 = .ok (.getfield 101, 3) := by decide +kernel
theorem dX7_go_45 : decode cX7_go 45 = .ok (.invokevirtual 157, 3) := by decide +kernel
theorem dX7_go_48 : decode cX7_go 48 = .ok (.pop, 1) := by decide +kernel
theorem dX7_go_49 : decode cX7_go 49 = .ok (.aload_n 0, 1) := by decide +kernel
theorem dX7_go_50 : decode cX7_go 50 = .ok (.getfield 13, 3) := by decide +kernel
theorem dX7_go_53 : decode cX7_go 53 = .ok (.iconst 4, 1) := by decide +kernel
theorem dX7_go_54 : decode cX7_go 54 = .ok (.aload_n 0, 1) := by decide +kernel
theorem dX7_go_55 : decode cX7_go 55 = .ok (.getfield 62, 3) := by decide +kernel
theorem dX7_go_58 : decode cX7_go 58 = .ok (.aload_n 0, 1) := by decide +kernel
theorem dX7_go_59 : decode cX7_go 59 = .ok (.getfield 101, 3) := by decide +kernel
theorem dX7_go_62 : decode cX7_go 62 = .ok (.iaload, 1) := by decide +kernel
theorem dX7_go_63 : decode cX7_go 63 = .ok (.imul, 1) := by decide +kernel
theorem dX7_go_64 : decode cX7_go 64 = .ok (.iload_n 1, 1) := by decide +kernel
theorem dX7_go_65 : decode cX7_go 65 = .ok (.iadd, 1) := by decide +kernel
theorem dX7_go_66 : decode cX7_go 66 = .ok (.iaload, 1) := by decide +kernel
theorem dX7_go_67 : decode cX7_go 67 = .ok (.iconst (-1), 1) := by decide +kernel
theorem dX7_go_68 : decode cX7_go 68 = .ok (.if_icmp .ne 5, 3) := by decide +kernel
theorem dX7_go_71 : decode cX7_go 71 = .ok (.iconst (-1), 1) := by decide +kernel
theorem dX7_go_72 : decode cX7_go 72 = .ok (.ireturn, 1) := by decide +kernel
theorem dX7_go_73 : decode cX7_go 73 = .ok (.aload_n 0, 1) := by decide +kernel
theorem dX7_go_74 : decode cX7_go 74 = .ok (.getfield 32, 3) := by decide +kernel
theorem dX7_go_77 : decode cX7_go 77 = .ok (.aload_n 0, 1) := by decide +kernel
theorem dX7_go_78 : decode cX7_go 78 = .ok (.getfield 101, 3) := by decide +kernel
theorem dX7_go_81 : decode cX7_go 81 = .ok (.iload_n 1, 1) := by decide +kernel
theorem dX7_go_82 : decode cX7_go 82 = .ok (.iastore, 1) := by decide +kernel
theorem dX7_go_83 : decode cX7_go 83 = .ok (.aload_n 0, 1) := by decide +kernel
theorem dX7_go_84 : decode cX7_go 84 = .ok (.dup, 1) := by decide +kernel
theorem dX7_go_85 : decode cX7_go 85 = .ok (.getfield 101, 3) := by decide +kernel
theorem dX7_go_88 : decode cX7_go 88 = .ok (.iconst 1, 1) := by decide +kernel
theorem dX7_go_89 : decode cX7_go 89 = .ok (.iadd, 1) := by decide +kernel
theorem dX7_go_90 : decode cX7_go 90 = .ok (.putfield 101, 3) := by decide +kernel
theorem dX7_go_93 : decode cX7_go 93 = .ok (.aload_n 0, 1) := by decide +kernel
theorem dX7_go_94 : decode cX7_go 94 = .ok (.getfield 101, 3) := by decide +kernel
theorem dX7_go_97 : decode cX7_go 97 = .ok (.ireturn, 1) := by decide +kernel
theorem dX7_route_0 : decode cX7_route 0 = .ok (.aload_n 0, 1) := by decide +kernel
theorem dX7_route_1 : decode cX7_route 1 = .ok (.getfield 104, 3) := by decide +kernel
theorem dX7_route_4 : decode cX7_route 4 = .ok (.ifCond .eq 11, 3) := by decide +kernel
theorem dX7_route_7 : decode cX7_route 7 = .ok (.aload_n 0, 1) := by decide +kernel
theorem dX7_route_8 : decode cX7_route 8 = .ok (.iload_n 1, 1) := by decide +kernel
theorem dX7_route_9 : decode cX7_route 9 = .ok (.invokevirtual 90, 3) := by decide +kernel
theorem dX7_route_12 : decode cX7_route 12 = .ok (.ifCond .ne 5, 3) := by decide +kernel
theorem dX7_route_15 : decode cX7_route 15 = .ok (.iconst (-1), 1) := by decide +kernel
theorem dX7_route_16 : decode cX7_route 16 = .ok (.ireturn, 1) := by decide +kernel
theorem dX7_route_17 : decode cX7_route 17 = .ok (.iconst 0, 1) := by decide +kernel
theorem dX7_route_18 : decode cX7_route 18 = .ok (.istore_n 2, 1) := by decide +kernel
theorem dX7_route_19 : decode cX7_route 19 = .ok (.iload_n 2, 1) := by decide +kernel
theorem dX7_route_20 : decode cX7_route 20 = .ok (.aload_n 0, 1) := by decide +kernel
theorem dX7_route_21 : decode cX7_route 21 = .ok (.getfield 83, 3) := by decide +kernel
theorem dX7_route_24 : decode cX7_route 24 = .ok (.if_icmp .ge 26, 3) := by decide +kernel
theorem dX7_route_27 : decode cX7_route 27 = .ok (.aload_n 0, 1) := by decide +kernel
theorem dX7_route_28 : decode cX7_route 28 = .ok (.getfield 68, 3) := by decide +kernel
theorem dX7_route_31 : decode cX7_route 31 = .ok (.iload_n 2, 1) := by decide +kernel
theorem dX7_route_32 : decode cX7_route 32 = .ok (.iload_n 2, 1) := by decide +kernel
theorem dX7_route_33 : decode cX7_route 33 = .ok (.iload_n 1, 1) := by decide +kernel
theorem dX7_route_34 : decode cX7_route 34 = .ok (.if_icmp .ne 7, 3) := by decide +kernel
theorem dX7_route_37 : decode cX7_route 37 = .ok (.iconst 0, 1) := by decide +kernel
theorem dX7_route_38 : decode cX7_route 38 = .ok (.goto 5, 3) := by decide +kernel
theorem dX7_route_41 : decode cX7_route 41 = .ok (.ldc 161, 2) := by decide +kernel
theorem dX7_route_43 : decode cX7_route 43 = .ok (.iastore, 1) := by decide +kernel
theorem dX7_route_44 : decode cX7_route 44 = .ok (.iinc 2 1, 3) := by decide +kernel
theorem dX7_route_47 : decode cX7_route 47 = .ok (.goto (-28), 3) := by decide +kernel
theorem dX7_route_50 : decode cX7_route 50 = .ok (.iconst 0, 1) := by decide +kernel
theorem dX7_route_51 : decode cX7_route 51 = .ok (.istore_n 2, 1) := by decide +kernel
theorem dX7_route_52 : decode cX7_route 52 = .ok (.iload_n 2, 1) := by decide +kernel
theorem dX7_route_53 : decode cX7_route 53 = .ok (.aload_n 0, 1) := by decide +kernel
theorem dX7_route_54 : decode cX7_route 54 = .ok (.getfield 83, 3) := by decide +kernel
theorem dX7_route_57 : decode cX7_route 57 = .ok (.if_icmp .ge 86, 3) := by decide +kernel
theorem dX7_route_60 : decode cX7_route 60 = .ok (.iconst 0, 1) := by decide +kernel
theorem dX7_route_61 : decode cX7_route 61 = .ok (.istore_n 3, 1) := by decide +kernel
theorem dX7_route_62 : decode cX7_route 62 = .ok (.iload_n 3, 1) := by decide +kernel
theorem dX7_route_63 : decode cX7_route 63 = .ok (.iconst 4, 1) := by decide +kernel
theorem dX7_route_64 : decode cX7_route 64 = .ok (.aload_n 0, 1) := by decide +kernel
theorem dX7_route_65 : decode cX7_route 65 = .ok (.getfield 83, 3) := by decide +kernel
theorem dX7_route_68 : decode cX7_route 68 = .ok (.imul, 1) := by decide +kernel
theorem dX7_route_69 : decode cX7_route 69 = .ok (.if_icmp .ge 68, 3) := by decide +kernel
theorem dX7_route_72 : decode cX7_route 72 = .ok (.aload_n 0, 1) := by decide +kernel
theorem dX7_route_73 : decode cX7_route 73 = .ok (.getfield 13, 3) := by decide +kernel
theorem dX7_route_76 : decode cX7_route 76 = .ok (.iload_n 3, 1) := by decide +kernel
theorem dX7_route_77 : decode cX7_route 77 = .ok (.iaload, 1) := by decide +kernel
theorem dX7_route_78 : decode cX7_route 78 = .ok (.iconst (-1), 1) := by decide +kernel
theorem dX7_route_79 : decode cX7_route 79 = .ok (.if_icmp .eq 52, 3) := by decide +kernel
theorem dX7_route_82 : decode cX7_route 82 = .ok (.aload_n 0, 1) := by decide +kernel
theorem dX7_route_83 : decode cX7_route 83 = .ok (.getfield 68, 3) := by decide +kernel
theorem dX7_route_86 : decode cX7_route 86 = .ok (.aload_n 0, 1) := by decide +kernel
theorem dX7_route_87 : decode cX7_route 87 = .ok (.getfield 13, 3) := by decide +kernel
theorem dX7_route_90 : decode cX7_route 90 = .ok (.iload_n 3, 1) := by decide +kernel
theorem dX7_route_91 : decode cX7_route 91 = .ok (.iaload, 1) := by decide +kernel
theorem dX7_route_92 : decode cX7_route 92 = .ok (.iconst 4, 1) := by decide +kernel
theorem dX7_route_93 : decode cX7_route 93 = .ok (.idiv, 1) := by decide +kernel
theorem dX7_route_94 : decode cX7_route 94 = .ok (.iaload, 1) := by decide +kernel
theorem dX7_route_95 : decode cX7_route 95 = .ok (.iconst 1, 1) := by decide +kernel
theorem dX7_route_96 : decode cX7_route 96 = .ok (.iadd, 1) := by decide +kernel
theorem dX7_route_97 : decode cX7_route 97 = .ok (.aload_n 0, 1) := by decide +kernel
theorem dX7_route_98 : decode cX7_route 98 = .ok (.getfield 68, 3) := by decide +kernel
theorem dX7_route_101 : decode cX7_route 101 = .ok (.iload_n 3, 1) := by decide +kernel
theorem dX7_route_102 : decode cX7_route 102 = .ok (.iconst 4, 1) := by decide +kernel
theorem dX7_route_103 : decode cX7_route 103 = .ok (.idiv, 1) := by decide +kernel
theorem dX7_route_104 : decode cX7_route 104 = .ok (.iaload, 1) := by decide +kernel
theorem dX7_route_105 : decode cX7_route 105 = .ok (.if_icmp .ge 26, 3) := by decide +kernel
theorem dX7_route_108 : decode cX7_route 108 = .ok (.aload_n 0, 1) := by decide +kernel
theorem dX7_route_109 : decode cX7_route 109 = .ok (.getfield 68, 3) := by decide +kernel
theorem dX7_route_112 : decode cX7_route 112 = .ok (.iload_n 3, 1) := by decide +kernel
theorem dX7_route_113 : decode cX7_route 113 = .ok (.iconst 4, 1) := by decide +kernel
theorem dX7_route_114 : decode cX7_route 114 = .ok (.idiv, 1) := by decide +kernel
theorem dX7_route_115 : decode cX7_route 115 = .ok (.aload_n 0, 1) := by decide +kernel
theorem dX7_route_116 : decode cX7_route 116 = .ok (.getfield 68, 3) := by decide +kernel
theorem dX7_route_119 : decode cX7_route 119 = .ok (.aload_n 0, 1) := by decide +kernel
theorem dX7_route_120 : decode cX7_route 120 = .ok (.getfield 13, 3) := by decide +kernel
theorem dX7_route_123 : decode cX7_route 123 = .ok (.iload_n 3, 1) := by decide +kernel
theorem dX7_route_124 : decode cX7_route 124 = .ok (.iaload, 1) := by decide +kernel
theorem dX7_route_125 : decode cX7_route 125 = .ok (.iconst 4, 1) := by decide +kernel
theorem dX7_route_126 : decode cX7_route 126 = .ok (.idiv, 1) := by decide +kernel
theorem dX7_route_127 : decode cX7_route 127 = .ok (.iaload, 1) := by decide +kernel
theorem dX7_route_128 : decode cX7_route 128 = .ok (.iconst 1, 1) := by decide +kernel
theorem dX7_route_129 : decode cX7_route 129 = .ok (.iadd, 1) := by decide +kernel
theorem dX7_route_130 : decode cX7_route 130 = .ok (.iastore, 1) := by decide +kernel
theorem dX7_route_131 : decode cX7_route 131 = .ok (.iinc 3 1, 3) := by decide +kernel
theorem dX7_route_134 : decode cX7_route 134 = .ok (.goto (-72), 3) := by decide +kernel
theorem dX7_route_137 : decode cX7_route 137 = .ok (.iinc 2 1, 3) := by decide +kernel
theorem dX7_route_140 : decode cX7_route 140 = .ok (.goto (-88), 3) := by decide +kernel
theorem dX7_route_143 : decode cX7_route 143 = .ok (.aload_n 0, 1) := by decide +kernel
theorem dX7_route_144 : decode cX7_route 144 = .ok (.getfield 68, 3) := by decide +kernel
theorem dX7_route_147 : decode cX7_route 147 = .ok (.aload_n 0, 1) := by decide +kernel
theorem dX7_route_148 : decode cX7_route 148 = .ok (.getfield 98, 3) := by decide +kernel
theorem dX7_route_151 : decode cX7_route 151 = .ok (.iaload, 1) := by decide +kernel
theorem dX7_route_152 : decode cX7_route 152 = .ok (.ldc 161, 2) := by decide +kernel
theorem dX7_route_154 : decode cX7_route 154 = .ok (.if_icmp .ne 5, 3) := by decide +kernel
theorem dX7_route_157 : decode cX7_route 157 = .ok (.iconst (-1), 1) := by decide +kernel
theorem dX7_route_158 : decode cX7_route 158 = .ok (.ireturn, 1) := by decide +kernel
theorem dX7_route_159 : decode cX7_route 159 = .ok (.aload_n 0, 1) := by decide +kernel
theorem dX7_route_160 : decode cX7_route 160 = .ok (.iconst 0, 1) := by decide +kernel
theorem dX7_route_161 : decode cX7_route 161 = .ok (.putfield 101, 3) := by decide +kernel
theorem dX7_route_164 : decode cX7_route 164 = .ok (.aload_n 0, 1) := by decide +kernel
theorem dX7_route_165 : decode cX7_route 165 = .ok (.getfield 98, 3) := by decide +kernel
theorem dX7_route_168 : decode cX7_route 168 = .ok (.istore_n 2, 1) := by decide +kernel
theorem dX7_route_169 : decode cX7_route 169 = .ok (.iload_n 2, 1) := by decide +kernel
theorem dX7_route_170 : decode cX7_route 170 = .ok (.iload_n 1, 1) := by decide +kernel
theorem dX7_route_171 : decode cX7_route 171 = .ok (.if_icmp .eq 89, 3) := by decide +kernel
theorem dX7_route_174 : decode cX7_route 174 = .ok (.iconst 0, 1) := by decide +kernel
theorem dX7_route_175 : decode cX7_route 175 = .ok (.istore_n 3, 1) := by decide +kernel
theorem dX7_route_176 : decode cX7_route 176 = .ok (.aload_n 0, 1) := by decide +kernel
theorem dX7_route_177 : decode cX7_route 177 = .ok (.getfield 13, 3) := by decide +kernel
theorem dX7_route_180 : decode cX7_route 180 = .ok (.iconst 4, 1) := by decide +kernel
theorem dX7_route_181 : decode cX7_route 181 = .ok (.iload_n 2, 1) := by decide +kernel
theorem dX7_route_182 : decode cX7_route 182 = .ok (.imul, 1) := by decide +kernel
theorem dX7_route_183 : decode cX7_route 183 = .ok (.iload_n 3, 1) := by decide +kernel
theorem dX7_route_184 : decode cX7_route 184 = .ok (.iadd, 1) := by decide +kernel
theorem dX7_route_185 : decode cX7_route 185 = .ok (.iaload, 1) := by decide +kernel
theorem dX7_route_186 : decode cX7_route 186 = .ok (.iconst (-1), 1) := by decide +kernel
theorem dX7_route_187 : decode cX7_route 187 = .ok (.if_icmp .eq 31, 3) := by decide +kernel
theorem dX7_route_190 : decode cX7_route 190 = .ok (.aload_n 0, 1) := by decide +kernel
theorem dX7_route_191 : decode cX7_route 191 = .ok (.getfield 68, 3) := by decide +kernel
theorem dX7_route_194 : decode cX7_route 194 = .ok (.aload_n 0, 1) := by decide +kernel
theorem dX7_route_195 : decode cX7_route 195 = .ok (.getfield 13, 3) := by decide +kernel
theorem dX7_route_198 : decode cX7_route 198 = .ok (.iconst 4, 1) := by decide +kernel
theorem dX7_route_199 : decode cX7_route 199 = .ok (.iload_n 2, 1) := by decide +kernel
theorem dX7_route_200 : decode cX7_route 200 = .ok (.imul, 1) := by decide +kernel
theorem dX7_route_201 : decode cX7_route 201 = .ok (.iload_n 3, 1) := by decide +kernel
theorem dX7_route_202 : decode cX7_route 202 = .ok (.iadd, 1) := by decide +kernel
theorem dX7_route_203 : decode cX7_route 203 = .ok (.iaload, 1) := by decide +kernel
theorem dX7_route_204 : decode cX7_route 204 = .ok (.iconst 4, 1) := by decide +kernel
theorem dX7_route_205 : decode cX7_route 205 = .ok (.idiv, 1) := by decide +kernel
theorem dX7_route_206 : decode cX7_route 206 = .ok (.iaload, 1) := by decide +kernel
theorem dX7_route_207 : decode cX7_route 207 = .ok (.aload_n 0, 1) := by decide +kernel
theorem dX7_route_208 : decode cX7_route 208 = .ok (.getfield 68, 3) := by decide +kernel
theorem dX7_route_211 : decode cX7_route 211 = .ok (.iload_n 2, 1) := by decide +kernel
theorem dX7_route_212 : decode cX7_route 212 = .ok (.iaload, 1) := by decide +kernel
theorem dX7_route_213 : decode cX7_route 213 = .ok (.iconst 1, 1) := by decide +kernel
theorem dX7_route_214 : decode cX7_route 214 = .ok (.isub, 1) := by decide +kernel
theorem dX7_route_215 : decode cX7_route 215 = .ok (.if_icmp .eq 9, 3) := by decide +kernel
theorem dX7_route_218 : decode cX7_route 218 = .ok (.iinc 3 1, 3) := by decide +kernel
theorem dX7_route_221 : decode cX7_route 221 = .ok (.goto (-45), 3) := by decide +kernel
theorem dX7_route_224 : decode cX7_route 224 = .ok (.aload_n 0, 1) := by decide +kernel
theorem dX7_route_225 : decode cX7_route 225 = .ok (.getfield 32, 3) := by decide +kernel
theorem dX7_route_228 : decode cX7_route 228 = .ok (.aload_n 0, 1) := by decide +kernel
theorem dX7_route_229 : decode cX7_route 229 = .ok (.getfield 101, 3) := by decide +kernel
theorem dX7_route_232 : decode cX7_route 232 = .ok (.iload_n 3, 1) := by decide +kernel
theorem dX7_route_233 : decode cX7_route 233 = .ok (.iastore, 1) := by decide +kernel
theorem dX7_route_234 : decode cX7_route 234 = .ok (.aload_n 0, 1) := by decide +kernel
theorem dX7_route_235 : decode cX7_route 235 = .ok (.dup, 1) := by decide +kernel
theorem dX7_route_236 : decode cX7_route 236 = .ok (.getfield 101, 3) := by decide +kernel
theorem dX7_route_239 : decode cX7_route 239 = .ok (.iconst 1, 1) := by decide +kernel
theorem dX7_route_240 : decode cX7_route 240 = .ok (.iadd, 1) := by decide +kernel
theorem dX7_route_241 : decode cX7_route 241 = .ok (.putfield 101, 3) := by decide +kernel
theorem dX7_route_244 : decode cX7_route 244 = .ok (.aload_n 0, 1) := by decide +kernel
theorem dX7_route_245 : decode cX7_route 245 = .ok (.getfield 13, 3) := by decide +kernel
theorem dX7_route_248 : decode cX7_route 248 = .ok (.iconst 4, 1) := by decide +kernel
theorem dX7_route_249 : decode cX7_route 249 = .ok (.iload_n 2, 1) := by decide +kernel
theorem dX7_route_250 : decode cX7_route 250 = .ok (.imul, 1) := by decide +kernel
theorem dX7_route_251 : decode cX7_route 251 = .ok (.iload_n 3, 1) := by decide +kernel
theorem dX7_route_252 : decode cX7_route 252 = .ok (.iadd, 1) := by decide +kernel
theorem dX7_route_253 : decode cX7_route 253 = .ok (.iaload, 1) := by decide +kernel
theorem dX7_route_254 : decode cX7_route 254 = .ok (.iconst 4, 1) := by decide +kernel
theorem dX7_route_255 : decode cX7_route 255 = .ok (.idiv, 1) := by decide +kernel
theorem dX7_route_256 : decode cX7_route 256 = .ok (.istore_n 2, 1) := by decide +kernel
theorem dX7_route_257 : decode cX7_route 257 = .ok (.goto (-88), 3) := by decide +kernel
theorem dX7_route_260 : decode cX7_route 260 = .ok (.aload_n 0, 1) := by decide +kernel
theorem dX7_route_261 : decode cX7_route 261 = .ok (.getfield 101, 3) := by decide +kernel
theorem dX7_route_264 : decode cX7_route 264 = .ok (.ireturn, 1) := by decide +kernel
theorem dX7_routed_0 : decode cX7_routed 0 = .ok (.aload_n 0, 1) := by decide +kernel
theorem dX7_routed_1 : decode cX7_routed 1 = .ok (.getfield 104, 3) := by decide +kernel
theorem dX7_routed_4 : decode cX7_routed 4 = .ok (.ifCond .ne 5, 3) := by decide +kernel
theorem dX7_routed_7 : decode cX7_routed 7 = .ok (.iconst (-1), 1) := by decide +kernel
theorem dX7_routed_8 : decode cX7_routed 8 = .ok (.ireturn, 1) := by decide +kernel
theorem dX7_routed_9 : decode cX7_routed 9 = .ok (.iload_n 1, 1) := by decide +kernel
theorem dX7_routed_10 : decode cX7_routed 10 = .ok (.bipush 10, 2) := by decide +kernel
theorem dX7_routed_12 : decode cX7_routed 12 = .ok (.if_icmp .lt 28, 3) := by decide +kernel
theorem dX7_routed_15 : decode cX7_routed 15 = .ok (.iload_n 1, 1) := by decide +kernel
theorem dX7_routed_16 : decode cX7_routed 16 = .ok (.bipush 10, 2) := by decide +kernel
theorem dX7_routed_18 : decode cX7_routed 18 = .ok (.isub, 1) := by decide +kernel
theorem dX7_routed_19 : decode cX7_routed 19 = .ok (.aload_n 0, 1) := by decide +kernel
theorem dX7_routed_20 : decode cX7_routed 20 = .ok (.getfield 101, 3) := by decide +kernel
theorem dX7_routed_23 : decode cX7_routed 23 = .ok (.if_icmp .ge 15, 3) := by decide +kernel
theorem dX7_routed_26 : decode cX7_routed 26 = .ok (.aload_n 0, 1) := by decide +kernel
theorem dX7_routed_27 : decode cX7_routed 27 = .ok (.getfield 32, 3) := by decide +kernel
theorem dX7_routed_30 : decode cX7_routed 30 = .ok (.iload_n 1, 1) := by decide +kernel
theorem dX7_routed_31 : decode cX7_routed 31 = .ok (.bipush 10, 2) := by decide +kernel
theorem dX7_routed_33 : decode cX7_routed 33 = .ok (.isub, 1) := by decide +kernel
theorem dX7_routed_34 : decode cX7_routed 34 = .ok (.iaload, 1) := by decide +kernel
theorem dX7_routed_35 : decode cX7_routed 35 = .ok (.goto 4, 3) := by decide +kernel
theorem dX7_routed_38 : decode cX7_routed 38 = .ok (.iconst (-1), 1) := by decide +kernel
theorem dX7_routed_39 : decode cX7_routed 39 = .ok (.ireturn, 1) := by decide +kernel
theorem dX7_routed_40 : decode cX7_routed 40 = .ok (.aload_n 0, 1) := by decide +kernel
theorem dX7_routed_41 : decode cX7_routed 41 = .ok (.aload_n 0, 1) := by decide +kernel
theorem dX7_routed_42 : decode cX7_routed 42 = .ok (.getfield 98, 3) := by decide +kernel
theorem dX7_routed_45 : decode cX7_routed 45 = .ok (.aload_n 0, 1) := by decide +kernel
theorem dX7_routed_46 : decode cX7_routed 46 = .ok (.getfield 154, 3) := by decide +kernel
theorem dX7_routed_49 : decode cX7_routed 49 = .ok (.aload_n 0, 1) := by decide +kernel
theorem dX7_routed_50 : decode cX7_routed 50 = .ok (.getfield 32, 3) := by decide +kernel
theorem dX7_routed_53 : decode cX7_routed 53 = .ok (.iconst 0, 1) := by decide +kernel
theorem dX7_routed_54 : decode cX7_routed 54 = .ok (.aload_n 0, 1) := by decide +kernel
theorem dX7_routed_55 : decode cX7_routed 55 = .ok (.getfield 101, 3) := by decide +kernel
theorem dX7_routed_58 : decode cX7_routed 58 = .ok (.invokevirtual 157, 3) := by decide +kernel
theorem dX7_routed_61 : decode cX7_routed 61 = .ok (.pop, 1) := by decide +kernel
theorem dX7_routed_62 : decode cX7_routed 62 = .ok (.iload_n 1, 1) := by decide +kernel
theorem dX7_routed_63 : decode cX7_routed 63 = .ok (.ifCond .ne 10, 3) := by decide +kernel
theorem dX7_routed_66 : decode cX7_routed 66 = .ok (.aload_n 0, 1) := by decide +kernel
theorem dX7_routed_67 : decode cX7_routed 67 = .ok (.getfield 101, 3) := by decide +kernel
theorem dX7_routed_70 : decode cX7_routed 70 = .ok (.goto 38, 3) := by decide +kernel
theorem dX7_routed_73 : decode cX7_routed 73 = .ok (.iload_n 1, 1) := by decide +kernel
theorem dX7_routed_74 : decode cX7_routed 74 = .ok (.iconst 1, 1) := by decide +kernel
theorem dX7_routed_75 : decode cX7_routed 75 = .ok (.if_icmp .ne 15, 3) := by decide +kernel
theorem dX7_routed_78 : decode cX7_routed 78 = .ok (.aload_n 0, 1) := by decide +kernel
theorem dX7_routed_79 : decode cX7_routed 79 = .ok (.getfield 62, 3) := by decide +kernel
theorem dX7_routed_82 : decode cX7_routed 82 = .ok (.aload_n 0, 1) := by decide +kernel
theorem dX7_routed_83 : decode cX7_routed 83 = .ok (.getfield 101, 3) := by decide +kernel
theorem dX7_routed_86 : decode cX7_routed 86 = .ok (.iaload, 1) := by decide +kernel
theorem dX7_routed_87 : decode cX7_routed 87 = .ok (.goto 21, 3) := by decide +kernel
theorem dX7_routed_90 : decode cX7_routed 90 = .ok (.iload_n 1, 1) := by decide +kernel
theorem dX7_routed_91 : decode cX7_routed 91 = .ok (.iconst 2, 1) := by decide +kernel
theorem dX7_routed_92 : decode cX7_routed 92 = .ok (.if_icmp .ne 15, 3) := by decide +kernel
theorem dX7_routed_95 : decode cX7_routed 95 = .ok (.aload_n 0, 1) := by decide +kernel
theorem dX7_routed_96 : decode cX7_routed 96 = .ok (.getfield 65, 3) := by decide +kernel
theorem dX7_routed_99 : decode cX7_routed 99 = .ok (.aload_n 0, 1) := by decide +kernel
theorem dX7_routed_100 : decode cX7_routed 100 = .ok (.getfield 101, 3) := by decide +kernel
theorem dX7_routed_103 : decode cX7_routed 103 = .ok (.iaload, 1) := by decide +kernel
theorem dX7_routed_104 : decode cX7_routed 104 = .ok (.goto 4, 3) := by decide +kernel
theorem dX7_routed_107 : decode cX7_routed 107 = .ok (.iconst (-1), 1) := by decide +kernel
theorem dX7_routed_108 : decode cX7_routed 108 = .ok (.ireturn, 1) := by decide +kernel
theorem dX7_along_0 : decode cX7_along 0 = .ok (.aload_n 0, 1) := by decide +kernel
theorem dX7_along_1 : decode cX7_along 1 = .ok (.aload_n 0, 1) := by decide +kernel
theorem dX7_along_2 : decode cX7_along 2 = .ok (.getfield 62, 3) := by decide +kernel
theorem dX7_along_5 : decode cX7_along 5 = .ok (.iload_n 1, 1) := by decide +kernel
theorem dX7_along_6 : decode cX7_along 6 = .ok (.iaload, 1) := by decide +kernel
theorem dX7_along_7 : decode cX7_along 7 = .ok (.putfield 115, 3) := by decide +kernel
theorem dX7_along_10 : decode cX7_along 10 = .ok (.aload_n 0, 1) := by decide +kernel
theorem dX7_along_11 : decode cX7_along 11 = .ok (.aload_n 0, 1) := by decide +kernel
theorem dX7_along_12 : decode cX7_along 12 = .ok (.getfield 65, 3) := by decide +kernel
theorem dX7_along_15 : decode cX7_along 15 = .ok (.iload_n 1, 1) := by decide +kernel
theorem dX7_along_16 : decode cX7_along 16 = .ok (.iaload, 1) := by decide +kernel
theorem dX7_along_17 : decode cX7_along 17 = .ok (.putfield 121, 3) := by decide +kernel
theorem dX7_along_20 : decode cX7_along 20 = .ok (.aload_n 0, 1) := by decide +kernel
theorem dX7_along_21 : decode cX7_along 21 = .ok (.iload_n 2, 1) := by decide +kernel
theorem dX7_along_22 : decode cX7_along 22 = .ok (.iload_n 3, 1) := by decide +kernel
theorem dX7_along_23 : decode cX7_along 23 = .ok (.iconst 0, 1) := by decide +kernel
theorem dX7_along_24 : decode cX7_along 24 = .ok (.invokevirtual 145, 3) := by decide +kernel
theorem dX7_along_27 : decode cX7_along 27 = .ok (.ifCond .eq 16, 3) := by decide +kernel
theorem dX7_along_30 : decode cX7_along 30 = .ok (.iload_n 1, 1) := by decide +kernel
theorem dX7_along_31 : decode cX7_along 31 = .ok (.aload_n 0, 1) := by decide +kernel
theorem dX7_along_32 : decode cX7_along 32 = .ok (.getfield 118, 3) := by decide +kernel
theorem dX7_along_35 : decode cX7_along 35 = .ok (.iadd, 1) := by decide +kernel
theorem dX7_along_36 : decode cX7_along 36 = .ok (.aload_n 0, 1) := by decide +kernel
theorem dX7_along_37 : decode cX7_along 37 = .ok (.getfield 101, 3) := by decide +kernel
theorem dX7_along_40 : decode cX7_along 40 = .ok (.if_icmp .le 5, 3) := by decide +kernel
theorem dX7_along_43 : decode cX7_along 43 = .ok (.iconst (-1), 1) := by decide +kernel
theorem dX7_along_44 : decode cX7_along 44 = .ok (.ireturn, 1) := by decide +kernel
theorem dX7_along_45 : decode cX7_along 45 = .ok (.iconst 0, 1) := by decide +kernel
theorem dX7_along_46 : decode cX7_along 46 = .ok (.istore 4, 2) := by decide +kernel
theorem dX7_along_48 : decode cX7_along 48 = .ok (.iload 4, 2) := by decide +kernel
theorem dX7_along_50 : decode cX7_along 50 = .ok (.aload_n 0, 1) := by decide +kernel
theorem dX7_along_51 : decode cX7_along 51 = .ok (.getfield 118, 3) := by decide +kernel
theorem dX7_along_54 : decode cX7_along 54 = .ok (.if_icmp .ge 30, 3) := by decide +kernel
theorem dX7_along_57 : decode cX7_along 57 = .ok (.aload_n 0, 1) := by decide +kernel
theorem dX7_along_58 : decode cX7_along 58 = .ok (.getfield 59, 3) := by decide +kernel
theorem dX7_along_61 : decode cX7_along 61 = .ok (.iload 4, 2) := by decide +kernel
theorem dX7_along_63 : decode cX7_along 63 = .ok (.iaload, 1) := by decide +kernel
theorem dX7_along_64 : decode cX7_along 64 = .ok (.aload_n 0, 1) := by decide +kernel
theorem dX7_along_65 : decode cX7_along 65 = .ok (.getfield 32, 3) := by decide +kernel
theorem dX7_along_68 : decode cX7_along 68 = .ok (.iload_n 1, 1) := by decide +kernel
theorem dX7_along_69 : decode cX7_along 69 = .ok (.iload 4, 2) := by decide +kernel
theorem dX7_along_71 : decode cX7_along 71 = .ok (.iadd, 1) := by decide +kernel
theorem dX7_along_72 : decode cX7_along 72 = .ok (.iaload, 1) := by decide +kernel
theorem dX7_along_73 : decode cX7_along 73 = .ok (.if_icmp .eq 5, 3) := by decide +kernel
theorem dX7_along_76 : decode cX7_along 76 = .ok (.iconst (-1), 1) := by decide +kernel
theorem dX7_along_77 : decode cX7_along 77 = .ok (.ireturn, 1) := by decide +kernel
theorem dX7_along_78 : decode cX7_along 78 = .ok (.iinc 4 1, 3) := by decide +kernel
theorem dX7_along_81 : decode cX7_along 81 = .ok (.goto (-33), 3) := by decide +kernel
theorem dX7_along_84 : decode cX7_along 84 = .ok (.iload_n 1, 1) := by decide +kernel
theorem dX7_along_85 : decode cX7_along 85 = .ok (.aload_n 0, 1) := by decide +kernel
theorem dX7_along_86 : decode cX7_along 86 = .ok (.getfield 118, 3) := by decide +kernel
theorem dX7_along_89 : decode cX7_along 89 = .ok (.iadd, 1) := by decide +kernel
theorem dX7_along_90 : decode cX7_along 90 = .ok (.ireturn, 1) := by decide +kernel
theorem dX7_isAllowed_0 : decode cX7_isAllowed 0 = .ok (.aload_n 0, 1) := by decide +kernel
theorem dX7_isAllowed_1 : decode cX7_isAllowed 1 = .ok (.getfield 22, 3) := by decide +kernel
theorem dX7_isAllowed_4 : decode cX7_isAllowed 4 = .ok (.iload_n 1, 1) := by decide +kernel
theorem dX7_isAllowed_5 : decode cX7_isAllowed 5 = .ok (.ishr, 1) := by decide +kernel
theorem dX7_isAllowed_6 : decode cX7_isAllowed 6 = .ok (.iconst 1, 1) := by decide +kernel
theorem dX7_isAllowed_7 : decode cX7_isAllowed 7 = .ok (.iand, 1) := by decide +kernel
theorem dX7_isAllowed_8 : decode cX7_isAllowed 8 = .ok (.iconst 1, 1) := by decide +kernel
theorem dX7_isAllowed_9 : decode cX7_isAllowed 9 = .ok (.if_icmp .ne 7, 3) := by decide +kernel
theorem dX7_isAllowed_12 : decode cX7_isAllowed 12 = .ok (.iconst 1, 1) := by decide +kernel
theorem dX7_isAllowed_13 : decode cX7_isAllowed 13 = .ok (.goto 4, 3) := by decide +kernel
theorem dX7_isAllowed_16 : decode cX7_isAllowed 16 = .ok (.iconst 0, 1) := by decide +kernel
theorem dX7_isAllowed_17 : decode cX7_isAllowed 17 = .ok (.ireturn, 1) := by decide +kernel
theorem dX7_offer_0 : decode cX7_offer 0 = .ok (.iload_n 2, 1) := by decide +kernel
theorem dX7_offer_1 : decode cX7_offer 1 = .ok (.aload_n 0, 1) := by decide +kernel
theorem dX7_offer_2 : decode cX7_offer 2 = .ok (.getfield 71, 3) := by decide +kernel
theorem dX7_offer_5 : decode cX7_offer 5 = .ok (.iload_n 1, 1) := by decide +kernel
theorem dX7_offer_6 : decode cX7_offer 6 = .ok (.iaload, 1) := by decide +kernel
theorem dX7_offer_7 : decode cX7_offer 7 = .ok (.if_icmp .gt 23, 3) := by decide +kernel
theorem dX7_offer_10 : decode cX7_offer 10 = .ok (.iload_n 2, 1) := by decide +kernel
theorem dX7_offer_11 : decode cX7_offer 11 = .ok (.aload_n 0, 1) := by decide +kernel
theorem dX7_offer_12 : decode cX7_offer 12 = .ok (.getfield 71, 3) := by decide +kernel
theorem dX7_offer_15 : decode cX7_offer 15 = .ok (.iload_n 1, 1) := by decide +kernel
theorem dX7_offer_16 : decode cX7_offer 16 = .ok (.iaload, 1) := by decide +kernel
theorem dX7_offer_17 : decode cX7_offer 17 = .ok (.if_icmp .ne 14, 3) := by decide +kernel
theorem dX7_offer_20 : decode cX7_offer 20 = .ok (.iload_n 3, 1) := by decide +kernel
theorem dX7_offer_21 : decode cX7_offer 21 = .ok (.aload_n 0, 1) := by decide +kernel
theorem dX7_offer_22 : decode cX7_offer 22 = .ok (.getfield 74, 3) := by decide +kernel
theorem dX7_offer_25 : decode cX7_offer 25 = .ok (.iload_n 1, 1) := by decide +kernel
theorem dX7_offer_26 : decode cX7_offer 26 = .ok (.iaload, 1) := by decide +kernel
theorem dX7_offer_27 : decode cX7_offer 27 = .ok (.if_icmp .lt 4, 3) := by decide +kernel
theorem dX7_offer_30 : decode cX7_offer 30 = .ok (.return_, 1) := by decide +kernel
theorem dX7_offer_31 : decode cX7_offer 31 = .ok (.aload_n 0, 1) := by decide +kernel
theorem dX7_offer_32 : decode cX7_offer 32 = .ok (.getfield 71, 3) := by decide +kernel
theorem dX7_offer_35 : decode cX7_offer 35 = .ok (.iload_n 1, 1) := by decide +kernel
theorem dX7_offer_36 : decode cX7_offer 36 = .ok (.iload_n 2, 1) := by decide +kernel
theorem dX7_offer_37 : decode cX7_offer 37 = .ok (.iastore, 1) := by decide +kernel
theorem dX7_offer_38 : decode cX7_offer 38 = .ok (.aload_n 0, 1) := by decide +kernel
theorem dX7_offer_39 : decode cX7_offer 39 = .ok (.getfield 74, 3) := by decide +kernel
theorem dX7_offer_42 : decode cX7_offer 42 = .ok (.iload_n 1, 1) := by decide +kernel
theorem dX7_offer_43 : decode cX7_offer 43 = .ok (.iload_n 3, 1) := by decide +kernel
theorem dX7_offer_44 : decode cX7_offer 44 = .ok (.iastore, 1) := by decide +kernel
theorem dX7_offer_45 : decode cX7_offer 45 = .ok (.aload_n 0, 1) := by decide +kernel
theorem dX7_offer_46 : decode cX7_offer 46 = .ok (.getfield 77, 3) := by decide +kernel
theorem dX7_offer_49 : decode cX7_offer 49 = .ok (.iload_n 1, 1) := by decide +kernel
theorem dX7_offer_50 : decode cX7_offer 50 = .ok (.iload 4, 2) := by decide +kernel
theorem dX7_offer_52 : decode cX7_offer 52 = .ok (.iastore, 1) := by decide +kernel
theorem dX7_offer_53 : decode cX7_offer 53 = .ok (.aload_n 0, 1) := by decide +kernel
theorem dX7_offer_54 : decode cX7_offer 54 = .ok (.getfield 80, 3) := by decide +kernel
theorem dX7_offer_57 : decode cX7_offer 57 = .ok (.iload_n 1, 1) := by decide +kernel
theorem dX7_offer_58 : decode cX7_offer 58 = .ok (.iload 5, 2) := by decide +kernel
theorem dX7_offer_60 : decode cX7_offer 60 = .ok (.iastore, 1) := by decide +kernel
theorem dX7_offer_61 : decode cX7_offer 61 = .ok (.return_, 1) := by decide +kernel
theorem dX7_tell_0 : decode cX7_tell 0 = .ok (.aload_n 0, 1) := by decide +kernel
theorem dX7_tell_1 : decode cX7_tell 1 = .ok (.getfield 104, 3) := by decide +kernel
theorem dX7_tell_4 : decode cX7_tell 4 = .ok (.ifCond .ne 5, 3) := by decide +kernel
theorem dX7_tell_7 : decode cX7_tell 7 = .ok (.iconst (-1), 1) := by decide +kernel
theorem dX7_tell_8 : decode cX7_tell 8 = .ok (.ireturn, 1) := by decide +kernel
theorem dX7_tell_9 : decode cX7_tell 9 = .ok (.aload_n 0, 1) := by decide +kernel
theorem dX7_tell_10 : decode cX7_tell 10 = .ok (.aload_n 0, 1) := by decide +kernel
theorem dX7_tell_11 : decode cX7_tell 11 = .ok (.getfield 98, 3) := by decide +kernel
theorem dX7_tell_14 : decode cX7_tell 14 = .ok (.aload_n 0, 1) := by decide +kernel
theorem dX7_tell_15 : decode cX7_tell 15 = .ok (.getfield 154, 3) := by decide +kernel
theorem dX7_tell_18 : decode cX7_tell 18 = .ok (.aload_n 0, 1) := by decide +kernel
theorem dX7_tell_19 : decode cX7_tell 19 = .ok (.getfield 32, 3) := by decide +kernel
theorem dX7_tell_22 : decode cX7_tell 22 = .ok (.iconst 0, 1) := by decide +kernel
theorem dX7_tell_23 : decode cX7_tell 23 = .ok (.aload_n 0, 1) := by decide +kernel
theorem dX7_tell_24 : decode cX7_tell 24 = .ok (.getfield 101, 3) := by decide +kernel
theorem dX7_tell_27 : decode cX7_tell 27 = .ok (.invokevirtual 157, 3) := by decide +kernel
theorem dX7_tell_30 : decode cX7_tell 30 = .ok (.pop, 1) := by decide +kernel
theorem dX7_tell_31 : decode cX7_tell 31 = .ok (.aload_n 0, 1) := by decide +kernel
theorem dX7_tell_32 : decode cX7_tell 32 = .ok (.getfield 71, 3) := by decide +kernel
theorem dX7_tell_35 : decode cX7_tell 35 = .ok (.aload_n 0, 1) := by decide +kernel
theorem dX7_tell_36 : decode cX7_tell 36 = .ok (.getfield 101, 3) := by decide +kernel
theorem dX7_tell_39 : decode cX7_tell 39 = .ok (.iconst 0, 1) := by decide +kernel
theorem dX7_tell_40 : decode cX7_tell 40 = .ok (.iastore, 1) := by decide +kernel
theorem dX7_tell_41 : decode cX7_tell 41 = .ok (.aload_n 0, 1) := by decide +kernel
theorem dX7_tell_42 : decode cX7_tell 42 = .ok (.getfield 74, 3) := by decide +kernel
theorem dX7_tell_45 : decode cX7_tell 45 = .ok (.aload_n 0, 1) := by decide +kernel
theorem dX7_tell_46 : decode cX7_tell 46 = .ok (.getfield 101, 3) := by decide +kernel
theorem dX7_tell_49 : decode cX7_tell 49 = .ok (.iconst 0, 1) := by decide +kernel
theorem dX7_tell_50 : decode cX7_tell 50 = .ok (.iastore, 1) := by decide +kernel
theorem dX7_tell_51 : decode cX7_tell 51 = .ok (.aload_n 0, 1) := by decide +kernel
theorem dX7_tell_52 : decode cX7_tell 52 = .ok (.getfield 101, 3) := by decide +kernel
theorem dX7_tell_55 : decode cX7_tell 55 = .ok (.iconst 1, 1) := by decide +kernel
theorem dX7_tell_56 : decode cX7_tell 56 = .ok (.isub, 1) := by decide +kernel
theorem dX7_tell_57 : decode cX7_tell 57 = .ok (.istore_n 1, 1) := by decide +kernel
theorem dX7_tell_58 : decode cX7_tell 58 = .ok (.iload_n 1, 1) := by decide +kernel
theorem dX7_tell_59 : decode cX7_tell 59 = .ok (.ifCond .lt 127, 3) := by decide +kernel
theorem dX7_tell_62 : decode cX7_tell 62 = .ok (.aload_n 0, 1) := by decide +kernel
theorem dX7_tell_63 : decode cX7_tell 63 = .ok (.getfield 71, 3) := by decide +kernel
theorem dX7_tell_66 : decode cX7_tell 66 = .ok (.iload_n 1, 1) := by decide +kernel
theorem dX7_tell_67 : decode cX7_tell 67 = .ok (.ldc 161, 2) := by decide +kernel
theorem dX7_tell_69 : decode cX7_tell 69 = .ok (.iastore, 1) := by decide +kernel
theorem dX7_tell_70 : decode cX7_tell 70 = .ok (.iconst 0, 1) := by decide +kernel
theorem dX7_tell_71 : decode cX7_tell 71 = .ok (.istore_n 2, 1) := by decide +kernel
theorem dX7_tell_72 : decode cX7_tell 72 = .ok (.iload_n 2, 1) := by decide +kernel
theorem dX7_tell_73 : decode cX7_tell 73 = .ok (.bipush 9, 2) := by decide +kernel
theorem dX7_tell_75 : decode cX7_tell 75 = .ok (.if_icmp .ge 105, 3) := by decide +kernel
theorem dX7_tell_78 : decode cX7_tell 78 = .ok (.iload_n 2, 1) := by decide +kernel
theorem dX7_tell_79 : decode cX7_tell 79 = .ok (.invokestatic 111, 3) := by decide +kernel
theorem dX7_tell_82 : decode cX7_tell 82 = .ok (.ifCond .le 7, 3) := by decide +kernel
theorem dX7_tell_85 : decode cX7_tell 85 = .ok (.iconst 1, 1) := by decide +kernel
theorem dX7_tell_86 : decode cX7_tell 86 = .ok (.goto 4, 3) := by decide +kernel
theorem dX7_tell_89 : decode cX7_tell 89 = .ok (.iconst 0, 1) := by decide +kernel
theorem dX7_tell_90 : decode cX7_tell 90 = .ok (.istore_n 3, 1) := by decide +kernel
theorem dX7_tell_91 : decode cX7_tell 91 = .ok (.iload_n 3, 1) := by decide +kernel
theorem dX7_tell_92 : decode cX7_tell 92 = .ok (.iload_n 2, 1) := by decide +kernel
theorem dX7_tell_93 : decode cX7_tell 93 = .ok (.invokestatic 111, 3) := by decide +kernel
theorem dX7_tell_96 : decode cX7_tell 96 = .ok (.if_icmp .gt 78, 3) := by decide +kernel
theorem dX7_tell_99 : decode cX7_tell 99 = .ok (.aload_n 0, 1) := by decide +kernel
theorem dX7_tell_100 : decode cX7_tell 100 = .ok (.iload_n 2, 1) := by decide +kernel
theorem dX7_tell_101 : decode cX7_tell 101 = .ok (.invokevirtual 162, 3) := by decide +kernel
theorem dX7_tell_104 : decode cX7_tell 104 = .ok (.ifCond .eq 13, 3) := by decide +kernel
theorem dX7_tell_107 : decode cX7_tell 107 = .ok (.aload_n 0, 1) := by decide +kernel
theorem dX7_tell_108 : decode cX7_tell 108 = .ok (.iload_n 1, 1) := by decide +kernel
theorem dX7_tell_109 : decode cX7_tell 109 = .ok (.iload_n 2, 1) := by decide +kernel
theorem dX7_tell_110 : decode cX7_tell 110 = .ok (.iload_n 3, 1) := by decide +kernel
theorem dX7_tell_111 : decode cX7_tell 111 = .ok (.invokevirtual 165, 3) := by decide +kernel
theorem dX7_tell_114 : decode cX7_tell 114 = .ok (.goto 4, 3) := by decide +kernel
theorem dX7_tell_117 : decode cX7_tell 117 = .ok (.iconst (-1), 1) := by decide +kernel
theorem dX7_tell_118 : decode cX7_tell 118 = .ok (.istore 4, 2) := by decide +kernel
theorem dX7_tell_120 : decode cX7_tell 120 = .ok (.iload 4, 2) := by decide +kernel
theorem dX7_tell_122 : decode cX7_tell 122 = .ok (.iconst (-1), 1) := by decide +kernel
theorem dX7_tell_123 : decode cX7_tell 123 = .ok (.if_icmp .eq 45, 3) := by decide +kernel
theorem dX7_tell_126 : decode cX7_tell 126 = .ok (.aload_n 0, 1) := by decide +kernel
theorem dX7_tell_127 : decode cX7_tell 127 = .ok (.getfield 71, 3) := by decide +kernel
theorem dX7_tell_130 : decode cX7_tell 130 = .ok (.iload 4, 2) := by decide +kernel
theorem dX7_tell_132 : decode cX7_tell 132 = .ok (.iaload, 1) := by decide +kernel
theorem dX7_tell_133 : decode cX7_tell 133 = .ok (.ldc 161, 2) := by decide +kernel
theorem dX7_tell_135 : decode cX7_tell 135 = .ok (.if_icmp .ge 33, 3) := by decide +kernel
theorem dX7_tell_138 : decode cX7_tell 138 = .ok (.aload_n 0, 1) := by decide +kernel
theorem dX7_tell_139 : decode cX7_tell 139 = .ok (.iload_n 1, 1) := by decide +kernel
theorem dX7_tell_140 : decode cX7_tell 140 = .ok (.aload_n 0, 1) := by decide +kernel
theorem dX7_tell_141 : decode cX7_tell 141 = .ok (.getfield 19, 3) := by decide +kernel
theorem dX7_tell_144 : decode cX7_tell 144 = .ok (.iload_n 2, 1) := by decide +kernel
theorem dX7_tell_145 : decode cX7_tell 145 = .ok (.iaload, 1) := by decide +kernel
theorem dX7_tell_146 : decode cX7_tell 146 = .ok (.aload_n 0, 1) := by decide +kernel
theorem dX7_tell_147 : decode cX7_tell 147 = .ok (.getfield 71, 3) := by decide +kernel
theorem dX7_tell_150 : decode cX7_tell 150 = .ok (.iload 4, 2) := by decide +kernel
theorem dX7_tell_152 : decode cX7_tell 152 = .ok (.iaload, 1) := by decide +kernel
theorem dX7_tell_153 : decode cX7_tell 153 = .ok (.iadd, 1) := by decide +kernel
theorem dX7_tell_154 : decode cX7_tell 154 = .ok (.iconst 1, 1) := by decide +kernel
theorem dX7_tell_155 : decode cX7_tell 155 = .ok (.aload_n 0, 1) := by decide +kernel
theorem dX7_tell_156 : decode cX7_tell 156 = .ok (.getfield 74, 3) := by decide +kernel
theorem dX7_tell_159 : decode cX7_tell 159 = .ok (.iload 4, 2) := by decide +kernel
theorem dX7_tell_161 : decode cX7_tell 161 = .ok (.iaload, 1) := by decide +kernel
theorem dX7_tell_162 : decode cX7_tell 162 = .ok (.iadd, 1) := by decide +kernel
theorem dX7_tell_163 : decode cX7_tell 163 = .ok (.iload_n 2, 1) := by decide +kernel
theorem dX7_tell_164 : decode cX7_tell 164 = .ok (.iload_n 3, 1) := by decide +kernel
theorem dX7_tell_165 : decode cX7_tell 165 = .ok (.invokevirtual 169, 3) := by decide +kernel
theorem dX7_tell_168 : decode cX7_tell 168 = .ok (.iinc 3 1, 3) := by decide +kernel
theorem dX7_tell_171 : decode cX7_tell 171 = .ok (.goto (-80), 3) := by decide +kernel
theorem dX7_tell_174 : decode cX7_tell 174 = .ok (.iinc 2 1, 3) := by decide +kernel
theorem dX7_tell_177 : decode cX7_tell 177 = .ok (.goto (-105), 3) := by decide +kernel
theorem dX7_tell_180 : decode cX7_tell 180 = .ok (.iinc 1 (-1), 3) := by decide +kernel
theorem dX7_tell_183 : decode cX7_tell 183 = .ok (.goto (-125), 3) := by decide +kernel
theorem dX7_tell_186 : decode cX7_tell 186 = .ok (.aload_n 0, 1) := by decide +kernel
theorem dX7_tell_187 : decode cX7_tell 187 = .ok (.getfield 71, 3) := by decide +kernel
theorem dX7_tell_190 : decode cX7_tell 190 = .ok (.iconst 0, 1) := by decide +kernel
theorem dX7_tell_191 : decode cX7_tell 191 = .ok (.iaload, 1) := by decide +kernel
theorem dX7_tell_192 : decode cX7_tell 192 = .ok (.ldc 161, 2) := by decide +kernel
theorem dX7_tell_194 : decode cX7_tell 194 = .ok (.if_icmp .lt 5, 3) := by decide +kernel
theorem dX7_tell_197 : decode cX7_tell 197 = .ok (.iconst (-1), 1) := by decide +kernel
theorem dX7_tell_198 : decode cX7_tell 198 = .ok (.ireturn, 1) := by decide +kernel
theorem dX7_tell_199 : decode cX7_tell 199 = .ok (.aload_n 0, 1) := by decide +kernel
theorem dX7_tell_200 : decode cX7_tell 200 = .ok (.iconst 0, 1) := by decide +kernel
theorem dX7_tell_201 : decode cX7_tell 201 = .ok (.putfield 136, 3) := by decide +kernel
theorem dX7_tell_204 : decode cX7_tell 204 = .ok (.iconst 0, 1) := by decide +kernel
theorem dX7_tell_205 : decode cX7_tell 205 = .ok (.istore_n 1, 1) := by decide +kernel
theorem dX7_tell_206 : decode cX7_tell 206 = .ok (.iload_n 1, 1) := by decide +kernel
theorem dX7_tell_207 : decode cX7_tell 207 = .ok (.aload_n 0, 1) := by decide +kernel
theorem dX7_tell_208 : decode cX7_tell 208 = .ok (.getfield 101, 3) := by decide +kernel
theorem dX7_tell_211 : decode cX7_tell 211 = .ok (.if_icmp .ge 64, 3) := by decide +kernel
theorem dX7_tell_214 : decode cX7_tell 214 = .ok (.aload_n 0, 1) := by decide +kernel
theorem dX7_tell_215 : decode cX7_tell 215 = .ok (.getfield 26, 3) := by decide +kernel
theorem dX7_tell_218 : decode cX7_tell 218 = .ok (.aload_n 0, 1) := by decide +kernel
theorem dX7_tell_219 : decode cX7_tell 219 = .ok (.getfield 136, 3) := by decide +kernel
theorem dX7_tell_222 : decode cX7_tell 222 = .ok (.aload_n 0, 1) := by decide +kernel
theorem dX7_tell_223 : decode cX7_tell 223 = .ok (.getfield 77, 3) := by decide +kernel
theorem dX7_tell_226 : decode cX7_tell 226 = .ok (.iload_n 1, 1) := by decide +kernel
theorem dX7_tell_227 : decode cX7_tell 227 = .ok (.iaload, 1) := by decide +kernel
theorem dX7_tell_228 : decode cX7_tell 228 = .ok (.iastore, 1) := by decide +kernel
theorem dX7_tell_229 : decode cX7_tell 229 = .ok (.aload_n 0, 1) := by decide +kernel
theorem dX7_tell_230 : decode cX7_tell 230 = .ok (.getfield 29, 3) := by decide +kernel
theorem dX7_tell_233 : decode cX7_tell 233 = .ok (.aload_n 0, 1) := by decide +kernel
theorem dX7_tell_234 : decode cX7_tell 234 = .ok (.getfield 136, 3) := by decide +kernel
theorem dX7_tell_237 : decode cX7_tell 237 = .ok (.aload_n 0, 1) := by decide +kernel
theorem dX7_tell_238 : decode cX7_tell 238 = .ok (.getfield 80, 3) := by decide +kernel
theorem dX7_tell_241 : decode cX7_tell 241 = .ok (.iload_n 1, 1) := by decide +kernel
theorem dX7_tell_242 : decode cX7_tell 242 = .ok (.iaload, 1) := by decide +kernel
theorem dX7_tell_243 : decode cX7_tell 243 = .ok (.iastore, 1) := by decide +kernel
theorem dX7_tell_244 : decode cX7_tell 244 = .ok (.aload_n 0, 1) := by decide +kernel
theorem dX7_tell_245 : decode cX7_tell 245 = .ok (.dup, 1) := by decide +kernel
theorem dX7_tell_246 : decode cX7_tell 246 = .ok (.getfield 136, 3) := by decide +kernel
theorem dX7_tell_249 : decode cX7_tell 249 = .ok (.iconst 1, 1) := by decide +kernel
theorem dX7_tell_250 : decode cX7_tell 250 = .ok (.iadd, 1) := by decide +kernel
theorem dX7_tell_251 : decode cX7_tell 251 = .ok (.putfield 136, 3) := by decide +kernel
theorem dX7_tell_254 : decode cX7_tell 254 = .ok (.aload_n 0, 1) := by decide +kernel
theorem dX7_tell_255 : decode cX7_tell 255 = .ok (.iload_n 1, 1) := by decide +kernel
theorem dX7_tell_256 : decode cX7_tell 256 = .ok (.aload_n 0, 1) := by decide +kernel
theorem dX7_tell_257 : decode cX7_tell 257 = .ok (.getfield 77, 3) := by decide +kernel
theorem dX7_tell_260 : decode cX7_tell 260 = .ok (.iload_n 1, 1) := by decide +kernel
theorem dX7_tell_261 : decode cX7_tell 261 = .ok (.iaload, 1) := by decide +kernel
theorem dX7_tell_262 : decode cX7_tell 262 = .ok (.aload_n 0, 1) := by decide +kernel
theorem dX7_tell_263 : decode cX7_tell 263 = .ok (.getfield 80, 3) := by decide +kernel
theorem dX7_tell_266 : decode cX7_tell 266 = .ok (.iload_n 1, 1) := by decide +kernel
theorem dX7_tell_267 : decode cX7_tell 267 = .ok (.iaload, 1) := by decide +kernel
theorem dX7_tell_268 : decode cX7_tell 268 = .ok (.invokevirtual 165, 3) := by decide +kernel
theorem dX7_tell_271 : decode cX7_tell 271 = .ok (.istore_n 1, 1) := by decide +kernel
theorem dX7_tell_272 : decode cX7_tell 272 = .ok (.goto (-66), 3) := by decide +kernel
theorem dX7_tell_275 : decode cX7_tell 275 = .ok (.aload_n 0, 1) := by decide +kernel
theorem dX7_tell_276 : decode cX7_tell 276 = .ok (.getfield 71, 3) := by decide +kernel
theorem dX7_tell_279 : decode cX7_tell 279 = .ok (.iconst 0, 1) := by decide +kernel
theorem dX7_tell_280 : decode cX7_tell 280 = .ok (.iaload, 1) := by decide +kernel
theorem dX7_tell_281 : decode cX7_tell 281 = .ok (.ireturn, 1) := by decide +kernel
theorem dX7_tells_0 : decode cX7_tells 0 = .ok (.aload_n 0, 1) := by decide +kernel
theorem dX7_tells_1 : decode cX7_tells 1 = .ok (.iload_n 1, 1) := by decide +kernel
theorem dX7_tells_2 : decode cX7_tells 2 = .ok (.iload_n 2, 1) := by decide +kernel
theorem dX7_tells_3 : decode cX7_tells 3 = .ok (.aload_n 3, 1) := by decide +kernel
theorem dX7_tells_4 : decode cX7_tells 4 = .ok (.iload 4, 2) := by decide +kernel
theorem dX7_tells_6 : decode cX7_tells 6 = .ok (.iload 5, 2) := by decide +kernel
theorem dX7_tells_8 : decode cX7_tells 8 = .ok (.invokevirtual 157, 3) := by decide +kernel
theorem dX7_tells_11 : decode cX7_tells 11 = .ok (.ifCond .ne 5, 3) := by decide +kernel
theorem dX7_tells_14 : decode cX7_tells 14 = .ok (.iconst 0, 1) := by decide +kernel
theorem dX7_tells_15 : decode cX7_tells 15 = .ok (.ireturn, 1) := by decide +kernel
theorem dX7_tells_16 : decode cX7_tells 16 = .ok (.iconst 0, 1) := by decide +kernel
theorem dX7_tells_17 : decode cX7_tells 17 = .ok (.istore 10, 2) := by decide +kernel
theorem dX7_tells_19 : decode cX7_tells 19 = .ok (.aload_n 0, 1) := by decide +kernel
theorem dX7_tells_20 : decode cX7_tells 20 = .ok (.iload_n 1, 1) := by decide +kernel
theorem dX7_tells_21 : decode cX7_tells 21 = .ok (.putfield 115, 3) := by decide +kernel
theorem dX7_tells_24 : decode cX7_tells 24 = .ok (.aload_n 0, 1) := by decide +kernel
theorem dX7_tells_25 : decode cX7_tells 25 = .ok (.iload_n 2, 1) := by decide +kernel
theorem dX7_tells_26 : decode cX7_tells 26 = .ok (.putfield 121, 3) := by decide +kernel
theorem dX7_tells_29 : decode cX7_tells 29 = .ok (.iconst 0, 1) := by decide +kernel
theorem dX7_tells_30 : decode cX7_tells 30 = .ok (.istore 11, 2) := by decide +kernel
theorem dX7_tells_32 : decode cX7_tells 32 = .ok (.iload 11, 2) := by decide +kernel
theorem dX7_tells_34 : decode cX7_tells 34 = .ok (.iload 9, 2) := by decide +kernel
theorem dX7_tells_36 : decode cX7_tells 36 = .ok (.if_icmp .ge 96, 3) := by decide +kernel
theorem dX7_tells_39 : decode cX7_tells 39 = .ok (.aload_n 0, 1) := by decide +kernel
theorem dX7_tells_40 : decode cX7_tells 40 = .ok (.aload 6, 2) := by decide +kernel
theorem dX7_tells_42 : decode cX7_tells 42 = .ok (.iload 8, 2) := by decide +kernel
theorem dX7_tells_44 : decode cX7_tells 44 = .ok (.iload 11, 2) := by decide +kernel
theorem dX7_tells_46 : decode cX7_tells 46 = .ok (.iadd, 1) := by decide +kernel
theorem dX7_tells_47 : decode cX7_tells 47 = .ok (.iaload, 1) := by decide +kernel
theorem dX7_tells_48 : decode cX7_tells 48 = .ok (.aload 7, 2) := by decide +kernel
theorem dX7_tells_50 : decode cX7_tells 50 = .ok (.iload 8, 2) := by decide +kernel
theorem dX7_tells_52 : decode cX7_tells 52 = .ok (.iload 11, 2) := by decide +kernel
theorem dX7_tells_54 : decode cX7_tells 54 = .ok (.iadd, 1) := by decide +kernel
theorem dX7_tells_55 : decode cX7_tells 55 = .ok (.iaload, 1) := by decide +kernel
theorem dX7_tells_56 : decode cX7_tells 56 = .ok (.iconst 0, 1) := by decide +kernel
theorem dX7_tells_57 : decode cX7_tells 57 = .ok (.invokevirtual 145, 3) := by decide +kernel
theorem dX7_tells_60 : decode cX7_tells 60 = .ok (.ifCond .eq 15, 3) := by decide +kernel
theorem dX7_tells_63 : decode cX7_tells 63 = .ok (.iload 10, 2) := by decide +kernel
theorem dX7_tells_65 : decode cX7_tells 65 = .ok (.aload_n 0, 1) := by decide +kernel
theorem dX7_tells_66 : decode cX7_tells 66 = .ok (.getfield 118, 3) := by decide +kernel
theorem dX7_tells_69 : decode cX7_tells 69 = .ok (.iadd, 1) := by decide +kernel
theorem dX7_tells_70 : decode cX7_tells 70 = .ok (.iload 5, 2) := by decide +kernel
theorem dX7_tells_72 : decode cX7_tells 72 = .ok (.if_icmp .le 5, 3) := by decide +kernel
theorem dX7_tells_75 : decode cX7_tells 75 = .ok (.iconst 0, 1) := by decide +kernel
theorem dX7_tells_76 : decode cX7_tells 76 = .ok (.ireturn, 1) := by decide +kernel
theorem dX7_tells_77 : decode cX7_tells 77 = .ok (.iconst 0, 1) := by decide +kernel
theorem dX7_tells_78 : decode cX7_tells 78 = .ok (.istore 12, 2) := by decide +kernel
theorem dX7_tells_80 : decode cX7_tells 80 = .ok (.iload 12, 2) := by decide +kernel
theorem dX7_tells_82 : decode cX7_tells 82 = .ok (.aload_n 0, 1) := by decide +kernel
theorem dX7_tells_83 : decode cX7_tells 83 = .ok (.getfield 118, 3) := by decide +kernel
theorem dX7_tells_86 : decode cX7_tells 86 = .ok (.if_icmp .ge 31, 3) := by decide +kernel
theorem dX7_tells_89 : decode cX7_tells 89 = .ok (.aload_n 0, 1) := by decide +kernel
theorem dX7_tells_90 : decode cX7_tells 90 = .ok (.getfield 59, 3) := by decide +kernel
theorem dX7_tells_93 : decode cX7_tells 93 = .ok (.iload 12, 2) := by decide +kernel
theorem dX7_tells_95 : decode cX7_tells 95 = .ok (.iaload, 1) := by decide +kernel
theorem dX7_tells_96 : decode cX7_tells 96 = .ok (.aload_n 3, 1) := by decide +kernel
theorem dX7_tells_97 : decode cX7_tells 97 = .ok (.iload 4, 2) := by decide +kernel
theorem dX7_tells_99 : decode cX7_tells 99 = .ok (.iload 10, 2) := by decide +kernel
theorem dX7_tells_101 : decode cX7_tells 101 = .ok (.iadd, 1) := by decide +kernel
theorem dX7_tells_102 : decode cX7_tells 102 = .ok (.iload 12, 2) := by decide +kernel
theorem dX7_tells_104 : decode cX7_tells 104 = .ok (.iadd, 1) := by decide +kernel
theorem dX7_tells_105 : decode cX7_tells 105 = .ok (.iaload, 1) := by decide +kernel
theorem dX7_tells_106 : decode cX7_tells 106 = .ok (.if_icmp .eq 5, 3) := by decide +kernel
theorem dX7_tells_109 : decode cX7_tells 109 = .ok (.iconst 0, 1) := by decide +kernel
theorem dX7_tells_110 : decode cX7_tells 110 = .ok (.ireturn, 1) := by decide +kernel
theorem dX7_tells_111 : decode cX7_tells 111 = .ok (.iinc 12 1, 3) := by decide +kernel
theorem dX7_tells_114 : decode cX7_tells 114 = .ok (.goto (-34), 3) := by decide +kernel
theorem dX7_tells_117 : decode cX7_tells 117 = .ok (.iload 10, 2) := by decide +kernel
theorem dX7_tells_119 : decode cX7_tells 119 = .ok (.aload_n 0, 1) := by decide +kernel
theorem dX7_tells_120 : decode cX7_tells 120 = .ok (.getfield 118, 3) := by decide +kernel
theorem dX7_tells_123 : decode cX7_tells 123 = .ok (.iadd, 1) := by decide +kernel
theorem dX7_tells_124 : decode cX7_tells 124 = .ok (.istore 10, 2) := by decide +kernel
theorem dX7_tells_126 : decode cX7_tells 126 = .ok (.iinc 11 1, 3) := by decide +kernel
theorem dX7_tells_129 : decode cX7_tells 129 = .ok (.goto (-97), 3) := by decide +kernel
theorem dX7_tells_132 : decode cX7_tells 132 = .ok (.iload 10, 2) := by decide +kernel
theorem dX7_tells_134 : decode cX7_tells 134 = .ok (.iload 5, 2) := by decide +kernel
theorem dX7_tells_136 : decode cX7_tells 136 = .ok (.if_icmp .ne 7, 3) := by decide +kernel
theorem dX7_tells_139 : decode cX7_tells 139 = .ok (.iconst 1, 1) := by decide +kernel
theorem dX7_tells_140 : decode cX7_tells 140 = .ok (.goto 4, 3) := by decide +kernel
theorem dX7_tells_143 : decode cX7_tells 143 = .ok (.iconst 0, 1) := by decide +kernel
theorem dX7_tells_144 : decode cX7_tells 144 = .ok (.ireturn, 1) := by decide +kernel
theorem dX7_holds_0 : decode cX7_holds 0 = .ok (.aload_n 0, 1) := by decide +kernel
theorem dX7_holds_1 : decode cX7_holds 1 = .ok (.getfield 104, 3) := by decide +kernel
theorem dX7_holds_4 : decode cX7_holds 4 = .ok (.ifCond .ne 5, 3) := by decide +kernel
theorem dX7_holds_7 : decode cX7_holds 7 = .ok (.iconst (-1), 1) := by decide +kernel
theorem dX7_holds_8 : decode cX7_holds 8 = .ok (.ireturn, 1) := by decide +kernel
theorem dX7_holds_9 : decode cX7_holds 9 = .ok (.aload_n 0, 1) := by decide +kernel
theorem dX7_holds_10 : decode cX7_holds 10 = .ok (.aload_n 0, 1) := by decide +kernel
theorem dX7_holds_11 : decode cX7_holds 11 = .ok (.getfield 98, 3) := by decide +kernel
theorem dX7_holds_14 : decode cX7_holds 14 = .ok (.aload_n 0, 1) := by decide +kernel
theorem dX7_holds_15 : decode cX7_holds 15 = .ok (.getfield 154, 3) := by decide +kernel
theorem dX7_holds_18 : decode cX7_holds 18 = .ok (.aload_n 0, 1) := by decide +kernel
theorem dX7_holds_19 : decode cX7_holds 19 = .ok (.getfield 32, 3) := by decide +kernel
theorem dX7_holds_22 : decode cX7_holds 22 = .ok (.iconst 0, 1) := by decide +kernel
theorem dX7_holds_23 : decode cX7_holds 23 = .ok (.aload_n 0, 1) := by decide +kernel
theorem dX7_holds_24 : decode cX7_holds 24 = .ok (.getfield 101, 3) := by decide +kernel
theorem dX7_holds_27 : decode cX7_holds 27 = .ok (.aload_n 0, 1) := by decide +kernel
theorem dX7_holds_28 : decode cX7_holds 28 = .ok (.getfield 26, 3) := by decide +kernel
theorem dX7_holds_31 : decode cX7_holds 31 = .ok (.aload_n 0, 1) := by decide +kernel
theorem dX7_holds_32 : decode cX7_holds 32 = .ok (.getfield 29, 3) := by decide +kernel
theorem dX7_holds_35 : decode cX7_holds 35 = .ok (.iconst 0, 1) := by decide +kernel
theorem dX7_holds_36 : decode cX7_holds 36 = .ok (.aload_n 0, 1) := by decide +kernel
theorem dX7_holds_37 : decode cX7_holds 37 = .ok (.getfield 136, 3) := by decide +kernel
theorem dX7_holds_40 : decode cX7_holds 40 = .ok (.invokevirtual 173, 3) := by decide +kernel
theorem dX7_holds_43 : decode cX7_holds 43 = .ok (.ifCond .eq 7, 3) := by decide +kernel
theorem dX7_holds_46 : decode cX7_holds 46 = .ok (.iconst 1, 1) := by decide +kernel
theorem dX7_holds_47 : decode cX7_holds 47 = .ok (.goto 4, 3) := by decide +kernel
theorem dX7_holds_50 : decode cX7_holds 50 = .ok (.iconst 0, 1) := by decide +kernel
theorem dX7_holds_51 : decode cX7_holds 51 = .ok (.ireturn, 1) := by decide +kernel
theorem dX7_slip_0 : decode cX7_slip 0 = .ok (.aload_n 0, 1) := by decide +kernel
theorem dX7_slip_1 : decode cX7_slip 1 = .ok (.getfield 104, 3) := by decide +kernel
theorem dX7_slip_4 : decode cX7_slip 4 = .ok (.ifCond .eq 17, 3) := by decide +kernel
theorem dX7_slip_7 : decode cX7_slip 7 = .ok (.iload_n 1, 1) := by decide +kernel
theorem dX7_slip_8 : decode cX7_slip 8 = .ok (.iconst 0, 1) := by decide +kernel
theorem dX7_slip_9 : decode cX7_slip 9 = .ok (.aload_n 0, 1) := by decide +kernel
theorem dX7_slip_10 : decode cX7_slip 10 = .ok (.getfield 136, 3) := by decide +kernel
theorem dX7_slip_13 : decode cX7_slip 13 = .ok (.iconst 1, 1) := by decide +kernel
theorem dX7_slip_14 : decode cX7_slip 14 = .ok (.isub, 1) := by decide +kernel
theorem dX7_slip_15 : decode cX7_slip 15 = .ok (.invokestatic 86, 3) := by decide +kernel
theorem dX7_slip_18 : decode cX7_slip 18 = .ok (.ifCond .ne 5, 3) := by decide +kernel
theorem dX7_slip_21 : decode cX7_slip 21 = .ok (.iconst (-1), 1) := by decide +kernel
theorem dX7_slip_22 : decode cX7_slip 22 = .ok (.ireturn, 1) := by decide +kernel
theorem dX7_slip_23 : decode cX7_slip 23 = .ok (.aload_n 0, 1) := by decide +kernel
theorem dX7_slip_24 : decode cX7_slip 24 = .ok (.getfield 26, 3) := by decide +kernel
theorem dX7_slip_27 : decode cX7_slip 27 = .ok (.iload_n 1, 1) := by decide +kernel
theorem dX7_slip_28 : decode cX7_slip 28 = .ok (.iaload, 1) := by decide +kernel
theorem dX7_slip_29 : decode cX7_slip 29 = .ok (.istore_n 2, 1) := by decide +kernel
theorem dX7_slip_30 : decode cX7_slip 30 = .ok (.iload_n 2, 1) := by decide +kernel
theorem dX7_slip_31 : decode cX7_slip 31 = .ok (.ifCond .eq 14, 3) := by decide +kernel
theorem dX7_slip_34 : decode cX7_slip 34 = .ok (.iload_n 2, 1) := by decide +kernel
theorem dX7_slip_35 : decode cX7_slip 35 = .ok (.iconst 2, 1) := by decide +kernel
theorem dX7_slip_36 : decode cX7_slip 36 = .ok (.if_icmp .eq 9, 3) := by decide +kernel
theorem dX7_slip_39 : decode cX7_slip 39 = .ok (.iload_n 2, 1) := by decide +kernel
theorem dX7_slip_40 : decode cX7_slip 40 = .ok (.bipush 6, 2) := by decide +kernel
theorem dX7_slip_42 : decode cX7_slip 42 = .ok (.if_icmp .le 5, 3) := by decide +kernel
theorem dX7_slip_45 : decode cX7_slip 45 = .ok (.iconst (-1), 1) := by decide +kernel
theorem dX7_slip_46 : decode cX7_slip 46 = .ok (.ireturn, 1) := by decide +kernel
theorem dX7_slip_47 : decode cX7_slip 47 = .ok (.aload_n 0, 1) := by decide +kernel
theorem dX7_slip_48 : decode cX7_slip 48 = .ok (.aload_n 0, 1) := by decide +kernel
theorem dX7_slip_49 : decode cX7_slip 49 = .ok (.getfield 98, 3) := by decide +kernel
theorem dX7_slip_52 : decode cX7_slip 52 = .ok (.aload_n 0, 1) := by decide +kernel
theorem dX7_slip_53 : decode cX7_slip 53 = .ok (.getfield 154, 3) := by decide +kernel
theorem dX7_slip_56 : decode cX7_slip 56 = .ok (.aload_n 0, 1) := by decide +kernel
theorem dX7_slip_57 : decode cX7_slip 57 = .ok (.getfield 32, 3) := by decide +kernel
theorem dX7_slip_60 : decode cX7_slip 60 = .ok (.iconst 0, 1) := by decide +kernel
theorem dX7_slip_61 : decode cX7_slip 61 = .ok (.aload_n 0, 1) := by decide +kernel
theorem dX7_slip_62 : decode cX7_slip 62 = .ok (.getfield 101, 3) := by decide +kernel
theorem dX7_slip_65 : decode cX7_slip 65 = .ok (.invokevirtual 157, 3) := by decide +kernel
theorem dX7_slip_68 : decode cX7_slip 68 = .ok (.pop, 1) := by decide +kernel
theorem dX7_slip_69 : decode cX7_slip 69 = .ok (.aload_n 0, 1) := by decide +kernel
theorem dX7_slip_70 : decode cX7_slip 70 = .ok (.aload_n 0, 1) := by decide +kernel
theorem dX7_slip_71 : decode cX7_slip 71 = .ok (.getfield 98, 3) := by decide +kernel
theorem dX7_slip_74 : decode cX7_slip 74 = .ok (.putfield 115, 3) := by decide +kernel
theorem dX7_slip_77 : decode cX7_slip 77 = .ok (.aload_n 0, 1) := by decide +kernel
theorem dX7_slip_78 : decode cX7_slip 78 = .ok (.aload_n 0, 1) := by decide +kernel
theorem dX7_slip_79 : decode cX7_slip 79 = .ok (.getfield 154, 3) := by decide +kernel
theorem dX7_slip_82 : decode cX7_slip 82 = .ok (.putfield 121, 3) := by decide +kernel
theorem dX7_slip_85 : decode cX7_slip 85 = .ok (.iconst 0, 1) := by decide +kernel
theorem dX7_slip_86 : decode cX7_slip 86 = .ok (.istore_n 3, 1) := by decide +kernel
theorem dX7_slip_87 : decode cX7_slip 87 = .ok (.iload_n 3, 1) := by decide +kernel
theorem dX7_slip_88 : decode cX7_slip 88 = .ok (.aload_n 0, 1) := by decide +kernel
theorem dX7_slip_89 : decode cX7_slip 89 = .ok (.getfield 136, 3) := by decide +kernel
theorem dX7_slip_92 : decode cX7_slip 92 = .ok (.if_icmp .ge 117, 3) := by decide +kernel
theorem dX7_slip_95 : decode cX7_slip 95 = .ok (.iload_n 3, 1) := by decide +kernel
theorem dX7_slip_96 : decode cX7_slip 96 = .ok (.iload_n 1, 1) := by decide +kernel
theorem dX7_slip_97 : decode cX7_slip 97 = .ok (.if_icmp .ne 7, 3) := by decide +kernel
theorem dX7_slip_100 : decode cX7_slip 100 = .ok (.iconst 1, 1) := by decide +kernel
theorem dX7_slip_101 : decode cX7_slip 101 = .ok (.goto 4, 3) := by decide +kernel
theorem dX7_slip_104 : decode cX7_slip 104 = .ok (.iconst 0, 1) := by decide +kernel
theorem dX7_slip_105 : decode cX7_slip 105 = .ok (.istore 4, 2) := by decide +kernel
theorem dX7_slip_107 : decode cX7_slip 107 = .ok (.iload 4, 2) := by decide +kernel
theorem dX7_slip_109 : decode cX7_slip 109 = .ok (.ifCond .eq 24, 3) := by decide +kernel
theorem dX7_slip_112 : decode cX7_slip 112 = .ok (.aload_n 0, 1) := by decide +kernel
theorem dX7_slip_113 : decode cX7_slip 113 = .ok (.getfield 26, 3) := by decide +kernel
theorem dX7_slip_116 : decode cX7_slip 116 = .ok (.iload_n 3, 1) := by decide +kernel
theorem dX7_slip_117 : decode cX7_slip 117 = .ok (.iaload, 1) := by decide +kernel
theorem dX7_slip_118 : decode cX7_slip 118 = .ok (.iconst 4, 1) := by decide +kernel
theorem dX7_slip_119 : decode cX7_slip 119 = .ok (.if_icmp .ge 14, 3) := by decide +kernel
theorem dX7_slip_122 : decode cX7_slip 122 = .ok (.iconst 4, 1) := by decide +kernel
theorem dX7_slip_123 : decode cX7_slip 123 = .ok (.aload_n 0, 1) := by decide +kernel
theorem dX7_slip_124 : decode cX7_slip 124 = .ok (.getfield 26, 3) := by decide +kernel
theorem dX7_slip_127 : decode cX7_slip 127 = .ok (.iload_n 3, 1) := by decide +kernel
theorem dX7_slip_128 : decode cX7_slip 128 = .ok (.iaload, 1) := by decide +kernel
theorem dX7_slip_129 : decode cX7_slip 129 = .ok (.isub, 1) := by decide +kernel
theorem dX7_slip_130 : decode cX7_slip 130 = .ok (.goto 9, 3) := by decide +kernel
theorem dX7_slip_133 : decode cX7_slip 133 = .ok (.aload_n 0, 1) := by decide +kernel
theorem dX7_slip_134 : decode cX7_slip 134 = .ok (.getfield 26, 3) := by decide +kernel
theorem dX7_slip_137 : decode cX7_slip 137 = .ok (.iload_n 3, 1) := by decide +kernel
theorem dX7_slip_138 : decode cX7_slip 138 = .ok (.iaload, 1) := by decide +kernel
theorem dX7_slip_139 : decode cX7_slip 139 = .ok (.istore 5, 2) := by decide +kernel
theorem dX7_slip_141 : decode cX7_slip 141 = .ok (.iload 4, 2) := by decide +kernel
theorem dX7_slip_143 : decode cX7_slip 143 = .ok (.ifCond .eq 26, 3) := by decide +kernel
theorem dX7_slip_146 : decode cX7_slip 146 = .ok (.iload 5, 2) := by decide +kernel
theorem dX7_slip_148 : decode cX7_slip 148 = .ok (.iconst 4, 1) := by decide +kernel
theorem dX7_slip_149 : decode cX7_slip 149 = .ok (.if_icmp .eq 9, 3) := by decide +kernel
theorem dX7_slip_152 : decode cX7_slip 152 = .ok (.iload 5, 2) := by decide +kernel
theorem dX7_slip_154 : decode cX7_slip 154 = .ok (.iconst 5, 1) := by decide +kernel
theorem dX7_slip_155 : decode cX7_slip 155 = .ok (.if_icmp .ne 14, 3) := by decide +kernel
theorem dX7_slip_158 : decode cX7_slip 158 = .ok (.aload_n 0, 1) := by decide +kernel
theorem dX7_slip_159 : decode cX7_slip 159 = .ok (.getfield 29, 3) := by decide +kernel
theorem dX7_slip_162 : decode cX7_slip 162 = .ok (.iload_n 3, 1) := by decide +kernel
theorem dX7_slip_163 : decode cX7_slip 163 = .ok (.iaload, 1) := by decide +kernel
theorem dX7_slip_164 : decode cX7_slip 164 = .ok (.iconst 1, 1) := by decide +kernel
theorem dX7_slip_165 : decode cX7_slip 165 = .ok (.iadd, 1) := by decide +kernel
theorem dX7_slip_166 : decode cX7_slip 166 = .ok (.goto 9, 3) := by decide +kernel
theorem dX7_slip_169 : decode cX7_slip 169 = .ok (.aload_n 0, 1) := by decide +kernel
theorem dX7_slip_170 : decode cX7_slip 170 = .ok (.getfield 29, 3) := by decide +kernel
theorem dX7_slip_173 : decode cX7_slip 173 = .ok (.iload_n 3, 1) := by decide +kernel
theorem dX7_slip_174 : decode cX7_slip 174 = .ok (.iaload, 1) := by decide +kernel
theorem dX7_slip_175 : decode cX7_slip 175 = .ok (.istore 6, 2) := by decide +kernel
theorem dX7_slip_177 : decode cX7_slip 177 = .ok (.aload_n 0, 1) := by decide +kernel
theorem dX7_slip_178 : decode cX7_slip 178 = .ok (.iload 5, 2) := by decide +kernel
theorem dX7_slip_180 : decode cX7_slip 180 = .ok (.iload 6, 2) := by decide +kernel
theorem dX7_slip_182 : decode cX7_slip 182 = .ok (.iload 4, 2) := by decide +kernel
theorem dX7_slip_184 : decode cX7_slip 184 = .ok (.ifCond .eq 7, 3) := by decide +kernel
theorem dX7_slip_187 : decode cX7_slip 187 = .ok (.iconst 1, 1) := by decide +kernel
theorem dX7_slip_188 : decode cX7_slip 188 = .ok (.goto 4, 3) := by decide +kernel
theorem dX7_slip_191 : decode cX7_slip 191 = .ok (.iconst 0, 1) := by decide +kernel
theorem dX7_slip_192 : decode cX7_slip 192 = .ok (.invokevirtual 145, 3) := by decide +kernel
theorem dX7_slip_195 : decode cX7_slip 195 = .ok (.ifCond .ne 8, 3) := by decide +kernel
theorem dX7_slip_198 : decode cX7_slip 198 = .ok (.bipush (-2), 2) := by decide +kernel
theorem dX7_slip_200 : decode cX7_slip 200 = .ok (.iload_n 3, 1) := by decide +kernel
theorem dX7_slip_201 : decode cX7_slip 201 = .ok (.isub, 1) := by decide +kernel
theorem dX7_slip_202 : decode cX7_slip 202 = .ok (.ireturn, 1) := by decide +kernel
theorem dX7_slip_203 : decode cX7_slip 203 = .ok (.iinc 3 1, 3) := by decide +kernel
theorem dX7_slip_206 : decode cX7_slip 206 = .ok (.goto (-119), 3) := by decide +kernel
theorem dX7_slip_209 : decode cX7_slip 209 = .ok (.aload_n 0, 1) := by decide +kernel
theorem dX7_slip_210 : decode cX7_slip 210 = .ok (.getfield 115, 3) := by decide +kernel
theorem dX7_slip_213 : decode cX7_slip 213 = .ok (.aload_n 0, 1) := by decide +kernel
theorem dX7_slip_214 : decode cX7_slip 214 = .ok (.getfield 62, 3) := by decide +kernel
theorem dX7_slip_217 : decode cX7_slip 217 = .ok (.aload_n 0, 1) := by decide +kernel
theorem dX7_slip_218 : decode cX7_slip 218 = .ok (.getfield 101, 3) := by decide +kernel
theorem dX7_slip_221 : decode cX7_slip 221 = .ok (.iaload, 1) := by decide +kernel
theorem dX7_slip_222 : decode cX7_slip 222 = .ok (.if_icmp .ne 7, 3) := by decide +kernel
