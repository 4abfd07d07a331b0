theorem dX6_init_0 : decode cX6_init 0 = .ok (.aload_n 0, 1) := by decide +kernel
theorem dX6_init_1 : decode cX6_init 1 = .ok (.invokespecial 3, 3) := by decide +kernel
theorem dX6_init_4 : decode cX6_init 4 = .ok (.aload_n 0, 1) := by decide +kernel
theorem dX6_init_5 : decode cX6_init 5 = .ok (.new 9, 3) := by decide +kernel
theorem dX6_init_8 : decode cX6_init 8 = .ok (.dup, 1) := by decide +kernel
theorem dX6_init_9 : decode cX6_init 9 = .ok (.invokespecial 11, 3) := by decide +kernel
theorem dX6_init_12 : decode cX6_init 12 = .ok (.putfield 12, 3) := by decide +kernel
theorem dX6_init_15 : decode cX6_init 15 = .ok (.aload_n 0, 1) := by decide +kernel
theorem dX6_init_16 : decode cX6_init 16 = .ok (.bipush 9, 2) := by decide +kernel
theorem dX6_init_18 : decode cX6_init 18 = .ok (.newarray .int, 2) := by decide +kernel
theorem dX6_init_20 : decode cX6_init 20 = .ok (.putfield 16, 3) := by decide +kernel
theorem dX6_init_23 : decode cX6_init 23 = .ok (.aload_n 0, 1) := by decide +kernel
theorem dX6_init_24 : decode cX6_init 24 = .ok (.sipush 511, 3) := by decide +kernel
theorem dX6_init_27 : decode cX6_init 27 = .ok (.putfield 20, 3) := by decide +kernel
theorem dX6_init_30 : decode cX6_init 30 = .ok (.aload_n 0, 1) := by decide +kernel
theorem dX6_init_31 : decode cX6_init 31 = .ok (.new 24, 3) := by decide +kernel
theorem dX6_init_34 : decode cX6_init 34 = .ok (.dup, 1) := by decide +kernel
theorem dX6_init_35 : decode cX6_init 35 = .ok (.bipush 60, 2) := by decide +kernel
theorem dX6_init_37 : decode cX6_init 37 = .ok (.invokespecial 26, 3) := by decide +kernel
theorem dX6_init_40 : decode cX6_init 40 = .ok (.putfield 29, 3) := by decide +kernel
theorem dX6_init_43 : decode cX6_init 43 = .ok (.aload_n 0, 1) := by decide +kernel
theorem dX6_init_44 : decode cX6_init 44 = .ok (.new 33, 3) := by decide +kernel
theorem dX6_init_47 : decode cX6_init 47 = .ok (.dup, 1) := by decide +kernel
theorem dX6_init_48 : decode cX6_init 48 = .ok (.aload_n 0, 1) := by decide +kernel
theorem dX6_init_49 : decode cX6_init 49 = .ok (.getfield 12, 3) := by decide +kernel
theorem dX6_init_52 : decode cX6_init 52 = .ok (.invokespecial 35, 3) := by decide +kernel
theorem dX6_init_55 : decode cX6_init 55 = .ok (.putfield 38, 3) := by decide +kernel
theorem dX6_init_58 : decode cX6_init 58 = .ok (.aload_n 0, 1) := by decide +kernel
theorem dX6_init_59 : decode cX6_init 59 = .ok (.iconst 0, 1) := by decide +kernel
theorem dX6_init_60 : decode cX6_init 60 = .ok (.putfield 42, 3) := by decide +kernel
theorem dX6_init_63 : decode cX6_init 63 = .ok (.aload_n 0, 1) := by decide +kernel
theorem dX6_init_64 : decode cX6_init 64 = .ok (.new 33, 3) := by decide +kernel
theorem dX6_init_67 : decode cX6_init 67 = .ok (.dup, 1) := by decide +kernel
theorem dX6_init_68 : decode cX6_init 68 = .ok (.aload_n 0, 1) := by decide +kernel
theorem dX6_init_69 : decode cX6_init 69 = .ok (.getfield 12, 3) := by decide +kernel
theorem dX6_init_72 : decode cX6_init 72 = .ok (.invokespecial 35, 3) := by decide +kernel
theorem dX6_init_75 : decode cX6_init 75 = .ok (.putfield 46, 3) := by decide +kernel
theorem dX6_init_78 : decode cX6_init 78 = .ok (.aload_n 0, 1) := by decide +kernel
theorem dX6_init_79 : decode cX6_init 79 = .ok (.new 49, 3) := by decide +kernel
theorem dX6_init_82 : decode cX6_init 82 = .ok (.dup, 1) := by decide +kernel
theorem dX6_init_83 : decode cX6_init 83 = .ok (.invokespecial 51, 3) := by decide +kernel
theorem dX6_init_86 : decode cX6_init 86 = .ok (.putfield 52, 3) := by decide +kernel
theorem dX6_init_89 : decode cX6_init 89 = .ok (.aload_n 0, 1) := by decide +kernel
theorem dX6_init_90 : decode cX6_init 90 = .ok (.new 56, 3) := by decide +kernel
theorem dX6_init_93 : decode cX6_init 93 = .ok (.dup, 1) := by decide +kernel
theorem dX6_init_94 : decode cX6_init 94 = .ok (.invokespecial 58, 3) := by decide +kernel
theorem dX6_init_97 : decode cX6_init 97 = .ok (.putfield 59, 3) := by decide +kernel
theorem dX6_init_100 : decode cX6_init 100 = .ok (.aload_n 0, 1) := by decide +kernel
theorem dX6_init_101 : decode cX6_init 101 = .ok (.bipush 8, 2) := by decide +kernel
theorem dX6_init_103 : decode cX6_init 103 = .ok (.anewarray 63, 3) := by decide +kernel
theorem dX6_init_106 : decode cX6_init 106 = .ok (.putfield 65, 3) := by decide +kernel
theorem dX6_init_109 : decode cX6_init 109 = .ok (.aload_n 0, 1) := by decide +kernel
theorem dX6_init_110 : decode cX6_init 110 = .ok (.iconst 0, 1) := by decide +kernel
theorem dX6_init_111 : decode cX6_init 111 = .ok (.putfield 69, 3) := by decide +kernel
theorem dX6_init_114 : decode cX6_init 114 = .ok (.getstatic 72, 3) := by decide +kernel
theorem dX6_init_117 : decode cX6_init 117 = .ok (.iconst 0, 1) := by decide +kernel
theorem dX6_init_118 : decode cX6_init 118 = .ok (.aload_n 0, 1) := by decide +kernel
theorem dX6_init_119 : decode cX6_init 119 = .ok (.getfield 16, 3) := by decide +kernel
theorem dX6_init_122 : decode cX6_init 122 = .ok (.iconst 0, 1) := by decide +kernel
theorem dX6_init_123 : decode cX6_init 123 = .ok (.bipush 9, 2) := by decide +kernel
theorem dX6_init_125 : decode cX6_init 125 = .ok (.invokestatic 75, 3) := by decide +kernel
theorem dX6_init_128 : decode cX6_init 128 = .ok (.return_, 1) := by decide +kernel
theorem dX6_knot_0 : decode cX6_knot 0 = .ok (.iload_n 1, 1) := by decide +kernel
theorem dX6_knot_1 : decode cX6_knot 1 = .ok (.invokestatic 81, 3) := by decide +kernel
theorem dX6_knot_4 : decode cX6_knot 4 = .ok (.ifCond .eq 14, 3) := by decide +kernel
theorem dX6_knot_7 : decode cX6_knot 7 = .ok (.aload_n 0, 1) := by decide +kernel
theorem dX6_knot_8 : decode cX6_knot 8 = .ok (.getfield 12, 3) := by decide +kernel
theorem dX6_knot_11 : decode cX6_knot 11 = .ok (.iload_n 1, 1) := by decide +kernel
theorem dX6_knot_12 : decode cX6_knot 12 = .ok (.invokevirtual 85, 3) := by decide +kernel
theorem dX6_knot_15 : decode cX6_knot 15 = .ok (.goto 4, 3) := by decide +kernel
theorem dX6_knot_18 : decode cX6_knot 18 = .ok (.iconst (-1), 1) := by decide +kernel
theorem dX6_knot_19 : decode cX6_knot 19 = .ok (.ireturn, 1) := by decide +kernel
theorem dX6_street_0 : decode cX6_street 0 = .ok (.iload 5, 2) := by decide +kernel
theorem dX6_street_2 : decode cX6_street 2 = .ok (.ifCond .lt 10, 3) := by decide +kernel
theorem dX6_street_5 : decode cX6_street 5 = .ok (.iload 5, 2) := by decide +kernel
theorem dX6_street_7 : decode cX6_street 7 = .ok (.bipush 9, 2) := by decide +kernel
theorem dX6_street_9 : decode cX6_street 9 = .ok (.if_icmp .le 5, 3) := by decide +kernel
theorem dX6_street_12 : decode cX6_street 12 = .ok (.iconst 0, 1) := by decide +kernel
theorem dX6_street_13 : decode cX6_street 13 = .ok (.ireturn, 1) := by decide +kernel
theorem dX6_street_14 : decode cX6_street 14 = .ok (.aload_n 0, 1) := by decide +kernel
theorem dX6_street_15 : decode cX6_street 15 = .ok (.getfield 12, 3) := by decide +kernel
theorem dX6_street_18 : decode cX6_street 18 = .ok (.iload_n 1, 1) := by decide +kernel
theorem dX6_street_19 : decode cX6_street 19 = .ok (.iload_n 2, 1) := by decide +kernel
theorem dX6_street_20 : decode cX6_street 20 = .ok (.invokevirtual 89, 3) := by decide +kernel
theorem dX6_street_23 : decode cX6_street 23 = .ok (.ifCond .eq 16, 3) := by decide +kernel
theorem dX6_street_26 : decode cX6_street 26 = .ok (.aload_n 0, 1) := by decide +kernel
theorem dX6_street_27 : decode cX6_street 27 = .ok (.getfield 12, 3) := by decide +kernel
theorem dX6_street_30 : decode cX6_street 30 = .ok (.iload_n 3, 1) := by decide +kernel
theorem dX6_street_31 : decode cX6_street 31 = .ok (.iload 4, 2) := by decide +kernel
theorem dX6_street_33 : decode cX6_street 33 = .ok (.invokevirtual 89, 3) := by decide +kernel
theorem dX6_street_36 : decode cX6_street 36 = .ok (.ifCond .ne 5, 3) := by decide +kernel
theorem dX6_street_39 : decode cX6_street 39 = .ok (.iconst 0, 1) := by decide +kernel
theorem dX6_street_40 : decode cX6_street 40 = .ok (.ireturn, 1) := by decide +kernel
theorem dX6_street_41 : decode cX6_street 41 = .ok (.aload_n 0, 1) := by decide +kernel
theorem dX6_street_42 : decode cX6_street 42 = .ok (.getfield 12, 3) := by decide +kernel
theorem dX6_street_45 : decode cX6_street 45 = .ok (.iload_n 1, 1) := by decide +kernel
theorem dX6_street_46 : decode cX6_street 46 = .ok (.iload_n 2, 1) := by decide +kernel
theorem dX6_street_47 : decode cX6_street 47 = .ok (.invokestatic 93, 3) := by decide +kernel
theorem dX6_street_50 : decode cX6_street 50 = .ok (.iload_n 3, 1) := by decide +kernel
theorem dX6_street_51 : decode cX6_street 51 = .ok (.iload 4, 2) := by decide +kernel
theorem dX6_street_53 : decode cX6_street 53 = .ok (.invokestatic 93, 3) := by decide +kernel
theorem dX6_street_56 : decode cX6_street 56 = .ok (.iload 5, 2) := by decide +kernel
theorem dX6_street_58 : decode cX6_street 58 = .ok (.invokevirtual 97, 3) := by decide +kernel
theorem dX6_street_61 : decode cX6_street 61 = .ok (.ireturn, 1) := by decide +kernel
theorem dX6_close_0 : decode cX6_close 0 = .ok (.aload_n 0, 1) := by decide +kernel
theorem dX6_close_1 : decode cX6_close 1 = .ok (.getfield 12, 3) := by decide +kernel
theorem dX6_close_4 : decode cX6_close 4 = .ok (.iload_n 1, 1) := by decide +kernel
theorem dX6_close_5 : decode cX6_close 5 = .ok (.iload_n 2, 1) := by decide +kernel
theorem dX6_close_6 : decode cX6_close 6 = .ok (.invokevirtual 101, 3) := by decide +kernel
theorem dX6_close_9 : decode cX6_close 9 = .ok (.istore_n 3, 1) := by decide +kernel
theorem dX6_close_10 : decode cX6_close 10 = .ok (.iload_n 3, 1) := by decide +kernel
theorem dX6_close_11 : decode cX6_close 11 = .ok (.iconst (-1), 1) := by decide +kernel
theorem dX6_close_12 : decode cX6_close 12 = .ok (.if_icmp .ne 5, 3) := by decide +kernel
theorem dX6_close_15 : decode cX6_close 15 = .ok (.iconst 0, 1) := by decide +kernel
theorem dX6_close_16 : decode cX6_close 16 = .ok (.ireturn, 1) := by decide +kernel
theorem dX6_close_17 : decode cX6_close 17 = .ok (.iload_n 1, 1) := by decide +kernel
theorem dX6_close_18 : decode cX6_close 18 = .ok (.iload_n 2, 1) := by decide +kernel
theorem dX6_close_19 : decode cX6_close 19 = .ok (.invokestatic 93, 3) := by decide +kernel
theorem dX6_close_22 : decode cX6_close 22 = .ok (.istore 4, 2) := by decide +kernel
theorem dX6_close_24 : decode cX6_close 24 = .ok (.aload_n 0, 1) := by decide +kernel
theorem dX6_close_25 : decode cX6_close 25 = .ok (.iload 4, 2) := by decide +kernel
theorem dX6_close_27 : decode cX6_close 27 = .ok (.iload_n 3, 1) := by decide +kernel
theorem dX6_close_28 : decode cX6_close 28 = .ok (.invokevirtual 104, 3) := by decide +kernel
theorem dX6_close_31 : decode cX6_close 31 = .ok (.ifCond .eq 11, 3) := by decide +kernel
theorem dX6_close_34 : decode cX6_close 34 = .ok (.aload_n 0, 1) := by decide +kernel
theorem dX6_close_35 : decode cX6_close 35 = .ok (.getfield 52, 3) := by decide +kernel
theorem dX6_close_38 : decode cX6_close 38 = .ok (.iconst 0, 1) := by decide +kernel
theorem dX6_close_39 : decode cX6_close 39 = .ok (.putfield 107, 3) := by decide +kernel
theorem dX6_close_42 : decode cX6_close 42 = .ok (.aload_n 0, 1) := by decide +kernel
theorem dX6_close_43 : decode cX6_close 43 = .ok (.getfield 12, 3) := by decide +kernel
theorem dX6_close_46 : decode cX6_close 46 = .ok (.iload 4, 2) := by decide +kernel
theorem dX6_close_48 : decode cX6_close 48 = .ok (.iload_n 3, 1) := by decide +kernel
theorem dX6_close_49 : decode cX6_close 49 = .ok (.invokevirtual 110, 3) := by decide +kernel
theorem dX6_close_52 : decode cX6_close 52 = .ok (.iconst 1, 1) := by decide +kernel
theorem dX6_close_53 : decode cX6_close 53 = .ok (.ireturn, 1) := by decide +kernel
theorem dX6_sight_0 : decode cX6_sight 0 = .ok (.iload_n 2, 1) := by decide +kernel
theorem dX6_sight_1 : decode cX6_sight 1 = .ok (.invokestatic 81, 3) := by decide +kernel
theorem dX6_sight_4 : decode cX6_sight 4 = .ok (.ifCond .eq 19, 3) := by decide +kernel
theorem dX6_sight_7 : decode cX6_sight 7 = .ok (.aload_n 0, 1) := by decide +kernel
theorem dX6_sight_8 : decode cX6_sight 8 = .ok (.getfield 12, 3) := by decide +kernel
theorem dX6_sight_11 : decode cX6_sight 11 = .ok (.iload_n 1, 1) := by decide +kernel
theorem dX6_sight_12 : decode cX6_sight 12 = .ok (.iload_n 2, 1) := by decide +kernel
theorem dX6_sight_13 : decode cX6_sight 13 = .ok (.invokevirtual 114, 3) := by decide +kernel
theorem dX6_sight_16 : decode cX6_sight 16 = .ok (.ifCond .eq 7, 3) := by decide +kernel
theorem dX6_sight_19 : decode cX6_sight 19 = .ok (.iconst 1, 1) := by decide +kernel
theorem dX6_sight_20 : decode cX6_sight 20 = .ok (.goto 4, 3) := by decide +kernel
theorem dX6_sight_23 : decode cX6_sight 23 = .ok (.iconst 0, 1) := by decide +kernel
theorem dX6_sight_24 : decode cX6_sight 24 = .ok (.ireturn, 1) := by decide +kernel
theorem dX6_look_0 : decode cX6_look 0 = .ok (.iload_n 3, 1) := by decide +kernel
theorem dX6_look_1 : decode cX6_look 1 = .ok (.iconst 3, 1) := by decide +kernel
theorem dX6_look_2 : decode cX6_look 2 = .ok (.if_icmp .ne 12, 3) := by decide +kernel
theorem dX6_look_5 : decode cX6_look 5 = .ok (.aload_n 0, 1) := by decide +kernel
theorem dX6_look_6 : decode cX6_look 6 = .ok (.getfield 12, 3) := by decide +kernel
theorem dX6_look_9 : decode cX6_look 9 = .ok (.iload_n 1, 1) := by decide +kernel
theorem dX6_look_10 : decode cX6_look 10 = .ok (.invokevirtual 117, 3) := by decide +kernel
theorem dX6_look_13 : decode cX6_look 13 = .ok (.ireturn, 1) := by decide +kernel
theorem dX6_look_14 : decode cX6_look 14 = .ok (.aload_n 0, 1) := by decide +kernel
theorem dX6_look_15 : decode cX6_look 15 = .ok (.getfield 12, 3) := by decide +kernel
theorem dX6_look_18 : decode cX6_look 18 = .ok (.iload_n 1, 1) := by decide +kernel
theorem dX6_look_19 : decode cX6_look 19 = .ok (.iload_n 2, 1) := by decide +kernel
theorem dX6_look_20 : decode cX6_look 20 = .ok (.invokevirtual 101, 3) := by decide +kernel
theorem dX6_look_23 : decode cX6_look 23 = .ok (.istore 4, 2) := by decide +kernel
theorem dX6_look_25 : decode cX6_look 25 = .ok (.iload 4, 2) := by decide +kernel
theorem dX6_look_27 : decode cX6_look 27 = .ok (.iconst (-1), 1) := by decide +kernel
theorem dX6_look_28 : decode cX6_look 28 = .ok (.if_icmp .ne 5, 3) := by decide +kernel
theorem dX6_look_31 : decode cX6_look 31 = .ok (.iconst (-1), 1) := by decide +kernel
theorem dX6_look_32 : decode cX6_look 32 = .ok (.ireturn, 1) := by decide +kernel
theorem dX6_look_33 : decode cX6_look 33 = .ok (.iload_n 3, 1) := by decide +kernel
theorem dX6_look_34 : decode cX6_look 34 = .ok (.tableswitch 48 0 2 #[26, 32, 38], 26) := by decide +kernel
theorem dX6_look_60 : decode cX6_look 60 = .ok (.iload 4, 2) := by decide +kernel
theorem dX6_look_62 : decode cX6_look 62 = .ok (.invokestatic 120, 3) := by decide +kernel
theorem dX6_look_65 : decode cX6_look 65 = .ok (.ireturn, 1) := by decide +kernel
theorem dX6_look_66 : decode cX6_look 66 = .ok (.iload 4, 2) := by decide +kernel
theorem dX6_look_68 : decode cX6_look 68 = .ok (.invokestatic 123, 3) := by decide +kernel
theorem dX6_look_71 : decode cX6_look 71 = .ok (.ireturn, 1) := by decide +kernel
theorem dX6_look_72 : decode cX6_look 72 = .ok (.aload_n 0, 1) := by decide +kernel
theorem dX6_look_73 : decode cX6_look 73 = .ok (.getfield 12, 3) := by decide +kernel
theorem dX6_look_76 : decode cX6_look 76 = .ok (.iload_n 1, 1) := by decide +kernel
theorem dX6_look_77 : decode cX6_look 77 = .ok (.iload_n 2, 1) := by decide +kernel
theorem dX6_look_78 : decode cX6_look 78 = .ok (.invokevirtual 126, 3) := by decide +kernel
theorem dX6_look_81 : decode cX6_look 81 = .ok (.ireturn, 1) := by decide +kernel
theorem dX6_look_82 : decode cX6_look 82 = .ok (.iconst (-1), 1) := by decide +kernel
theorem dX6_look_83 : decode cX6_look 83 = .ok (.ireturn, 1) := by decide +kernel
theorem dX6_price_0 : decode cX6_price 0 = .ok (.iload_n 1, 1) := by decide +kernel
theorem dX6_price_1 : decode cX6_price 1 = .ok (.invokestatic 129, 3) := by decide +kernel
theorem dX6_price_4 : decode cX6_price 4 = .ok (.ifCond .eq 13, 3) := by decide +kernel
theorem dX6_price_7 : decode cX6_price 7 = .ok (.iload_n 2, 1) := by decide +kernel
theorem dX6_price_8 : decode cX6_price 8 = .ok (.ifCond .lt 9, 3) := by decide +kernel
theorem dX6_price_11 : decode cX6_price 11 = .ok (.iload_n 2, 1) := by decide +kernel
theorem dX6_price_12 : decode cX6_price 12 = .ok (.bipush 50, 2) := by decide +kernel
theorem dX6_price_14 : decode cX6_price 14 = .ok (.if_icmp .le 5, 3) := by decide +kernel
theorem dX6_price_17 : decode cX6_price 17 = .ok (.iconst (-1), 1) := by decide +kernel
theorem dX6_price_18 : decode cX6_price 18 = .ok (.ireturn, 1) := by decide +kernel
theorem dX6_price_19 : decode cX6_price 19 = .ok (.aload_n 0, 1) := by decide +kernel
theorem dX6_price_20 : decode cX6_price 20 = .ok (.getfield 16, 3) := by decide +kernel
theorem dX6_price_23 : decode cX6_price 23 = .ok (.iload_n 1, 1) := by decide +kernel
theorem dX6_price_24 : decode cX6_price 24 = .ok (.iaload, 1) := by decide +kernel
theorem dX6_price_25 : decode cX6_price 25 = .ok (.istore_n 3, 1) := by decide +kernel
theorem dX6_price_26 : decode cX6_price 26 = .ok (.aload_n 0, 1) := by decide +kernel
theorem dX6_price_27 : decode cX6_price 27 = .ok (.getfield 16, 3) := by decide +kernel
theorem dX6_price_30 : decode cX6_price 30 = .ok (.iload_n 1, 1) := by decide +kernel
theorem dX6_price_31 : decode cX6_price 31 = .ok (.iload_n 2, 1) := by decide +kernel
theorem dX6_price_32 : decode cX6_price 32 = .ok (.iastore, 1) := by decide +kernel
theorem dX6_price_33 : decode cX6_price 33 = .ok (.iload_n 3, 1) := by decide +kernel
theorem dX6_price_34 : decode cX6_price 34 = .ok (.ireturn, 1) := by decide +kernel
theorem dX6_allow_0 : decode cX6_allow 0 = .ok (.iload_n 1, 1) := by decide +kernel
theorem dX6_allow_1 : decode cX6_allow 1 = .ok (.ifCond .lt 10, 3) := by decide +kernel
theorem dX6_allow_4 : decode cX6_allow 4 = .ok (.iload_n 1, 1) := by decide +kernel
theorem dX6_allow_5 : decode cX6_allow 5 = .ok (.sipush 511, 3) := by decide +kernel
theorem dX6_allow_8 : decode cX6_allow 8 = .ok (.if_icmp .le 5, 3) := by decide +kernel
theorem dX6_allow_11 : decode cX6_allow 11 = .ok (.iconst (-1), 1) := by decide +kernel
theorem dX6_allow_12 : decode cX6_allow 12 = .ok (.ireturn, 1) := by decide +kernel
theorem dX6_allow_13 : decode cX6_allow 13 = .ok (.aload_n 0, 1) := by decide +kernel
theorem dX6_allow_14 : decode cX6_allow 14 = .ok (.getfield 20, 3) := by decide +kernel
theorem dX6_allow_17 : decode cX6_allow 17 = .ok (.istore_n 2, 1) := by decide +kernel
theorem dX6_allow_18 : decode cX6_allow 18 = .ok (.aload_n 0, 1) := by decide +kernel
theorem dX6_allow_19 : decode cX6_allow 19 = .ok (.iload_n 1, 1) := by decide +kernel
theorem dX6_allow_20 : decode cX6_allow 20 = .ok (.putfield 20, 3) := by decide +kernel
theorem dX6_allow_23 : decode cX6_allow 23 = .ok (.iload_n 2, 1) := by decide +kernel
theorem dX6_allow_24 : decode cX6_allow 24 = .ok (.ireturn, 1) := by decide +kernel
theorem dX6_say_0 : decode cX6_say 0 = .ok (.iload_n 1, 1) := by decide +kernel
theorem dX6_say_1 : decode cX6_say 1 = .ok (.invokestatic 129, 3) := by decide +kernel
theorem dX6_say_4 : decode cX6_say 4 = .ok (.ifCond .eq 21, 3) := by decide +kernel
theorem dX6_say_7 : decode cX6_say 7 = .ok (.iload_n 2, 1) := by decide +kernel
theorem dX6_say_8 : decode cX6_say 8 = .ok (.getstatic 132, 3) := by decide +kernel
theorem dX6_say_11 : decode cX6_say 11 = .ok (.iload_n 1, 1) := by decide +kernel
theorem dX6_say_12 : decode cX6_say 12 = .ok (.iaload, 1) := by decide +kernel
theorem dX6_say_13 : decode cX6_say 13 = .ok (.if_icmp .lt 12, 3) := by decide +kernel
theorem dX6_say_16 : decode cX6_say 16 = .ok (.iload_n 2, 1) := by decide +kernel
theorem dX6_say_17 : decode cX6_say 17 = .ok (.getstatic 135, 3) := by decide +kernel
theorem dX6_say_20 : decode cX6_say 20 = .ok (.iload_n 1, 1) := by decide +kernel
theorem dX6_say_21 : decode cX6_say 21 = .ok (.iaload, 1) := by decide +kernel
theorem dX6_say_22 : decode cX6_say 22 = .ok (.if_icmp .le 5, 3) := by decide +kernel
theorem dX6_say_25 : decode cX6_say 25 = .ok (.iconst (-1), 1) := by decide +kernel
theorem dX6_say_26 : decode cX6_say 26 = .ok (.ireturn, 1) := by decide +kernel
theorem dX6_say_27 : decode cX6_say 27 = .ok (.aload_n 0, 1) := by decide +kernel
theorem dX6_say_28 : decode cX6_say 28 = .ok (.getfield 29, 3) := by decide +kernel
theorem dX6_say_31 : decode cX6_say 31 = .ok (.iload_n 1, 1) := by decide +kernel
theorem dX6_say_32 : decode cX6_say 32 = .ok (.bipush 10, 2) := by decide +kernel
theorem dX6_say_34 : decode cX6_say 34 = .ok (.imul, 1) := by decide +kernel
theorem dX6_say_35 : decode cX6_say 35 = .ok (.iload_n 2, 1) := by decide +kernel
theorem dX6_say_36 : decode cX6_say 36 = .ok (.iadd, 1) := by decide +kernel
theorem dX6_say_37 : decode cX6_say 37 = .ok (.invokevirtual 138, 3) := by decide +kernel
theorem dX6_say_40 : decode cX6_say 40 = .ok (.ifCond .eq 13, 3) := by decide +kernel
theorem dX6_say_43 : decode cX6_say 43 = .ok (.aload_n 0, 1) := by decide +kernel
theorem dX6_say_44 : decode cX6_say 44 = .ok (.getfield 29, 3) := by decide +kernel
theorem dX6_say_47 : decode cX6_say 47 = .ok (.getfield 141, 3) := by decide +kernel
theorem dX6_say_50 : decode cX6_say 50 = .ok (.goto 4, 3) := by decide +kernel
theorem dX6_say_53 : decode cX6_say 53 = .ok (.iconst (-1), 1) := by decide +kernel
theorem dX6_say_54 : decode cX6_say 54 = .ok (.ireturn, 1) := by decide +kernel
theorem dX6_hush_0 : decode cX6_hush 0 = .ok (.aload_n 0, 1) := by decide +kernel
theorem dX6_hush_1 : decode cX6_hush 1 = .ok (.getfield 29, 3) := by decide +kernel
theorem dX6_hush_4 : decode cX6_hush 4 = .ok (.getfield 141, 3) := by decide +kernel
theorem dX6_hush_7 : decode cX6_hush 7 = .ok (.istore_n 1, 1) := by decide +kernel
theorem dX6_hush_8 : decode cX6_hush 8 = .ok (.aload_n 0, 1) := by decide +kernel
theorem dX6_hush_9 : decode cX6_hush 9 = .ok (.getfield 29, 3) := by decide +kernel
theorem dX6_hush_12 : decode cX6_hush 12 = .ok (.invokevirtual 144, 3) := by decide +kernel
theorem dX6_hush_15 : decode cX6_hush 15 = .ok (.iload_n 1, 1) := by decide +kernel
theorem dX6_hush_16 : decode cX6_hush 16 = .ok (.ireturn, 1) := by decide +kernel
theorem dX6_said_0 : decode cX6_said 0 = .ok (.aload_n 0, 1) := by decide +kernel
theorem dX6_said_1 : decode cX6_said 1 = .ok (.getfield 29, 3) := by decide +kernel
theorem dX6_said_4 : decode cX6_said 4 = .ok (.iload_n 1, 1) := by decide +kernel
theorem dX6_said_5 : decode cX6_said 5 = .ok (.invokevirtual 147, 3) := by decide +kernel
theorem dX6_said_8 : decode cX6_said 8 = .ok (.ireturn, 1) := by decide +kernel
theorem dX6_walk_0 : decode cX6_walk 0 = .ok (.aload_n 0, 1) := by decide +kernel
theorem dX6_walk_1 : decode cX6_walk 1 = .ok (.getfield 12, 3) := by decide +kernel
theorem dX6_walk_4 : decode cX6_walk 4 = .ok (.iload_n 1, 1) := by decide +kernel
theorem dX6_walk_5 : decode cX6_walk 5 = .ok (.invokevirtual 150, 3) := by decide +kernel
theorem dX6_walk_8 : decode cX6_walk 8 = .ok (.ifCond .eq 10, 3) := by decide +kernel
theorem dX6_walk_11 : decode cX6_walk 11 = .ok (.iload_n 2, 1) := by decide +kernel
theorem dX6_walk_12 : decode cX6_walk 12 = .ok (.invokestatic 153, 3) := by decide +kernel
theorem dX6_walk_15 : decode cX6_walk 15 = .ok (.ifCond .ne 5, 3) := by decide +kernel
theorem dX6_walk_18 : decode cX6_walk 18 = .ok (.iconst (-1), 1) := by decide +kernel
theorem dX6_walk_19 : decode cX6_walk 19 = .ok (.ireturn, 1) := by decide +kernel
theorem dX6_walk_20 : decode cX6_walk 20 = .ok (.aload_n 0, 1) := by decide +kernel
theorem dX6_walk_21 : decode cX6_walk 21 = .ok (.iconst 1, 1) := by decide +kernel
theorem dX6_walk_22 : decode cX6_walk 22 = .ok (.putfield 42, 3) := by decide +kernel
theorem dX6_walk_25 : decode cX6_walk 25 = .ok (.aload_n 0, 1) := by decide +kernel
theorem dX6_walk_26 : decode cX6_walk 26 = .ok (.getfield 38, 3) := by decide +kernel
theorem dX6_walk_29 : decode cX6_walk 29 = .ok (.iload_n 1, 1) := by decide +kernel
theorem dX6_walk_30 : decode cX6_walk 30 = .ok (.iload_n 2, 1) := by decide +kernel
theorem dX6_walk_31 : decode cX6_walk 31 = .ok (.invokevirtual 156, 3) := by decide +kernel
theorem dX6_walk_34 : decode cX6_walk 34 = .ok (.aload_n 0, 1) := by decide +kernel
theorem dX6_walk_35 : decode cX6_walk 35 = .ok (.getfield 38, 3) := by decide +kernel
theorem dX6_walk_38 : decode cX6_walk 38 = .ok (.aload_n 0, 1) := by decide +kernel
theorem dX6_walk_39 : decode cX6_walk 39 = .ok (.getfield 29, 3) := by decide +kernel
theorem dX6_walk_42 : decode cX6_walk 42 = .ok (.iconst (-1), 1) := by decide +kernel
theorem dX6_walk_43 : decode cX6_walk 43 = .ok (.invokevirtual 159, 3) := by decide +kernel
theorem dX6_walk_46 : decode cX6_walk 46 = .ok (.istore_n 3, 1) := by decide +kernel
theorem dX6_walk_47 : decode cX6_walk 47 = .ok (.iload_n 3, 1) := by decide +kernel
theorem dX6_walk_48 : decode cX6_walk 48 = .ok (.iconst (-1), 1) := by decide +kernel
theorem dX6_walk_49 : decode cX6_walk 49 = .ok (.if_icmp .ne 13, 3) := by decide +kernel
theorem dX6_walk_52 : decode cX6_walk 52 = .ok (.aload_n 0, 1) := by decide +kernel
theorem dX6_walk_53 : decode cX6_walk 53 = .ok (.getfield 38, 3) := by decide +kernel
theorem dX6_walk_56 : decode cX6_walk 56 = .ok (.getfield 163, 3) := by decide +kernel
theorem dX6_walk_59 : decode cX6_walk 59 = .ok (.goto 7, 3) := by decide +kernel
theorem dX6_walk_62 : decode cX6_walk 62 = .ok (.iload_n 3, 1) := by decide +kernel
theorem dX6_walk_63 : decode cX6_walk 63 = .ok (.invokestatic 166, 3) := by decide +kernel
theorem dX6_walk_66 : decode cX6_walk 66 = .ok (.ireturn, 1) := by decide +kernel
theorem dX6_walked_0 : decode cX6_walked 0 = .ok (.aload_n 0, 1) := by decide +kernel
theorem dX6_walked_1 : decode cX6_walked 1 = .ok (.getfield 42, 3) := by decide +kernel
theorem dX6_walked_4 : decode cX6_walked 4 = .ok (.ifCond .ne 5, 3) := by decide +kernel
theorem dX6_walked_7 : decode cX6_walked 7 = .ok (.iconst (-1), 1) := by decide +kernel
theorem dX6_walked_8 : decode cX6_walked 8 = .ok (.ireturn, 1) := by decide +kernel
theorem dX6_walked_9 : decode cX6_walked 9 = .ok (.iload_n 1, 1) := by decide +kernel
theorem dX6_walked_10 : decode cX6_walked 10 = .ok (.tableswitch 50 0 2 #[26, 34, 42], 26) := by decide +kernel
theorem dX6_walked_36 : decode cX6_walked 36 = .ok (.aload_n 0, 1) := by decide +kernel
theorem dX6_walked_37 : decode cX6_walked 37 = .ok (.getfield 38, 3) := by decide +kernel
theorem dX6_walked_40 : decode cX6_walked 40 = .ok (.getfield 163, 3) := by decide +kernel
theorem dX6_walked_43 : decode cX6_walked 43 = .ok (.ireturn, 1) := by decide +kernel
theorem dX6_walked_44 : decode cX6_walked 44 = .ok (.aload_n 0, 1) := by decide +kernel
theorem dX6_walked_45 : decode cX6_walked 45 = .ok (.getfield 38, 3) := by decide +kernel
theorem dX6_walked_48 : decode cX6_walked 48 = .ok (.getfield 169, 3) := by decide +kernel
theorem dX6_walked_51 : decode cX6_walked 51 = .ok (.ireturn, 1) := by decide +kernel
theorem dX6_walked_52 : decode cX6_walked 52 = .ok (.aload_n 0, 1) := by decide +kernel
theorem dX6_walked_53 : decode cX6_walked 53 = .ok (.getfield 38, 3) := by decide +kernel
theorem dX6_walked_56 : decode cX6_walked 56 = .ok (.getfield 172, 3) := by decide +kernel
theorem dX6_walked_59 : decode cX6_walked 59 = .ok (.ireturn, 1) := by decide +kernel
theorem dX6_walked_60 : decode cX6_walked 60 = .ok (.aload_n 0, 1) := by decide +kernel
theorem dX6_walked_61 : decode cX6_walked 61 = .ok (.getfield 38, 3) := by decide +kernel
theorem dX6_walked_64 : decode cX6_walked 64 = .ok (.getfield 175, 3) := by decide +kernel
theorem dX6_walked_67 : decode cX6_walked 67 = .ok (.iload_n 1, 1) := by decide +kernel
theorem dX6_walked_68 : decode cX6_walked 68 = .ok (.invokestatic 178, 3) := by decide +kernel
theorem dX6_walked_71 : decode cX6_walked 71 = .ok (.ireturn, 1) := by decide +kernel
theorem dX6_start_0 : decode cX6_start 0 = .ok (.aload_n 0, 1) := by decide +kernel
theorem dX6_start_1 : decode cX6_start 1 = .ok (.getfield 12, 3) := by decide +kernel
theorem dX6_start_4 : decode cX6_start 4 = .ok (.iload_n 1, 1) := by decide +kernel
theorem dX6_start_5 : decode cX6_start 5 = .ok (.invokevirtual 150, 3) := by decide +kernel
theorem dX6_start_8 : decode cX6_start 8 = .ok (.ifCond .eq 10, 3) := by decide +kernel
theorem dX6_start_11 : decode cX6_start 11 = .ok (.iload_n 2, 1) := by decide +kernel
theorem dX6_start_12 : decode cX6_start 12 = .ok (.invokestatic 153, 3) := by decide +kernel
theorem dX6_start_15 : decode cX6_start 15 = .ok (.ifCond .ne 5, 3) := by decide +kernel
theorem dX6_start_18 : decode cX6_start 18 = .ok (.iconst 0, 1) := by decide +kernel
theorem dX6_start_19 : decode cX6_start 19 = .ok (.ireturn, 1) := by decide +kernel
theorem dX6_start_20 : decode cX6_start 20 = .ok (.aload_n 0, 1) := by decide +kernel
theorem dX6_start_21 : decode cX6_start 21 = .ok (.getfield 52, 3) := by decide +kernel
theorem dX6_start_24 : decode cX6_start 24 = .ok (.iload_n 1, 1) := by decide +kernel
theorem dX6_start_25 : decode cX6_start 25 = .ok (.iload_n 2, 1) := by decide +kernel
theorem dX6_start_26 : decode cX6_start 26 = .ok (.invokevirtual 181, 3) := by decide +kernel
theorem dX6_start_29 : decode cX6_start 29 = .ok (.iconst 1, 1) := by decide +kernel
theorem dX6_start_30 : decode cX6_start 30 = .ok (.ireturn, 1) := by decide +kernel
theorem dX6_go_0 : decode cX6_go 0 = .ok (.aload_n 0, 1) := by decide +kernel
theorem dX6_go_1 : decode cX6_go 1 = .ok (.getfield 52, 3) := by decide +kernel
theorem dX6_go_4 : decode cX6_go 4 = .ok (.getfield 107, 3) := by decide +kernel
theorem dX6_go_7 : decode cX6_go 7 = .ok (.ifCond .ne 5, 3) := by decide +kernel
theorem dX6_go_10 : decode cX6_go 10 = .ok (.iconst (-1), 1) := by decide +kernel
theorem dX6_go_11 : decode cX6_go 11 = .ok (.ireturn, 1) := by decide +kernel
theorem dX6_go_12 : decode cX6_go 12 = .ok (.aload_n 0, 1) := by decide +kernel
theorem dX6_go_13 : decode cX6_go 13 = .ok (.getfield 12, 3) := by decide +kernel
theorem dX6_go_16 : decode cX6_go 16 = .ok (.aload_n 0, 1) := by decide +kernel
theorem dX6_go_17 : decode cX6_go 17 = .ok (.invokevirtual 184, 3) := by decide +kernel
theorem dX6_go_20 : decode cX6_go 20 = .ok (.invokestatic 120, 3) := by decide +kernel
theorem dX6_go_23 : decode cX6_go 23 = .ok (.iload_n 1, 1) := by decide +kernel
theorem dX6_go_24 : decode cX6_go 24 = .ok (.invokevirtual 101, 3) := by decide +kernel
theorem dX6_go_27 : decode cX6_go 27 = .ok (.iconst (-1), 1) := by decide +kernel
theorem dX6_go_28 : decode cX6_go 28 = .ok (.if_icmp .eq 7, 3) := by decide +kernel
theorem dX6_go_31 : decode cX6_go 31 = .ok (.iconst 1, 1) := by decide +kernel
theorem dX6_go_32 : decode cX6_go 32 = .ok (.goto 4, 3) := by decide +kernel
theorem dX6_go_35 : decode cX6_go 35 = .ok (.iconst 0, 1) := by decide +kernel
theorem dX6_go_36 : decode cX6_go 36 = .ok (.istore_n 2, 1) := by decide +kernel
theorem dX6_go_37 : decode cX6_go 37 = .ok (.iload_n 2, 1) := by decide +kernel
theorem dX6_go_38 : decode cX6_go 38 = .ok (.ifCond .eq 30, 3) := by decide +kernel
theorem dX6_go_41 : decode cX6_go 41 = .ok (.aload_n 0, 1) := by decide +kernel
theorem dX6_go_42 : decode cX6_go 42 = .ok (.getfield 52, 3) := by decide +kernel
theorem dX6_go_45 : decode cX6_go 45 = .ok (.getfield 188, 3) := by decide +kernel
theorem dX6_go_48 : decode cX6_go 48 = .ok (.iload_n 1, 1) := by decide +kernel
theorem dX6_go_49 : decode cX6_go 49 = .ok (.invokevirtual 138, 3) := by decide +kernel
theorem dX6_go_52 : decode cX6_go 52 = .ok (.ifCond .eq 16, 3) := by decide +kernel
theorem dX6_go_55 : decode cX6_go 55 = .ok (.aload_n 0, 1) := by decide +kernel
theorem dX6_go_56 : decode cX6_go 56 = .ok (.getfield 52, 3) := by decide +kernel
theorem dX6_go_59 : decode cX6_go 59 = .ok (.getfield 188, 3) := by decide +kernel
theorem dX6_go_62 : decode cX6_go 62 = .ok (.getfield 141, 3) := by decide +kernel
theorem dX6_go_65 : decode cX6_go 65 = .ok (.goto 4, 3) := by decide +kernel
theorem dX6_go_68 : decode cX6_go 68 = .ok (.iconst (-1), 1) := by decide +kernel
theorem dX6_go_69 : decode cX6_go 69 = .ok (.ireturn, 1) := by decide +kernel
theorem dX6_route_0 : decode cX6_route 0 = .ok (.aload_n 0, 1) := by decide +kernel
theorem dX6_route_1 : decode cX6_route 1 = .ok (.getfield 52, 3) := by decide +kernel
theorem dX6_route_4 : decode cX6_route 4 = .ok (.getfield 107, 3) := by decide +kernel
theorem dX6_route_7 : decode cX6_route 7 = .ok (.ifCond .eq 14, 3) := by decide +kernel
theorem dX6_route_10 : decode cX6_route 10 = .ok (.aload_n 0, 1) := by decide +kernel
theorem dX6_route_11 : decode cX6_route 11 = .ok (.getfield 12, 3) := by decide +kernel
theorem dX6_route_14 : decode cX6_route 14 = .ok (.iload_n 1, 1) := by decide +kernel
theorem dX6_route_15 : decode cX6_route 15 = .ok (.invokevirtual 150, 3) := by decide +kernel
theorem dX6_route_18 : decode cX6_route 18 = .ok (.ifCond .ne 5, 3) := by decide +kernel
theorem dX6_route_21 : decode cX6_route 21 = .ok (.iconst (-1), 1) := by decide +kernel
theorem dX6_route_22 : decode cX6_route 22 = .ok (.ireturn, 1) := by decide +kernel
theorem dX6_route_23 : decode cX6_route 23 = .ok (.aload_n 0, 1) := by decide +kernel
theorem dX6_route_24 : decode cX6_route 24 = .ok (.getfield 12, 3) := by decide +kernel
theorem dX6_route_27 : decode cX6_route 27 = .ok (.iload_n 1, 1) := by decide +kernel
theorem dX6_route_28 : decode cX6_route 28 = .ok (.invokevirtual 189, 3) := by decide +kernel
theorem dX6_route_31 : decode cX6_route 31 = .ok (.aload_n 0, 1) := by decide +kernel
theorem dX6_route_32 : decode cX6_route 32 = .ok (.getfield 12, 3) := by decide +kernel
theorem dX6_route_35 : decode cX6_route 35 = .ok (.aload_n 0, 1) := by decide +kernel
theorem dX6_route_36 : decode cX6_route 36 = .ok (.getfield 52, 3) := by decide +kernel
theorem dX6_route_39 : decode cX6_route 39 = .ok (.getfield 192, 3) := by decide +kernel
theorem dX6_route_42 : decode cX6_route 42 = .ok (.invokevirtual 193, 3) := by decide +kernel
theorem dX6_route_45 : decode cX6_route 45 = .ok (.iconst (-1), 1) := by decide +kernel
theorem dX6_route_46 : decode cX6_route 46 = .ok (.if_icmp .ne 5, 3) := by decide +kernel
theorem dX6_route_49 : decode cX6_route 49 = .ok (.iconst (-1), 1) := by decide +kernel
theorem dX6_route_50 : decode cX6_route 50 = .ok (.ireturn, 1) := by decide +kernel
theorem dX6_route_51 : decode cX6_route 51 = .ok (.aload_n 0, 1) := by decide +kernel
theorem dX6_route_52 : decode cX6_route 52 = .ok (.getfield 52, 3) := by decide +kernel
theorem dX6_route_55 : decode cX6_route 55 = .ok (.getfield 188, 3) := by decide +kernel
theorem dX6_route_58 : decode cX6_route 58 = .ok (.invokevirtual 144, 3) := by decide +kernel
theorem dX6_route_61 : decode cX6_route 61 = .ok (.aload_n 0, 1) := by decide +kernel
theorem dX6_route_62 : decode cX6_route 62 = .ok (.getfield 12, 3) := by decide +kernel
theorem dX6_route_65 : decode cX6_route 65 = .ok (.aload_n 0, 1) := by decide +kernel
theorem dX6_route_66 : decode cX6_route 66 = .ok (.getfield 52, 3) := by decide +kernel
theorem dX6_route_69 : decode cX6_route 69 = .ok (.getfield 192, 3) := by decide +kernel
theorem dX6_route_72 : decode cX6_route 72 = .ok (.aload_n 0, 1) := by decide +kernel
theorem dX6_route_73 : decode cX6_route 73 = .ok (.getfield 52, 3) := by decide +kernel
theorem dX6_route_76 : decode cX6_route 76 = .ok (.getfield 188, 3) := by decide +kernel
theorem dX6_route_79 : decode cX6_route 79 = .ok (.invokevirtual 196, 3) := by decide +kernel
theorem dX6_route_82 : decode cX6_route 82 = .ok (.aload_n 0, 1) := by decide +kernel
theorem dX6_route_83 : decode cX6_route 83 = .ok (.getfield 52, 3) := by decide +kernel
theorem dX6_route_86 : decode cX6_route 86 = .ok (.getfield 188, 3) := by decide +kernel
theorem dX6_route_89 : decode cX6_route 89 = .ok (.getfield 141, 3) := by decide +kernel
theorem dX6_route_92 : decode cX6_route 92 = .ok (.ireturn, 1) := by decide +kernel
theorem dX6_routed_0 : decode cX6_routed 0 = .ok (.aload_n 0, 1) := by decide +kernel
theorem dX6_routed_1 : decode cX6_routed 1 = .ok (.getfield 52, 3) := by decide +kernel
theorem dX6_routed_4 : decode cX6_routed 4 = .ok (.getfield 107, 3) := by decide +kernel
theorem dX6_routed_7 : decode cX6_routed 7 = .ok (.ifCond .ne 5, 3) := by decide +kernel
theorem dX6_routed_10 : decode cX6_routed 10 = .ok (.iconst (-1), 1) := by decide +kernel
theorem dX6_routed_11 : decode cX6_routed 11 = .ok (.ireturn, 1) := by decide +kernel
theorem dX6_routed_12 : decode cX6_routed 12 = .ok (.iload_n 1, 1) := by decide +kernel
theorem dX6_routed_13 : decode cX6_routed 13 = .ok (.tableswitch 54 0 2 #[27, 38, 46], 27) := by decide +kernel
theorem dX6_routed_40 : decode cX6_routed 40 = .ok (.aload_n 0, 1) := by decide +kernel
theorem dX6_routed_41 : decode cX6_routed 41 = .ok (.getfield 52, 3) := by decide +kernel
theorem dX6_routed_44 : decode cX6_routed 44 = .ok (.getfield 188, 3) := by decide +kernel
theorem dX6_routed_47 : decode cX6_routed 47 = .ok (.getfield 141, 3) := by decide +kernel
theorem dX6_routed_50 : decode cX6_routed 50 = .ok (.ireturn, 1) := by decide +kernel
theorem dX6_routed_51 : decode cX6_routed 51 = .ok (.aload_n 0, 1) := by decide +kernel
theorem dX6_routed_52 : decode cX6_routed 52 = .ok (.invokevirtual 184, 3) := by decide +kernel
theorem dX6_routed_55 : decode cX6_routed 55 = .ok (.invokestatic 120, 3) := by decide +kernel
theorem dX6_routed_58 : decode cX6_routed 58 = .ok (.ireturn, 1) := by decide +kernel
theorem dX6_routed_59 : decode cX6_routed 59 = .ok (.aload_n 0, 1) := by decide +kernel
theorem dX6_routed_60 : decode cX6_routed 60 = .ok (.invokevirtual 184, 3) := by decide +kernel
theorem dX6_routed_63 : decode cX6_routed 63 = .ok (.invokestatic 200, 3) := by decide +kernel
theorem dX6_routed_66 : decode cX6_routed 66 = .ok (.ireturn, 1) := by decide +kernel
theorem dX6_routed_67 : decode cX6_routed 67 = .ok (.aload_n 0, 1) := by decide +kernel
theorem dX6_routed_68 : decode cX6_routed 68 = .ok (.getfield 52, 3) := by decide +kernel
theorem dX6_routed_71 : decode cX6_routed 71 = .ok (.getfield 188, 3) := by decide +kernel
theorem dX6_routed_74 : decode cX6_routed 74 = .ok (.iload_n 1, 1) := by decide +kernel
theorem dX6_routed_75 : decode cX6_routed 75 = .ok (.invokestatic 178, 3) := by decide +kernel
theorem dX6_routed_78 : decode cX6_routed 78 = .ok (.ireturn, 1) := by decide +kernel
theorem dX6_tell_0 : decode cX6_tell 0 = .ok (.aload_n 0, 1) := by decide +kernel
theorem dX6_tell_1 : decode cX6_tell 1 = .ok (.getfield 52, 3) := by decide +kernel
theorem dX6_tell_4 : decode cX6_tell 4 = .ok (.getfield 107, 3) := by decide +kernel
theorem dX6_tell_7 : decode cX6_tell 7 = .ok (.ifCond .ne 5, 3) := by decide +kernel
theorem dX6_tell_10 : decode cX6_tell 10 = .ok (.iconst (-1), 1) := by decide +kernel
theorem dX6_tell_11 : decode cX6_tell 11 = .ok (.ireturn, 1) := by decide +kernel
theorem dX6_tell_12 : decode cX6_tell 12 = .ok (.aload_n 0, 1) := by decide +kernel
theorem dX6_tell_13 : decode cX6_tell 13 = .ok (.invokevirtual 203, 3) := by decide +kernel
theorem dX6_tell_16 : decode cX6_tell 16 = .ok (.aload_n 0, 1) := by decide +kernel
theorem dX6_tell_17 : decode cX6_tell 17 = .ok (.getfield 59, 3) := by decide +kernel
theorem dX6_tell_20 : decode cX6_tell 20 = .ok (.iconst 0, 1) := by decide +kernel
theorem dX6_tell_21 : decode cX6_tell 21 = .ok (.aload_n 0, 1) := by decide +kernel
theorem dX6_tell_22 : decode cX6_tell 22 = .ok (.getfield 29, 3) := by decide +kernel
theorem dX6_tell_25 : decode cX6_tell 25 = .ok (.invokevirtual 206, 3) := by decide +kernel
theorem dX6_tell_28 : decode cX6_tell 28 = .ok (.ireturn, 1) := by decide +kernel
theorem dX6_holds_0 : decode cX6_holds 0 = .ok (.aload_n 0, 1) := by decide +kernel
theorem dX6_holds_1 : decode cX6_holds 1 = .ok (.getfield 52, 3) := by decide +kernel
theorem dX6_holds_4 : decode cX6_holds 4 = .ok (.getfield 107, 3) := by decide +kernel
theorem dX6_holds_7 : decode cX6_holds 7 = .ok (.ifCond .ne 5, 3) := by decide +kernel
theorem dX6_holds_10 : decode cX6_holds 10 = .ok (.iconst (-1), 1) := by decide +kernel
theorem dX6_holds_11 : decode cX6_holds 11 = .ok (.ireturn, 1) := by decide +kernel
theorem dX6_holds_12 : decode cX6_holds 12 = .ok (.aload_n 0, 1) := by decide +kernel
theorem dX6_holds_13 : decode cX6_holds 13 = .ok (.aload_n 0, 1) := by decide +kernel
theorem dX6_holds_14 : decode cX6_holds 14 = .ok (.getfield 52, 3) := by decide +kernel
theorem dX6_holds_17 : decode cX6_holds 17 = .ok (.aload_n 0, 1) := by decide +kernel
theorem dX6_holds_18 : decode cX6_holds 18 = .ok (.getfield 29, 3) := by decide +kernel
theorem dX6_holds_21 : decode cX6_holds 21 = .ok (.invokevirtual 210, 3) := by decide +kernel
theorem dX6_holds_24 : decode cX6_holds 24 = .ok (.ifCond .eq 7, 3) := by decide +kernel
theorem dX6_holds_27 : decode cX6_holds 27 = .ok (.iconst 1, 1) := by decide +kernel
theorem dX6_holds_28 : decode cX6_holds 28 = .ok (.goto 4, 3) := by decide +kernel
theorem dX6_holds_31 : decode cX6_holds 31 = .ok (.iconst 0, 1) := by decide +kernel
theorem dX6_holds_32 : decode cX6_holds 32 = .ok (.ireturn, 1) := by decide +kernel
theorem dX6_slip_0 : decode cX6_slip 0 = .ok (.aload_n 0, 1) := by decide +kernel
theorem dX6_slip_1 : decode cX6_slip 1 = .ok (.getfield 52, 3) := by decide +kernel
theorem dX6_slip_4 : decode cX6_slip 4 = .ok (.getfield 107, 3) := by decide +kernel
theorem dX6_slip_7 : decode cX6_slip 7 = .ok (.ifCond .eq 17, 3) := by decide +kernel
theorem dX6_slip_10 : decode cX6_slip 10 = .ok (.aload_n 0, 1) := by decide +kernel
theorem dX6_slip_11 : decode cX6_slip 11 = .ok (.getfield 29, 3) := by decide +kernel
theorem dX6_slip_14 : decode cX6_slip 14 = .ok (.iload_n 1, 1) := by decide +kernel
theorem dX6_slip_15 : decode cX6_slip 15 = .ok (.invokevirtual 147, 3) := by decide +kernel
theorem dX6_slip_18 : decode cX6_slip 18 = .ok (.invokestatic 214, 3) := by decide +kernel
theorem dX6_slip_21 : decode cX6_slip 21 = .ok (.ifCond .ne 5, 3) := by decide +kernel
theorem dX6_slip_24 : decode cX6_slip 24 = .ok (.iconst (-1), 1) := by decide +kernel
theorem dX6_slip_25 : decode cX6_slip 25 = .ok (.ireturn, 1) := by decide +kernel
theorem dX6_slip_26 : decode cX6_slip 26 = .ok (.aload_n 0, 1) := by decide +kernel
theorem dX6_slip_27 : decode cX6_slip 27 = .ok (.getfield 46, 3) := by decide +kernel
theorem dX6_slip_30 : decode cX6_slip 30 = .ok (.aload_n 0, 1) := by decide +kernel
theorem dX6_slip_31 : decode cX6_slip 31 = .ok (.getfield 52, 3) := by decide +kernel
theorem dX6_slip_34 : decode cX6_slip 34 = .ok (.getfield 192, 3) := by decide +kernel
theorem dX6_slip_37 : decode cX6_slip 37 = .ok (.aload_n 0, 1) := by decide +kernel
theorem dX6_slip_38 : decode cX6_slip 38 = .ok (.getfield 52, 3) := by decide +kernel
theorem dX6_slip_41 : decode cX6_slip 41 = .ok (.getfield 217, 3) := by decide +kernel
theorem dX6_slip_44 : decode cX6_slip 44 = .ok (.invokevirtual 156, 3) := by decide +kernel
theorem dX6_slip_47 : decode cX6_slip 47 = .ok (.aload_n 0, 1) := by decide +kernel
theorem dX6_slip_48 : decode cX6_slip 48 = .ok (.getfield 46, 3) := by decide +kernel
theorem dX6_slip_51 : decode cX6_slip 51 = .ok (.aload_n 0, 1) := by decide +kernel
theorem dX6_slip_52 : decode cX6_slip 52 = .ok (.getfield 29, 3) := by decide +kernel
theorem dX6_slip_55 : decode cX6_slip 55 = .ok (.iload_n 1, 1) := by decide +kernel
theorem dX6_slip_56 : decode cX6_slip 56 = .ok (.invokevirtual 159, 3) := by decide +kernel
theorem dX6_slip_59 : decode cX6_slip 59 = .ok (.istore_n 2, 1) := by decide +kernel
theorem dX6_slip_60 : decode cX6_slip 60 = .ok (.iload_n 2, 1) := by decide +kernel
theorem dX6_slip_61 : decode cX6_slip 61 = .ok (.iconst (-1), 1) := by decide +kernel
theorem dX6_slip_62 : decode cX6_slip 62 = .ok (.if_icmp .eq 8, 3) := by decide +kernel
theorem dX6_slip_65 : decode cX6_slip 65 = .ok (.iload_n 2, 1) := by decide +kernel
theorem dX6_slip_66 : decode cX6_slip 66 = .ok (.invokestatic 166, 3) := by decide +kernel
theorem dX6_slip_69 : decode cX6_slip 69 = .ok (.ireturn, 1) := by decide +kernel
theorem dX6_slip_70 : decode cX6_slip 70 = .ok (.aload_n 0, 1) := by decide +kernel
theorem dX6_slip_71 : decode cX6_slip 71 = .ok (.getfield 46, 3) := by decide +kernel
theorem dX6_slip_74 : decode cX6_slip 74 = .ok (.getfield 163, 3) := by decide +kernel
theorem dX6_slip_77 : decode cX6_slip 77 = .ok (.aload_n 0, 1) := by decide +kernel
theorem dX6_slip_78 : decode cX6_slip 78 = .ok (.invokevirtual 184, 3) := by decide +kernel
theorem dX6_slip_81 : decode cX6_slip 81 = .ok (.invokestatic 120, 3) := by decide +kernel
theorem dX6_slip_84 : decode cX6_slip 84 = .ok (.if_icmp .ne 7, 3) := by decide +kernel
theorem dX6_slip_87 : decode cX6_slip 87 = .ok (.iconst 1, 1) := by decide +kernel
theorem dX6_slip_88 : decode cX6_slip 88 = .ok (.goto 4, 3) := by decide +kernel
theorem dX6_slip_91 : decode cX6_slip 91 = .ok (.iconst 0, 1) := by decide +kernel
theorem dX6_slip_92 : decode cX6_slip 92 = .ok (.ireturn, 1) := by decide +kernel
theorem dX6_best_0 : decode cX6_best 0 = .ok (.aload_n 0, 1) := by decide +kernel
theorem dX6_best_1 : decode cX6_best 1 = .ok (.getfield 12, 3) := by decide +kernel
theorem dX6_best_4 : decode cX6_best 4 = .ok (.iload_n 1, 1) := by decide +kernel
theorem dX6_best_5 : decode cX6_best 5 = .ok (.invokevirtual 150, 3) := by decide +kernel
theorem dX6_best_8 : decode cX6_best 8 = .ok (.ifCond .eq 21, 3) := by decide +kernel
theorem dX6_best_11 : decode cX6_best 11 = .ok (.iload_n 2, 1) := by decide +kernel
theorem dX6_best_12 : decode cX6_best 12 = .ok (.invokestatic 153, 3) := by decide +kernel
theorem dX6_best_15 : decode cX6_best 15 = .ok (.ifCond .eq 14, 3) := by decide +kernel
theorem dX6_best_18 : decode cX6_best 18 = .ok (.aload_n 0, 1) := by decide +kernel
theorem dX6_best_19 : decode cX6_best 19 = .ok (.getfield 12, 3) := by decide +kernel
theorem dX6_best_22 : decode cX6_best 22 = .ok (.iload_n 3, 1) := by decide +kernel
theorem dX6_best_23 : decode cX6_best 23 = .ok (.invokevirtual 150, 3) := by decide +kernel
theorem dX6_best_26 : decode cX6_best 26 = .ok (.ifCond .ne 5, 3) := by decide +kernel
theorem dX6_best_29 : decode cX6_best 29 = .ok (.iconst (-1), 1) := by decide +kernel
theorem dX6_best_30 : decode cX6_best 30 = .ok (.ireturn, 1) := by decide +kernel
theorem dX6_best_31 : decode cX6_best 31 = .ok (.aload_n 0, 1) := by decide +kernel
theorem dX6_best_32 : decode cX6_best 32 = .ok (.iload_n 3, 1) := by decide +kernel
theorem dX6_best_33 : decode cX6_best 33 = .ok (.invokevirtual 218, 3) := by decide +kernel
theorem dX6_best_36 : decode cX6_best 36 = .ok (.aload_n 0, 1) := by decide +kernel
theorem dX6_best_37 : decode cX6_best 37 = .ok (.getfield 59, 3) := by decide +kernel
theorem dX6_best_40 : decode cX6_best 40 = .ok (.iload_n 1, 1) := by decide +kernel
theorem dX6_best_41 : decode cX6_best 41 = .ok (.iload_n 2, 1) := by decide +kernel
theorem dX6_best_42 : decode cX6_best 42 = .ok (.invokestatic 93, 3) := by decide +kernel
theorem dX6_best_45 : decode cX6_best 45 = .ok (.aload_n 0, 1) := by decide +kernel
theorem dX6_best_46 : decode cX6_best 46 = .ok (.getfield 29, 3) := by decide +kernel
theorem dX6_best_49 : decode cX6_best 49 = .ok (.invokevirtual 206, 3) := by decide +kernel
theorem dX6_best_52 : decode cX6_best 52 = .ok (.ireturn, 1) := by decide +kernel
theorem dX6_keep_0 : decode cX6_keep 0 = .ok (.aload_n 0, 1) := by decide +kernel
theorem dX6_keep_1 : decode cX6_keep 1 = .ok (.getfield 52, 3) := by decide +kernel
theorem dX6_keep_4 : decode cX6_keep 4 = .ok (.getfield 107, 3) := by decide +kernel
theorem dX6_keep_7 : decode cX6_keep 7 = .ok (.ifCond .eq 19, 3) := by decide +kernel
theorem dX6_keep_10 : decode cX6_keep 10 = .ok (.aload_n 0, 1) := by decide +kernel
theorem dX6_keep_11 : decode cX6_keep 11 = .ok (.getfield 69, 3) := by decide +kernel
theorem dX6_keep_14 : decode cX6_keep 14 = .ok (.ifCond .lt 12, 3) := by decide +kernel
theorem dX6_keep_17 : decode cX6_keep 17 = .ok (.aload_n 0, 1) := by decide +kernel
theorem dX6_keep_18 : decode cX6_keep 18 = .ok (.getfield 69, 3) := by decide +kernel
theorem dX6_keep_21 : decode cX6_keep 21 = .ok (.bipush 8, 2) := by decide +kernel
theorem dX6_keep_23 : decode cX6_keep 23 = .ok (.if_icmp .lt 5, 3) := by decide +kernel
theorem dX6_keep_26 : decode cX6_keep 26 = .ok (.iconst (-1), 1) := by decide +kernel
theorem dX6_keep_27 : decode cX6_keep 27 = .ok (.ireturn, 1) := by decide +kernel
theorem dX6_keep_28 : decode cX6_keep 28 = .ok (.aload_n 0, 1) := by decide +kernel
theorem dX6_keep_29 : decode cX6_keep 29 = .ok (.getfield 65, 3) := by decide +kernel
theorem dX6_keep_32 : decode cX6_keep 32 = .ok (.aload_n 0, 1) := by decide +kernel
theorem dX6_keep_33 : decode cX6_keep 33 = .ok (.getfield 69, 3) := by decide +kernel
theorem dX6_keep_36 : decode cX6_keep 36 = .ok (.new 63, 3) := by decide +kernel
theorem dX6_keep_39 : decode cX6_keep 39 = .ok (.dup, 1) := by decide +kernel
theorem dX6_keep_40 : decode cX6_keep 40 = .ok (.aload_n 0, 1) := by decide +kernel
theorem dX6_keep_41 : decode cX6_keep 41 = .ok (.getfield 52, 3) := by decide +kernel
theorem dX6_keep_44 : decode cX6_keep 44 = .ok (.aload_n 0, 1) := by decide +kernel
theorem dX6_keep_45 : decode cX6_keep 45 = .ok (.getfield 29, 3) := by decide +kernel
theorem dX6_keep_48 : decode cX6_keep 48 = .ok (.invokespecial 221, 3) := by decide +kernel
theorem dX6_keep_51 : decode cX6_keep 51 = .ok (.aastore, 1) := by decide +kernel
theorem dX6_keep_52 : decode cX6_keep 52 = .ok (.aload_n 0, 1) := by decide +kernel
theorem dX6_keep_53 : decode cX6_keep 53 = .ok (.dup, 1) := by decide +kernel
theorem dX6_keep_54 : decode cX6_keep 54 = .ok (.getfield 69, 3) := by decide +kernel
theorem dX6_keep_57 : decode cX6_keep 57 = .ok (.iconst 1, 1) := by decide +kernel
theorem dX6_keep_58 : decode cX6_keep 58 = .ok (.iadd, 1) := by decide +kernel
theorem dX6_keep_59 : decode cX6_keep 59 = .ok (.putfield 69, 3) := by decide +kernel
theorem dX6_keep_62 : decode cX6_keep 62 = .ok (.aload_n 0, 1) := by decide +kernel
theorem dX6_keep_63 : decode cX6_keep 63 = .ok (.getfield 69, 3) := by decide +kernel
theorem dX6_keep_66 : decode cX6_keep 66 = .ok (.iconst 1, 1) := by decide +kernel
theorem dX6_keep_67 : decode cX6_keep 67 = .ok (.isub, 1) := by decide +kernel
theorem dX6_keep_68 : decode cX6_keep 68 = .ok (.ireturn, 1) := by decide +kernel
theorem dX6_still_0 : decode cX6_still 0 = .ok (.iload_n 1, 1) := by decide +kernel
theorem dX6_still_1 : decode cX6_still 1 = .ok (.ifCond .lt 18, 3) := by decide +kernel
theorem dX6_still_4 : decode cX6_still 4 = .ok (.iload_n 1, 1) := by decide +kernel
theorem dX6_still_5 : decode cX6_still 5 = .ok (.bipush 8, 2) := by decide +kernel
theorem dX6_still_7 : decode cX6_still 7 = .ok (.if_icmp .ge 12, 3) := by decide +kernel
theorem dX6_still_10 : decode cX6_still 10 = .ok (.aload_n 0, 1) := by decide +kernel
theorem dX6_still_11 : decode cX6_still 11 = .ok (.getfield 65, 3) := by decide +kernel
theorem dX6_still_14 : decode cX6_still 14 = .ok (.iload_n 1, 1) := by decide +kernel
theorem dX6_still_15 : decode cX6_still 15 = .ok (.aaload, 1) := by decide +kernel
theorem dX6_still_16 : decode cX6_still 16 = .ok (.goto 4, 3) := by decide +kernel
theorem dX6_still_19 : decode cX6_still 19 = .ok (.aconst_null, 1) := by decide +kernel
theorem dX6_still_20 : decode cX6_still 20 = .ok (.astore_n 2, 1) := by decide +kernel
theorem dX6_still_21 : decode cX6_still 21 = .ok (.aload_n 2, 1) := by decide +kernel
theorem dX6_still_22 : decode cX6_still 22 = .ok (.ifnonnull 5, 3) := by decide +kernel
theorem dX6_still_25 : decode cX6_still 25 = .ok (.iconst (-1), 1) := by decide +kernel
theorem dX6_still_26 : decode cX6_still 26 = .ok (.ireturn, 1) := by decide +kernel
theorem dX6_still_27 : decode cX6_still 27 = .ok (.aload_n 0, 1) := by decide +kernel
theorem dX6_still_28 : decode cX6_still 28 = .ok (.aload_n 2, 1) := by decide +kernel
theorem dX6_still_29 : decode cX6_still 29 = .ok (.getfield 224, 3) := by decide +kernel
theorem dX6_still_32 : decode cX6_still 32 = .ok (.aload_n 2, 1) := by decide +kernel
theorem dX6_still_33 : decode cX6_still 33 = .ok (.getfield 225, 3) := by decide +kernel
theorem dX6_still_36 : decode cX6_still 36 = .ok (.invokevirtual 210, 3) := by decide +kernel
theorem dX6_still_39 : decode cX6_still 39 = .ok (.ifCond .eq 7, 3) := by decide +kernel
theorem dX6_still_42 : decode cX6_still 42 = .ok (.iconst 1, 1) := by decide +kernel
theorem dX6_still_43 : decode cX6_still 43 = .ok (.goto 4, 3) := by decide +kernel
theorem dX6_still_46 : decode cX6_still 46 = .ok (.iconst 0, 1) := by decide +kernel
theorem dX6_still_47 : decode cX6_still 47 = .ok (.ireturn, 1) := by decide +kernel
theorem dX6_count_0 : decode cX6_count 0 = .ok (.iload_n 1, 1) := by decide +kernel
theorem dX6_count_1 : decode cX6_count 1 = .ok (.tableswitch 78 0 5 #[39, 47, 55, 63, 68, 73], 39) := by decide +kernel
theorem dX6_count_40 : decode cX6_count 40 = .ok (.aload_n 0, 1) := by decide +kernel
theorem dX6_count_41 : decode cX6_count 41 = .ok (.getfield 12, 3) := by decide +kernel
theorem dX6_count_44 : decode cX6_count 44 = .ok (.getfield 226, 3) := by decide +kernel
theorem dX6_count_47 : decode cX6_count 47 = .ok (.ireturn, 1) := by decide +kernel
theorem dX6_count_48 : decode cX6_count 48 = .ok (.aload_n 0, 1) := by decide +kernel
theorem dX6_count_49 : decode cX6_count 49 = .ok (.getfield 12, 3) := by decide +kernel
theorem dX6_count_52 : decode cX6_count 52 = .ok (.getfield 229, 3) := by decide +kernel
theorem dX6_count_55 : decode cX6_count 55 = .ok (.ireturn, 1) := by decide +kernel
theorem dX6_count_56 : decode cX6_count 56 = .ok (.aload_n 0, 1) := by decide +kernel
theorem dX6_count_57 : decode cX6_count 57 = .ok (.getfield 29, 3) := by decide +kernel
theorem dX6_count_60 : decode cX6_count 60 = .ok (.getfield 141, 3) := by decide +kernel
theorem dX6_count_63 : decode cX6_count 63 = .ok (.ireturn, 1) := by decide +kernel
theorem dX6_count_64 : decode cX6_count 64 = .ok (.aload_n 0, 1) := by decide +kernel
theorem dX6_count_65 : decode cX6_count 65 = .ok (.getfield 69, 3) := by decide +kernel
theorem dX6_count_68 : decode cX6_count 68 = .ok (.ireturn, 1) := by decide +kernel
theorem dX6_count_69 : decode cX6_count 69 = .ok (.aload_n 0, 1) := by decide +kernel
theorem dX6_count_70 : decode cX6_count 70 = .ok (.invokevirtual 230, 3) := by decide +kernel
theorem dX6_count_73 : decode cX6_count 73 = .ok (.ireturn, 1) := by decide +kernel
theorem dX6_count_74 : decode cX6_count 74 = .ok (.aload_n 0, 1) := by decide +kernel
theorem dX6_count_75 : decode cX6_count 75 = .ok (.getfield 20, 3) := by decide +kernel
theorem dX6_count_78 : decode cX6_count 78 = .ok (.ireturn, 1) := by decide +kernel
theorem dX6_count_79 : decode cX6_count 79 = .ok (.iconst (-1), 1) := by decide +kernel
theorem dX6_count_80 : decode cX6_count 80 = .ok (.ireturn, 1) := by decide +kernel
theorem dX6_isSight_0 : decode cX6_isSight 0 = .ok (.iload_n 0, 1) := by decide +kernel
theorem dX6_isSight_1 : decode cX6_isSight 1 = .ok (.ifCond .lt 13, 3) := by decide +kernel
theorem dX6_isSight_4 : decode cX6_isSight 4 = .ok (.iload_n 0, 1) := by decide +kernel
theorem dX6_isSight_5 : decode cX6_isSight 5 = .ok (.bipush 7, 2) := by decide +kernel
theorem dX6_isSight_7 : decode cX6_isSight 7 = .ok (.if_icmp .gt 7, 3) := by decide +kernel
theorem dX6_isSight_10 : decode cX6_isSight 10 = .ok (.iconst 1, 1) := by decide +kernel
theorem dX6_isSight_11 : decode cX6_isSight 11 = .ok (.goto 4, 3) := by decide +kernel
theorem dX6_isSight_14 : decode cX6_isSight 14 = .ok (.iconst 0, 1) := by decide +kernel
theorem dX6_isSight_15 : decode cX6_isSight 15 = .ok (.ireturn, 1) := by decide +kernel
theorem dX6_isExit_0 : decode cX6_isExit 0 = .ok (.iload_n 0, 1) := by decide +kernel
theorem dX6_isExit_1 : decode cX6_isExit 1 = .ok (.ifCond .lt 12, 3) := by decide +kernel
theorem dX6_isExit_4 : decode cX6_isExit 4 = .ok (.iload_n 0, 1) := by decide +kernel
theorem dX6_isExit_5 : decode cX6_isExit 5 = .ok (.iconst 4, 1) := by decide +kernel
theorem dX6_isExit_6 : decode cX6_isExit 6 = .ok (.if_icmp .ge 7, 3) := by decide +kernel
theorem dX6_isExit_9 : decode cX6_isExit 9 = .ok (.iconst 1, 1) := by decide +kernel
theorem dX6_isExit_10 : decode cX6_isExit 10 = .ok (.goto 4, 3) := by decide +kernel
theorem dX6_isExit_13 : decode cX6_isExit 13 = .ok (.iconst 0, 1) := by decide +kernel
theorem dX6_isExit_14 : decode cX6_isExit 14 = .ok (.ireturn, 1) := by decide +kernel
theorem dX6_isKind_0 : decode cX6_isKind 0 = .ok (.iload_n 0, 1) := by decide +kernel
theorem dX6_isKind_1 : decode cX6_isKind 1 = .ok (.ifCond .lt 13, 3) := by decide +kernel
theorem dX6_isKind_4 : decode cX6_isKind 4 = .ok (.iload_n 0, 1) := by decide +kernel
theorem dX6_isKind_5 : decode cX6_isKind 5 = .ok (.bipush 9, 2) := by decide +kernel
theorem dX6_isKind_7 : decode cX6_isKind 7 = .ok (.if_icmp .ge 7, 3) := by decide +kernel
theorem dX6_isKind_10 : decode cX6_isKind 10 = .ok (.iconst 1, 1) := by decide +kernel
theorem dX6_isKind_11 : decode cX6_isKind 11 = .ok (.goto 4, 3) := by decide +kernel
theorem dX6_isKind_14 : decode cX6_isKind 14 = .ok (.iconst 0, 1) := by decide +kernel
theorem dX6_isKind_15 : decode cX6_isKind 15 = .ok (.ireturn, 1) := by decide +kernel
theorem dX6_kindOf_0 : decode cX6_kindOf 0 = .ok (.iload_n 0, 1) := by decide +kernel
theorem dX6_kindOf_1 : decode cX6_kindOf 1 = .ok (.bipush 10, 2) := by decide +kernel
theorem dX6_kindOf_3 : decode cX6_kindOf 3 = .ok (.idiv, 1) := by decide +kernel
theorem dX6_kindOf_4 : decode cX6_kindOf 4 = .ok (.ireturn, 1) := by decide +kernel
theorem dX6_numberOf_0 : decode cX6_numberOf 0 = .ok (.iload_n 0, 1) := by decide +kernel
theorem dX6_numberOf_1 : decode cX6_numberOf 1 = .ok (.bipush 10, 2) := by decide +kernel
theorem dX6_numberOf_3 : decode cX6_numberOf 3 = .ok (.irem, 1) := by decide +kernel
theorem dX6_numberOf_4 : decode cX6_numberOf 4 = .ok (.ireturn, 1) := by decide +kernel
theorem dX6_turned_0 : decode cX6_turned 0 = .ok (.iload_n 0, 1) := by decide +kernel
theorem dX6_turned_1 : decode cX6_turned 1 = .ok (.iload_n 1, 1) := by decide +kernel
theorem dX6_turned_2 : decode cX6_turned 2 = .ok (.iadd, 1) := by decide +kernel
theorem dX6_turned_3 : decode cX6_turned 3 = .ok (.iconst 4, 1) := by decide +kernel
theorem dX6_turned_4 : decode cX6_turned 4 = .ok (.irem, 1) := by decide +kernel
theorem dX6_turned_5 : decode cX6_turned 5 = .ok (.ireturn, 1) := by decide +kernel
theorem dX6_placeOf_0 : decode cX6_placeOf 0 = .ok (.iload_n 0, 1) := by decide +kernel
theorem dX6_placeOf_1 : decode cX6_placeOf 1 = .ok (.iconst 4, 1) := by decide +kernel
theorem dX6_placeOf_2 : decode cX6_placeOf 2 = .ok (.imul, 1) := by decide +kernel
theorem dX6_placeOf_3 : decode cX6_placeOf 3 = .ok (.iload_n 1, 1) := by decide +kernel
theorem dX6_placeOf_4 : decode cX6_placeOf 4 = .ok (.iadd, 1) := by decide +kernel
theorem dX6_placeOf_5 : decode cX6_placeOf 5 = .ok (.ireturn, 1) := by decide +kernel
theorem dX6_knotOf_0 : decode cX6_knotOf 0 = .ok (.iload_n 0, 1) := by decide +kernel
theorem dX6_knotOf_1 : decode cX6_knotOf 1 = .ok (.iconst 4, 1) := by decide +kernel
theorem dX6_knotOf_2 : decode cX6_knotOf 2 = .ok (.idiv, 1) := by decide +kernel
theorem dX6_knotOf_3 : decode cX6_knotOf 3 = .ok (.ireturn, 1) := by decide +kernel
theorem dX6_exitOf_0 : decode cX6_exitOf 0 = .ok (.iload_n 0, 1) := by decide +kernel
theorem dX6_exitOf_1 : decode cX6_exitOf 1 = .ok (.iconst 4, 1) := by decide +kernel
theorem dX6_exitOf_2 : decode cX6_exitOf 2 = .ok (.irem, 1) := by decide +kernel
theorem dX6_exitOf_3 : decode cX6_exitOf 3 = .ok (.ireturn, 1) := by decide +kernel
theorem dX6_facingFrom_0 : decode cX6_facingFrom 0 = .ok (.iload_n 0, 1) := by decide +kernel
theorem dX6_facingFrom_1 : decode cX6_facingFrom 1 = .ok (.iconst 2, 1) := by decide +kernel
theorem dX6_facingFrom_2 : decode cX6_facingFrom 2 = .ok (.iadd, 1) := by decide +kernel
theorem dX6_facingFrom_3 : decode cX6_facingFrom 3 = .ok (.iconst 4, 1) := by decide +kernel
theorem dX6_facingFrom_4 : decode cX6_facingFrom 4 = .ok (.irem, 1) := by decide +kernel
theorem dX6_facingFrom_5 : decode cX6_facingFrom 5 = .ok (.ireturn, 1) := by decide +kernel
theorem dX6_lostAnswer_0 : decode cX6_lostAnswer 0 = .ok (.bipush (-2), 2) := by decide +kernel
theorem dX6_lostAnswer_2 : decode cX6_lostAnswer 2 = .ok (.iload_n 0, 1) := by decide +kernel
theorem dX6_lostAnswer_3 : decode cX6_lostAnswer 3 = .ok (.isub, 1) := by decide +kernel
theorem dX6_lostAnswer_4 : decode cX6_lostAnswer 4 = .ok (.ireturn, 1) := by decide +kernel
theorem dX6_exitAsked_0 : decode cX6_exitAsked 0 = .ok (.iload_n 1, 1) := by decide +kernel
theorem dX6_exitAsked_1 : decode cX6_exitAsked 1 = .ok (.bipush 10, 2) := by decide +kernel
theorem dX6_exitAsked_3 : decode cX6_exitAsked 3 = .ok (.if_icmp .ge 7, 3) := by decide +kernel
theorem dX6_exitAsked_6 : decode cX6_exitAsked 6 = .ok (.iconst (-1), 1) := by decide +kernel
theorem dX6_exitAsked_7 : decode cX6_exitAsked 7 = .ok (.goto 11, 3) := by decide +kernel
theorem dX6_exitAsked_10 : decode cX6_exitAsked 10 = .ok (.aload_n 0, 1) := by decide +kernel
theorem dX6_exitAsked_11 : decode cX6_exitAsked 11 = .ok (.iload_n 1, 1) := by decide +kernel
theorem dX6_exitAsked_12 : decode cX6_exitAsked 12 = .ok (.bipush 10, 2) := by decide +kernel
theorem dX6_exitAsked_14 : decode cX6_exitAsked 14 = .ok (.isub, 1) := by decide +kernel
theorem dX6_exitAsked_15 : decode cX6_exitAsked 15 = .ok (.invokevirtual 147, 3) := by decide +kernel
theorem dX6_exitAsked_18 : decode cX6_exitAsked 18 = .ok (.ireturn, 1) := by decide +kernel
theorem dX6_canSlip_0 : decode cX6_canSlip 0 = .ok (.iload_n 0, 1) := by decide +kernel
theorem dX6_canSlip_1 : decode cX6_canSlip 1 = .ok (.iconst (-1), 1) := by decide +kernel
theorem dX6_canSlip_2 : decode cX6_canSlip 2 = .ok (.if_icmp .ne 5, 3) := by decide +kernel
theorem dX6_canSlip_5 : decode cX6_canSlip 5 = .ok (.iconst 0, 1) := by decide +kernel
theorem dX6_canSlip_6 : decode cX6_canSlip 6 = .ok (.ireturn, 1) := by decide +kernel
theorem dX6_canSlip_7 : decode cX6_canSlip 7 = .ok (.iload_n 0, 1) := by decide +kernel
theorem dX6_canSlip_8 : decode cX6_canSlip 8 = .ok (.invokestatic 233, 3) := by decide +kernel
theorem dX6_canSlip_11 : decode cX6_canSlip 11 = .ok (.istore_n 1, 1) := by decide +kernel
theorem dX6_canSlip_12 : decode cX6_canSlip 12 = .ok (.iload_n 1, 1) := by decide +kernel
theorem dX6_canSlip_13 : decode cX6_canSlip 13 = .ok (.iconst 1, 1) := by decide +kernel
theorem dX6_canSlip_14 : decode cX6_canSlip 14 = .ok (.if_icmp .eq 24, 3) := by decide +kernel
theorem dX6_canSlip_17 : decode cX6_canSlip 17 = .ok (.iload_n 1, 1) := by decide +kernel
theorem dX6_canSlip_18 : decode cX6_canSlip 18 = .ok (.iconst 3, 1) := by decide +kernel
theorem dX6_canSlip_19 : decode cX6_canSlip 19 = .ok (.if_icmp .eq 19, 3) := by decide +kernel
theorem dX6_canSlip_22 : decode cX6_canSlip 22 = .ok (.iload_n 1, 1) := by decide +kernel
theorem dX6_canSlip_23 : decode cX6_canSlip 23 = .ok (.iconst 4, 1) := by decide +kernel
theorem dX6_canSlip_24 : decode cX6_canSlip 24 = .ok (.if_icmp .eq 14, 3) := by decide +kernel
theorem dX6_canSlip_27 : decode cX6_canSlip 27 = .ok (.iload_n 1, 1) := by decide +kernel
theorem dX6_canSlip_28 : decode cX6_canSlip 28 = .ok (.iconst 5, 1) := by decide +kernel
theorem dX6_canSlip_29 : decode cX6_canSlip 29 = .ok (.if_icmp .eq 9, 3) := by decide +kernel
theorem dX6_canSlip_32 : decode cX6_canSlip 32 = .ok (.iload_n 1, 1) := by decide +kernel
theorem dX6_canSlip_33 : decode cX6_canSlip 33 = .ok (.bipush 6, 2) := by decide +kernel
theorem dX6_canSlip_35 : decode cX6_canSlip 35 = .ok (.if_icmp .ne 7, 3) := by decide +kernel
theorem dX6_canSlip_38 : decode cX6_canSlip 38 = .ok (.iconst 1, 1) := by decide +kernel
theorem dX6_canSlip_39 : decode cX6_canSlip 39 = .ok (.goto 4, 3) := by decide +kernel
theorem dX6_canSlip_42 : decode cX6_canSlip 42 = .ok (.iconst 0, 1) := by decide +kernel
theorem dX6_canSlip_43 : decode cX6_canSlip 43 = .ok (.ireturn, 1) := by decide +kernel
theorem dX6_isAllowed_0 : decode cX6_isAllowed 0 = .ok (.aload_n 0, 1) := by decide +kernel
theorem dX6_isAllowed_1 : decode cX6_isAllowed 1 = .ok (.getfield 20, 3) := by decide +kernel
theorem dX6_isAllowed_4 : decode cX6_isAllowed 4 = .ok (.iload_n 1, 1) := by decide +kernel
theorem dX6_isAllowed_5 : decode cX6_isAllowed 5 = .ok (.ishr, 1) := by decide +kernel
theorem dX6_isAllowed_6 : decode cX6_isAllowed 6 = .ok (.iconst 1, 1) := by decide +kernel
theorem dX6_isAllowed_7 : decode cX6_isAllowed 7 = .ok (.iand, 1) := by decide +kernel
theorem dX6_isAllowed_8 : decode cX6_isAllowed 8 = .ok (.iconst 1, 1) := by decide +kernel
theorem dX6_isAllowed_9 : decode cX6_isAllowed 9 = .ok (.if_icmp .ne 7, 3) := by decide +kernel
theorem dX6_isAllowed_12 : decode cX6_isAllowed 12 = .ok (.iconst 1, 1) := by decide +kernel
theorem dX6_isAllowed_13 : decode cX6_isAllowed 13 = .ok (.goto 4, 3) := by decide +kernel
theorem dX6_isAllowed_16 : decode cX6_isAllowed 16 = .ok (.iconst 0, 1) := by decide +kernel
theorem dX6_isAllowed_17 : decode cX6_isAllowed 17 = .ok (.ireturn, 1) := by decide +kernel
theorem dX6_priceOf_0 : decode cX6_priceOf 0 = .ok (.iload_n 1, 1) := by decide +kernel
theorem dX6_priceOf_1 : decode cX6_priceOf 1 = .ok (.invokestatic 129, 3) := by decide +kernel
theorem dX6_priceOf_4 : decode cX6_priceOf 4 = .ok (.ifCond .eq 12, 3) := by decide +kernel
theorem dX6_priceOf_7 : decode cX6_priceOf 7 = .ok (.aload_n 0, 1) := by decide +kernel
theorem dX6_priceOf_8 : decode cX6_priceOf 8 = .ok (.getfield 16, 3) := by decide +kernel
theorem dX6_priceOf_11 : decode cX6_priceOf 11 = .ok (.iload_n 1, 1) := by decide +kernel
theorem dX6_priceOf_12 : decode cX6_priceOf 12 = .ok (.iaload, 1) := by decide +kernel
theorem dX6_priceOf_13 : decode cX6_priceOf 13 = .ok (.goto 4, 3) := by decide +kernel
theorem dX6_priceOf_16 : decode cX6_priceOf 16 = .ok (.iconst 0, 1) := by decide +kernel
theorem dX6_priceOf_17 : decode cX6_priceOf 17 = .ok (.ireturn, 1) := by decide +kernel
theorem dX6_priceOfSaid_0 : decode cX6_priceOfSaid 0 = .ok (.iconst 0, 1) := by decide +kernel
theorem dX6_priceOfSaid_1 : decode cX6_priceOfSaid 1 = .ok (.istore_n 1, 1) := by decide +kernel
theorem dX6_priceOfSaid_2 : decode cX6_priceOfSaid 2 = .ok (.iconst 0, 1) := by decide +kernel
theorem dX6_priceOfSaid_3 : decode cX6_priceOfSaid 3 = .ok (.istore_n 2, 1) := by decide +kernel
theorem dX6_priceOfSaid_4 : decode cX6_priceOfSaid 4 = .ok (.iload_n 2, 1) := by decide +kernel
theorem dX6_priceOfSaid_5 : decode cX6_priceOfSaid 5 = .ok (.aload_n 0, 1) := by decide +kernel
theorem dX6_priceOfSaid_6 : decode cX6_priceOfSaid 6 = .ok (.getfield 29, 3) := by decide +kernel
theorem dX6_priceOfSaid_9 : decode cX6_priceOfSaid 9 = .ok (.getfield 141, 3) := by decide +kernel
theorem dX6_priceOfSaid_12 : decode cX6_priceOfSaid 12 = .ok (.if_icmp .ge 27, 3) := by decide +kernel
theorem dX6_priceOfSaid_15 : decode cX6_priceOfSaid 15 = .ok (.iload_n 1, 1) := by decide +kernel
theorem dX6_priceOfSaid_16 : decode cX6_priceOfSaid 16 = .ok (.aload_n 0, 1) := by decide +kernel
theorem dX6_priceOfSaid_17 : decode cX6_priceOfSaid 17 = .ok (.aload_n 0, 1) := by decide +kernel
theorem dX6_priceOfSaid_18 : decode cX6_priceOfSaid 18 = .ok (.getfield 29, 3) := by decide +kernel
theorem dX6_priceOfSaid_21 : decode cX6_priceOfSaid 21 = .ok (.iload_n 2, 1) := by decide +kernel
theorem dX6_priceOfSaid_22 : decode cX6_priceOfSaid 22 = .ok (.invokevirtual 147, 3) := by decide +kernel
theorem dX6_priceOfSaid_25 : decode cX6_priceOfSaid 25 = .ok (.invokestatic 233, 3) := by decide +kernel
theorem dX6_priceOfSaid_28 : decode cX6_priceOfSaid 28 = .ok (.invokevirtual 236, 3) := by decide +kernel
theorem dX6_priceOfSaid_31 : decode cX6_priceOfSaid 31 = .ok (.iadd, 1) := by decide +kernel
theorem dX6_priceOfSaid_32 : decode cX6_priceOfSaid 32 = .ok (.istore_n 1, 1) := by decide +kernel
theorem dX6_priceOfSaid_33 : decode cX6_priceOfSaid 33 = .ok (.iinc 2 1, 3) := by decide +kernel
theorem dX6_priceOfSaid_36 : decode cX6_priceOfSaid 36 = .ok (.goto (-32), 3) := by decide +kernel
theorem dX6_priceOfSaid_39 : decode cX6_priceOfSaid 39 = .ok (.iload_n 1, 1) := by decide +kernel
theorem dX6_priceOfSaid_40 : decode cX6_priceOfSaid 40 = .ok (.ireturn, 1) := by decide +kernel
theorem dX6_goesAlong_0 : decode cX6_goesAlong 0 = .ok (.aload_n 0, 1) := by decide +kernel
theorem dX6_goesAlong_1 : decode cX6_goesAlong 1 = .ok (.getfield 52, 3) := by decide +kernel
theorem dX6_goesAlong_4 : decode cX6_goesAlong 4 = .ok (.getfield 107, 3) := by decide +kernel
theorem dX6_goesAlong_7 : decode cX6_goesAlong 7 = .ok (.ifCond .ne 5, 3) := by decide +kernel
theorem dX6_goesAlong_10 : decode cX6_goesAlong 10 = .ok (.iconst 0, 1) := by decide +kernel
theorem dX6_goesAlong_11 : decode cX6_goesAlong 11 = .ok (.ireturn, 1) := by decide +kernel
theorem dX6_goesAlong_12 : decode cX6_goesAlong 12 = .ok (.aload_n 0, 1) := by decide +kernel
theorem dX6_goesAlong_13 : decode cX6_goesAlong 13 = .ok (.getfield 52, 3) := by decide +kernel
theorem dX6_goesAlong_16 : decode cX6_goesAlong 16 = .ok (.getfield 192, 3) := by decide +kernel
theorem dX6_goesAlong_19 : decode cX6_goesAlong 19 = .ok (.istore_n 3, 1) := by decide +kernel
theorem dX6_goesAlong_20 : decode cX6_goesAlong 20 = .ok (.iconst 0, 1) := by decide +kernel
theorem dX6_goesAlong_21 : decode cX6_goesAlong 21 = .ok (.istore 4, 2) := by decide +kernel
theorem dX6_goesAlong_23 : decode cX6_goesAlong 23 = .ok (.iload 4, 2) := by decide +kernel
theorem dX6_goesAlong_25 : decode cX6_goesAlong 25 = .ok (.aload_n 0, 1) := by decide +kernel
theorem dX6_goesAlong_26 : decode cX6_goesAlong 26 = .ok (.getfield 52, 3) := by decide +kernel
theorem dX6_goesAlong_29 : decode cX6_goesAlong 29 = .ok (.getfield 188, 3) := by decide +kernel
theorem dX6_goesAlong_32 : decode cX6_goesAlong 32 = .ok (.getfield 141, 3) := by decide +kernel
theorem dX6_goesAlong_35 : decode cX6_goesAlong 35 = .ok (.if_icmp .ge 59, 3) := by decide +kernel
theorem dX6_goesAlong_38 : decode cX6_goesAlong 38 = .ok (.aload_n 0, 1) := by decide +kernel
theorem dX6_goesAlong_39 : decode cX6_goesAlong 39 = .ok (.getfield 52, 3) := by decide +kernel
theorem dX6_goesAlong_42 : decode cX6_goesAlong 42 = .ok (.getfield 188, 3) := by decide +kernel
theorem dX6_goesAlong_45 : decode cX6_goesAlong 45 = .ok (.iload 4, 2) := by decide +kernel
theorem dX6_goesAlong_47 : decode cX6_goesAlong 47 = .ok (.invokevirtual 147, 3) := by decide +kernel
theorem dX6_goesAlong_50 : decode cX6_goesAlong 50 = .ok (.istore 5, 2) := by decide +kernel
theorem dX6_goesAlong_52 : decode cX6_goesAlong 52 = .ok (.iload_n 3, 1) := by decide +kernel
theorem dX6_goesAlong_53 : decode cX6_goesAlong 53 = .ok (.iload 5, 2) := by decide +kernel
theorem dX6_goesAlong_55 : decode cX6_goesAlong 55 = .ok (.invokestatic 93, 3) := by decide +kernel
theorem dX6_goesAlong_58 : decode cX6_goesAlong 58 = .ok (.istore 6, 2) := by decide +kernel
theorem dX6_goesAlong_60 : decode cX6_goesAlong 60 = .ok (.iload 6, 2) := by decide +kernel
theorem dX6_goesAlong_62 : decode cX6_goesAlong 62 = .ok (.iload_n 1, 1) := by decide +kernel
theorem dX6_goesAlong_63 : decode cX6_goesAlong 63 = .ok (.if_icmp .eq 9, 3) := by decide +kernel
theorem dX6_goesAlong_66 : decode cX6_goesAlong 66 = .ok (.iload 6, 2) := by decide +kernel
theorem dX6_goesAlong_68 : decode cX6_goesAlong 68 = .ok (.iload_n 2, 1) := by decide +kernel
theorem dX6_goesAlong_69 : decode cX6_goesAlong 69 = .ok (.if_icmp .ne 5, 3) := by decide +kernel
theorem dX6_goesAlong_72 : decode cX6_goesAlong 72 = .ok (.iconst 1, 1) := by decide +kernel
theorem dX6_goesAlong_73 : decode cX6_goesAlong 73 = .ok (.ireturn, 1) := by decide +kernel
theorem dX6_goesAlong_74 : decode cX6_goesAlong 74 = .ok (.aload_n 0, 1) := by decide +kernel
theorem dX6_goesAlong_75 : decode cX6_goesAlong 75 = .ok (.getfield 12, 3) := by decide +kernel
theorem dX6_goesAlong_78 : decode cX6_goesAlong 78 = .ok (.iload_n 3, 1) := by decide +kernel
theorem dX6_goesAlong_79 : decode cX6_goesAlong 79 = .ok (.iload 5, 2) := by decide +kernel
theorem dX6_goesAlong_81 : decode cX6_goesAlong 81 = .ok (.invokevirtual 101, 3) := by decide +kernel
theorem dX6_goesAlong_84 : decode cX6_goesAlong 84 = .ok (.invokestatic 120, 3) := by decide +kernel
theorem dX6_goesAlong_87 : decode cX6_goesAlong 87 = .ok (.istore_n 3, 1) := by decide +kernel
theorem dX6_goesAlong_88 : decode cX6_goesAlong 88 = .ok (.iinc 4 1, 3) := by decide +kernel
theorem dX6_goesAlong_91 : decode cX6_goesAlong 91 = .ok (.goto (-68), 3) := by decide +kernel
theorem dX6_goesAlong_94 : decode cX6_goesAlong 94 = .ok (.iconst 0, 1) := by decide +kernel
theorem dX6_goesAlong_95 : decode cX6_goesAlong 95 = .ok (.ireturn, 1) := by decide +kernel
theorem dX6_lastPlace_0 : decode cX6_lastPlace 0 = .ok (.aload_n 0, 1) := by decide +kernel
theorem dX6_lastPlace_1 : decode cX6_lastPlace 1 = .ok (.getfield 52, 3) := by decide +kernel
theorem dX6_lastPlace_4 : decode cX6_lastPlace 4 = .ok (.getfield 192, 3) := by decide +kernel
theorem dX6_lastPlace_7 : decode cX6_lastPlace 7 = .ok (.aload_n 0, 1) := by decide +kernel
theorem dX6_lastPlace_8 : decode cX6_lastPlace 8 = .ok (.getfield 52, 3) := by decide +kernel
theorem dX6_lastPlace_11 : decode cX6_lastPlace 11 = .ok (.getfield 217, 3) := by decide +kernel
theorem dX6_lastPlace_14 : decode cX6_lastPlace 14 = .ok (.invokestatic 93, 3) := by decide +kernel
theorem dX6_lastPlace_17 : decode cX6_lastPlace 17 = .ok (.istore_n 1, 1) := by decide +kernel
theorem dX6_lastPlace_18 : decode cX6_lastPlace 18 = .ok (.iconst 0, 1) := by decide +kernel
theorem dX6_lastPlace_19 : decode cX6_lastPlace 19 = .ok (.istore_n 2, 1) := by decide +kernel
theorem dX6_lastPlace_20 : decode cX6_lastPlace 20 = .ok (.iload_n 2, 1) := by decide +kernel
theorem dX6_lastPlace_21 : decode cX6_lastPlace 21 = .ok (.aload_n 0, 1) := by decide +kernel
theorem dX6_lastPlace_22 : decode cX6_lastPlace 22 = .ok (.getfield 52, 3) := by decide +kernel
theorem dX6_lastPlace_25 : decode cX6_lastPlace 25 = .ok (.getfield 188, 3) := by decide +kernel
theorem dX6_lastPlace_28 : decode cX6_lastPlace 28 = .ok (.getfield 141, 3) := by decide +kernel
theorem dX6_lastPlace_31 : decode cX6_lastPlace 31 = .ok (.if_icmp .ge 26, 3) := by decide +kernel
theorem dX6_lastPlace_34 : decode cX6_lastPlace 34 = .ok (.aload_n 0, 1) := by decide +kernel
theorem dX6_lastPlace_35 : decode cX6_lastPlace 35 = .ok (.iload_n 1, 1) := by decide +kernel
theorem dX6_lastPlace_36 : decode cX6_lastPlace 36 = .ok (.aload_n 0, 1) := by decide +kernel
theorem dX6_lastPlace_37 : decode cX6_lastPlace 37 = .ok (.getfield 52, 3) := by decide +kernel
theorem dX6_lastPlace_40 : decode cX6_lastPlace 40 = .ok (.getfield 188, 3) := by decide +kernel
theorem dX6_lastPlace_43 : decode cX6_lastPlace 43 = .ok (.iload_n 2, 1) := by decide +kernel
theorem dX6_lastPlace_44 : decode cX6_lastPlace 44 = .ok (.invokevirtual 147, 3) := by decide +kernel
theorem dX6_lastPlace_47 : decode cX6_lastPlace 47 = .ok (.invokevirtual 239, 3) := by decide +kernel
theorem dX6_lastPlace_50 : decode cX6_lastPlace 50 = .ok (.istore_n 1, 1) := by decide +kernel
theorem dX6_lastPlace_51 : decode cX6_lastPlace 51 = .ok (.iinc 2 1, 3) := by decide +kernel
theorem dX6_lastPlace_54 : decode cX6_lastPlace 54 = .ok (.goto (-34), 3) := by decide +kernel
theorem dX6_lastPlace_57 : decode cX6_lastPlace 57 = .ok (.iload_n 1, 1) := by decide +kernel
theorem dX6_lastPlace_58 : decode cX6_lastPlace 58 = .ok (.ireturn, 1) := by decide +kernel
theorem dX6_placeAfter_0 : decode cX6_placeAfter 0 = .ok (.aload_n 0, 1) := by decide +kernel
theorem dX6_placeAfter_1 : decode cX6_placeAfter 1 = .ok (.getfield 12, 3) := by decide +kernel
theorem dX6_placeAfter_4 : decode cX6_placeAfter 4 = .ok (.iload_n 1, 1) := by decide +kernel
theorem dX6_placeAfter_5 : decode cX6_placeAfter 5 = .ok (.invokestatic 120, 3) := by decide +kernel
theorem dX6_placeAfter_8 : decode cX6_placeAfter 8 = .ok (.iload_n 2, 1) := by decide +kernel
theorem dX6_placeAfter_9 : decode cX6_placeAfter 9 = .ok (.invokevirtual 101, 3) := by decide +kernel
theorem dX6_placeAfter_12 : decode cX6_placeAfter 12 = .ok (.istore_n 3, 1) := by decide +kernel
theorem dX6_placeAfter_13 : decode cX6_placeAfter 13 = .ok (.iload_n 3, 1) := by decide +kernel
theorem dX6_placeAfter_14 : decode cX6_placeAfter 14 = .ok (.invokestatic 120, 3) := by decide +kernel
theorem dX6_placeAfter_17 : decode cX6_placeAfter 17 = .ok (.iload_n 3, 1) := by decide +kernel
theorem dX6_placeAfter_18 : decode cX6_placeAfter 18 = .ok (.invokestatic 123, 3) := by decide +kernel
theorem dX6_placeAfter_21 : decode cX6_placeAfter 21 = .ok (.invokestatic 93, 3) := by decide +kernel
theorem dX6_placeAfter_24 : decode cX6_placeAfter 24 = .ok (.ireturn, 1) := by decide +kernel
theorem dX6_isWalkedBy_0 : decode cX6_isWalkedBy 0 = .ok (.aload_n 0, 1) := by decide +kernel
theorem dX6_isWalkedBy_1 : decode cX6_isWalkedBy 1 = .ok (.getfield 46, 3) := by decide +kernel
theorem dX6_isWalkedBy_4 : decode cX6_isWalkedBy 4 = .ok (.aload_n 1, 1) := by decide +kernel
theorem dX6_isWalkedBy_5 : decode cX6_isWalkedBy 5 = .ok (.getfield 192, 3) := by decide +kernel
theorem dX6_isWalkedBy_8 : decode cX6_isWalkedBy 8 = .ok (.aload_n 1, 1) := by decide +kernel
theorem dX6_isWalkedBy_9 : decode cX6_isWalkedBy 9 = .ok (.getfield 217, 3) := by decide +kernel
theorem dX6_isWalkedBy_12 : decode cX6_isWalkedBy 12 = .ok (.invokevirtual 156, 3) := by decide +kernel
theorem dX6_isWalkedBy_15 : decode cX6_isWalkedBy 15 = .ok (.aload_n 0, 1) := by decide +kernel
theorem dX6_isWalkedBy_16 : decode cX6_isWalkedBy 16 = .ok (.getfield 46, 3) := by decide +kernel
theorem dX6_isWalkedBy_19 : decode cX6_isWalkedBy 19 = .ok (.aload_n 2, 1) := by decide +kernel
theorem dX6_isWalkedBy_20 : decode cX6_isWalkedBy 20 = .ok (.iconst (-1), 1) := by decide +kernel
theorem dX6_isWalkedBy_21 : decode cX6_isWalkedBy 21 = .ok (.invokevirtual 159, 3) := by decide +kernel
theorem dX6_isWalkedBy_24 : decode cX6_isWalkedBy 24 = .ok (.iconst (-1), 1) := by decide +kernel
theorem dX6_isWalkedBy_25 : decode cX6_isWalkedBy 25 = .ok (.if_icmp .ne 39, 3) := by decide +kernel
theorem dX6_isWalkedBy_28 : decode cX6_isWalkedBy 28 = .ok (.aload_n 0, 1) := by decide +kernel
theorem dX6_isWalkedBy_29 : decode cX6_isWalkedBy 29 = .ok (.getfield 46, 3) := by decide +kernel
theorem dX6_isWalkedBy_32 : decode cX6_isWalkedBy 32 = .ok (.getfield 172, 3) := by decide +kernel
theorem dX6_isWalkedBy_35 : decode cX6_isWalkedBy 35 = .ok (.aload_n 1, 1) := by decide +kernel
theorem dX6_isWalkedBy_36 : decode cX6_isWalkedBy 36 = .ok (.getfield 188, 3) := by decide +kernel
theorem dX6_isWalkedBy_39 : decode cX6_isWalkedBy 39 = .ok (.getfield 141, 3) := by decide +kernel
theorem dX6_isWalkedBy_42 : decode cX6_isWalkedBy 42 = .ok (.if_icmp .ne 22, 3) := by decide +kernel
theorem dX6_isWalkedBy_45 : decode cX6_isWalkedBy 45 = .ok (.aload_n 0, 1) := by decide +kernel
theorem dX6_isWalkedBy_46 : decode cX6_isWalkedBy 46 = .ok (.getfield 46, 3) := by decide +kernel
theorem dX6_isWalkedBy_49 : decode cX6_isWalkedBy 49 = .ok (.aload_n 1, 1) := by decide +kernel
theorem dX6_isWalkedBy_50 : decode cX6_isWalkedBy 50 = .ok (.getfield 188, 3) := by decide +kernel
theorem dX6_isWalkedBy_53 : decode cX6_isWalkedBy 53 = .ok (.iconst 0, 1) := by decide +kernel
