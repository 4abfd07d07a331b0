theorem dX6_isWalkedBy_54 : decode cX6_isWalkedBy 54 = .ok (.invokevirtual 242, 3) := by decide +kernel
theorem dX6_isWalkedBy_57 : decode cX6_isWalkedBy 57 = .ok (.ifCond .eq 7, 3) := by decide +kernel
theorem dX6_isWalkedBy_60 : decode cX6_isWalkedBy 60 = .ok (.iconst 1, 1) := by decide +kernel
theorem dX6_isWalkedBy_61 : decode cX6_isWalkedBy 61 = .ok (.goto 4, 3) := by decide +kernel
theorem dX6_isWalkedBy_64 : decode cX6_isWalkedBy 64 = .ok (.iconst 0, 1) := by decide +kernel
theorem dX6_isWalkedBy_65 : decode cX6_isWalkedBy 65 = .ok (.ireturn, 1) := by decide +kernel
theorem dX6_openChart_0 : decode cX6_openChart 0 = .ok (.aload_n 0, 1) := by decide +kernel
theorem dX6_openChart_1 : decode cX6_openChart 1 = .ok (.getfield 59, 3) := by decide +kernel
theorem dX6_openChart_4 : decode cX6_openChart 4 = .ok (.iload_n 1, 1) := by decide +kernel
theorem dX6_openChart_5 : decode cX6_openChart 5 = .ok (.invokevirtual 246, 3) := by decide +kernel
theorem dX6_openChart_8 : decode cX6_openChart 8 = .ok (.iconst 0, 1) := by decide +kernel
theorem dX6_openChart_9 : decode cX6_openChart 9 = .ok (.istore_n 2, 1) := by decide +kernel
theorem dX6_openChart_10 : decode cX6_openChart 10 = .ok (.iload_n 2, 1) := by decide +kernel
theorem dX6_openChart_11 : decode cX6_openChart 11 = .ok (.getstatic 248, 3) := by decide +kernel
theorem dX6_openChart_14 : decode cX6_openChart 14 = .ok (.arraylength, 1) := by decide +kernel
theorem dX6_openChart_15 : decode cX6_openChart 15 = .ok (.if_icmp .ge 29, 3) := by decide +kernel
theorem dX6_openChart_18 : decode cX6_openChart 18 = .ok (.aload_n 0, 1) := by decide +kernel
theorem dX6_openChart_19 : decode cX6_openChart 19 = .ok (.getfield 59, 3) := by decide +kernel
theorem dX6_openChart_22 : decode cX6_openChart 22 = .ok (.iload_n 2, 1) := by decide +kernel
theorem dX6_openChart_23 : decode cX6_openChart 23 = .ok (.aload_n 0, 1) := by decide +kernel
theorem dX6_openChart_24 : decode cX6_openChart 24 = .ok (.getstatic 248, 3) := by decide +kernel
theorem dX6_openChart_27 : decode cX6_openChart 27 = .ok (.iload_n 2, 1) := by decide +kernel
theorem dX6_openChart_28 : decode cX6_openChart 28 = .ok (.iaload, 1) := by decide +kernel
theorem dX6_openChart_29 : decode cX6_openChart 29 = .ok (.invokestatic 233, 3) := by decide +kernel
theorem dX6_openChart_32 : decode cX6_openChart 32 = .ok (.invokevirtual 236, 3) := by decide +kernel
theorem dX6_openChart_35 : decode cX6_openChart 35 = .ok (.invokevirtual 251, 3) := by decide +kernel
theorem dX6_openChart_38 : decode cX6_openChart 38 = .ok (.iinc 2 1, 3) := by decide +kernel
theorem dX6_openChart_41 : decode cX6_openChart 41 = .ok (.goto (-31), 3) := by decide +kernel
theorem dX6_openChart_44 : decode cX6_openChart 44 = .ok (.return_, 1) := by decide +kernel
theorem dX6_chartWay_0 : decode cX6_chartWay 0 = .ok (.aload_n 0, 1) := by decide +kernel
theorem dX6_chartWay_1 : decode cX6_chartWay 1 = .ok (.getfield 52, 3) := by decide +kernel
theorem dX6_chartWay_4 : decode cX6_chartWay 4 = .ok (.getfield 188, 3) := by decide +kernel
theorem dX6_chartWay_7 : decode cX6_chartWay 7 = .ok (.getfield 141, 3) := by decide +kernel
theorem dX6_chartWay_10 : decode cX6_chartWay 10 = .ok (.istore_n 1, 1) := by decide +kernel
theorem dX6_chartWay_11 : decode cX6_chartWay 11 = .ok (.aload_n 0, 1) := by decide +kernel
theorem dX6_chartWay_12 : decode cX6_chartWay 12 = .ok (.iload_n 1, 1) := by decide +kernel
theorem dX6_chartWay_13 : decode cX6_chartWay 13 = .ok (.iconst 1, 1) := by decide +kernel
theorem dX6_chartWay_14 : decode cX6_chartWay 14 = .ok (.iadd, 1) := by decide +kernel
theorem dX6_chartWay_15 : decode cX6_chartWay 15 = .ok (.invokevirtual 254, 3) := by decide +kernel
theorem dX6_chartWay_18 : decode cX6_chartWay 18 = .ok (.aload_n 0, 1) := by decide +kernel
theorem dX6_chartWay_19 : decode cX6_chartWay 19 = .ok (.getfield 59, 3) := by decide +kernel
theorem dX6_chartWay_22 : decode cX6_chartWay 22 = .ok (.iload_n 1, 1) := by decide +kernel
theorem dX6_chartWay_23 : decode cX6_chartWay 23 = .ok (.invokevirtual 257, 3) := by decide +kernel
theorem dX6_chartWay_26 : decode cX6_chartWay 26 = .ok (.aload_n 0, 1) := by decide +kernel
theorem dX6_chartWay_27 : decode cX6_chartWay 27 = .ok (.getfield 52, 3) := by decide +kernel
theorem dX6_chartWay_30 : decode cX6_chartWay 30 = .ok (.getfield 192, 3) := by decide +kernel
theorem dX6_chartWay_33 : decode cX6_chartWay 33 = .ok (.aload_n 0, 1) := by decide +kernel
theorem dX6_chartWay_34 : decode cX6_chartWay 34 = .ok (.getfield 52, 3) := by decide +kernel
theorem dX6_chartWay_37 : decode cX6_chartWay 37 = .ok (.getfield 217, 3) := by decide +kernel
theorem dX6_chartWay_40 : decode cX6_chartWay 40 = .ok (.invokestatic 93, 3) := by decide +kernel
theorem dX6_chartWay_43 : decode cX6_chartWay 43 = .ok (.istore_n 2, 1) := by decide +kernel
theorem dX6_chartWay_44 : decode cX6_chartWay 44 = .ok (.iconst 0, 1) := by decide +kernel
theorem dX6_chartWay_45 : decode cX6_chartWay 45 = .ok (.istore_n 3, 1) := by decide +kernel
theorem dX6_chartWay_46 : decode cX6_chartWay 46 = .ok (.iload_n 3, 1) := by decide +kernel
theorem dX6_chartWay_47 : decode cX6_chartWay 47 = .ok (.iload_n 1, 1) := by decide +kernel
theorem dX6_chartWay_48 : decode cX6_chartWay 48 = .ok (.if_icmp .ge 95, 3) := by decide +kernel
theorem dX6_chartWay_51 : decode cX6_chartWay 51 = .ok (.iconst 0, 1) := by decide +kernel
theorem dX6_chartWay_52 : decode cX6_chartWay 52 = .ok (.istore 4, 2) := by decide +kernel
theorem dX6_chartWay_54 : decode cX6_chartWay 54 = .ok (.iload 4, 2) := by decide +kernel
theorem dX6_chartWay_56 : decode cX6_chartWay 56 = .ok (.getstatic 248, 3) := by decide +kernel
theorem dX6_chartWay_59 : decode cX6_chartWay 59 = .ok (.arraylength, 1) := by decide +kernel
theorem dX6_chartWay_60 : decode cX6_chartWay 60 = .ok (.if_icmp .ge 60, 3) := by decide +kernel
theorem dX6_chartWay_63 : decode cX6_chartWay 63 = .ok (.aload_n 0, 1) := by decide +kernel
theorem dX6_chartWay_64 : decode cX6_chartWay 64 = .ok (.iload_n 2, 1) := by decide +kernel
theorem dX6_chartWay_65 : decode cX6_chartWay 65 = .ok (.getstatic 248, 3) := by decide +kernel
theorem dX6_chartWay_68 : decode cX6_chartWay 68 = .ok (.iload 4, 2) := by decide +kernel
theorem dX6_chartWay_70 : decode cX6_chartWay 70 = .ok (.iaload, 1) := by decide +kernel
theorem dX6_chartWay_71 : decode cX6_chartWay 71 = .ok (.invokevirtual 260, 3) := by decide +kernel
theorem dX6_chartWay_74 : decode cX6_chartWay 74 = .ok (.ifCond .eq 40, 3) := by decide +kernel
theorem dX6_chartWay_77 : decode cX6_chartWay 77 = .ok (.aload_n 0, 1) := by decide +kernel
theorem dX6_chartWay_78 : decode cX6_chartWay 78 = .ok (.getfield 46, 3) := by decide +kernel
theorem dX6_chartWay_81 : decode cX6_chartWay 81 = .ok (.aload_n 0, 1) := by decide +kernel
theorem dX6_chartWay_82 : decode cX6_chartWay 82 = .ok (.getfield 52, 3) := by decide +kernel
theorem dX6_chartWay_85 : decode cX6_chartWay 85 = .ok (.getfield 188, 3) := by decide +kernel
theorem dX6_chartWay_88 : decode cX6_chartWay 88 = .ok (.iload_n 3, 1) := by decide +kernel
theorem dX6_chartWay_89 : decode cX6_chartWay 89 = .ok (.invokevirtual 242, 3) := by decide +kernel
theorem dX6_chartWay_92 : decode cX6_chartWay 92 = .ok (.ifCond .eq 22, 3) := by decide +kernel
theorem dX6_chartWay_95 : decode cX6_chartWay 95 = .ok (.aload_n 0, 1) := by decide +kernel
theorem dX6_chartWay_96 : decode cX6_chartWay 96 = .ok (.getfield 59, 3) := by decide +kernel
theorem dX6_chartWay_99 : decode cX6_chartWay 99 = .ok (.iload_n 3, 1) := by decide +kernel
theorem dX6_chartWay_100 : decode cX6_chartWay 100 = .ok (.iload 4, 2) := by decide +kernel
theorem dX6_chartWay_102 : decode cX6_chartWay 102 = .ok (.iload_n 3, 1) := by decide +kernel
theorem dX6_chartWay_103 : decode cX6_chartWay 103 = .ok (.aload_n 0, 1) := by decide +kernel
theorem dX6_chartWay_104 : decode cX6_chartWay 104 = .ok (.getfield 46, 3) := by decide +kernel
theorem dX6_chartWay_107 : decode cX6_chartWay 107 = .ok (.getfield 172, 3) := by decide +kernel
theorem dX6_chartWay_110 : decode cX6_chartWay 110 = .ok (.iadd, 1) := by decide +kernel
theorem dX6_chartWay_111 : decode cX6_chartWay 111 = .ok (.invokevirtual 263, 3) := by decide +kernel
theorem dX6_chartWay_114 : decode cX6_chartWay 114 = .ok (.iinc 4 1, 3) := by decide +kernel
theorem dX6_chartWay_117 : decode cX6_chartWay 117 = .ok (.goto (-63), 3) := by decide +kernel
theorem dX6_chartWay_120 : decode cX6_chartWay 120 = .ok (.aload_n 0, 1) := by decide +kernel
theorem dX6_chartWay_121 : decode cX6_chartWay 121 = .ok (.iload_n 2, 1) := by decide +kernel
theorem dX6_chartWay_122 : decode cX6_chartWay 122 = .ok (.aload_n 0, 1) := by decide +kernel
theorem dX6_chartWay_123 : decode cX6_chartWay 123 = .ok (.getfield 52, 3) := by decide +kernel
theorem dX6_chartWay_126 : decode cX6_chartWay 126 = .ok (.getfield 188, 3) := by decide +kernel
theorem dX6_chartWay_129 : decode cX6_chartWay 129 = .ok (.iload_n 3, 1) := by decide +kernel
theorem dX6_chartWay_130 : decode cX6_chartWay 130 = .ok (.invokevirtual 147, 3) := by decide +kernel
theorem dX6_chartWay_133 : decode cX6_chartWay 133 = .ok (.invokevirtual 239, 3) := by decide +kernel
theorem dX6_chartWay_136 : decode cX6_chartWay 136 = .ok (.istore_n 2, 1) := by decide +kernel
theorem dX6_chartWay_137 : decode cX6_chartWay 137 = .ok (.iinc 3 1, 3) := by decide +kernel
theorem dX6_chartWay_140 : decode cX6_chartWay 140 = .ok (.goto (-94), 3) := by decide +kernel
theorem dX6_chartWay_143 : decode cX6_chartWay 143 = .ok (.aload_n 0, 1) := by decide +kernel
theorem dX6_chartWay_144 : decode cX6_chartWay 144 = .ok (.getfield 59, 3) := by decide +kernel
theorem dX6_chartWay_147 : decode cX6_chartWay 147 = .ok (.invokevirtual 267, 3) := by decide +kernel
theorem dX6_chartWay_150 : decode cX6_chartWay 150 = .ok (.return_, 1) := by decide +kernel
theorem dX6_chartNet_0 : decode cX6_chartNet 0 = .ok (.aload_n 0, 1) := by decide +kernel
theorem dX6_chartNet_1 : decode cX6_chartNet 1 = .ok (.getfield 12, 3) := by decide +kernel
theorem dX6_chartNet_4 : decode cX6_chartNet 4 = .ok (.getfield 226, 3) := by decide +kernel
theorem dX6_chartNet_7 : decode cX6_chartNet 7 = .ok (.iconst 4, 1) := by decide +kernel
theorem dX6_chartNet_8 : decode cX6_chartNet 8 = .ok (.imul, 1) := by decide +kernel
theorem dX6_chartNet_9 : decode cX6_chartNet 9 = .ok (.istore_n 2, 1) := by decide +kernel
theorem dX6_chartNet_10 : decode cX6_chartNet 10 = .ok (.aload_n 0, 1) := by decide +kernel
theorem dX6_chartNet_11 : decode cX6_chartNet 11 = .ok (.iload_n 2, 1) := by decide +kernel
theorem dX6_chartNet_12 : decode cX6_chartNet 12 = .ok (.invokevirtual 254, 3) := by decide +kernel
theorem dX6_chartNet_15 : decode cX6_chartNet 15 = .ok (.iconst 0, 1) := by decide +kernel
theorem dX6_chartNet_16 : decode cX6_chartNet 16 = .ok (.istore_n 3, 1) := by decide +kernel
theorem dX6_chartNet_17 : decode cX6_chartNet 17 = .ok (.iload_n 3, 1) := by decide +kernel
theorem dX6_chartNet_18 : decode cX6_chartNet 18 = .ok (.iconst 4, 1) := by decide +kernel
theorem dX6_chartNet_19 : decode cX6_chartNet 19 = .ok (.if_icmp .ge 21, 3) := by decide +kernel
theorem dX6_chartNet_22 : decode cX6_chartNet 22 = .ok (.aload_n 0, 1) := by decide +kernel
theorem dX6_chartNet_23 : decode cX6_chartNet 23 = .ok (.getfield 59, 3) := by decide +kernel
theorem dX6_chartNet_26 : decode cX6_chartNet 26 = .ok (.iload_n 1, 1) := by decide +kernel
theorem dX6_chartNet_27 : decode cX6_chartNet 27 = .ok (.iload_n 3, 1) := by decide +kernel
theorem dX6_chartNet_28 : decode cX6_chartNet 28 = .ok (.invokestatic 93, 3) := by decide +kernel
theorem dX6_chartNet_31 : decode cX6_chartNet 31 = .ok (.invokevirtual 257, 3) := by decide +kernel
theorem dX6_chartNet_34 : decode cX6_chartNet 34 = .ok (.iinc 3 1, 3) := by decide +kernel
theorem dX6_chartNet_37 : decode cX6_chartNet 37 = .ok (.goto (-20), 3) := by decide +kernel
theorem dX6_chartNet_40 : decode cX6_chartNet 40 = .ok (.iconst 0, 1) := by decide +kernel
theorem dX6_chartNet_41 : decode cX6_chartNet 41 = .ok (.istore_n 3, 1) := by decide +kernel
theorem dX6_chartNet_42 : decode cX6_chartNet 42 = .ok (.iload_n 3, 1) := by decide +kernel
theorem dX6_chartNet_43 : decode cX6_chartNet 43 = .ok (.iload_n 2, 1) := by decide +kernel
theorem dX6_chartNet_44 : decode cX6_chartNet 44 = .ok (.if_icmp .ge 68, 3) := by decide +kernel
theorem dX6_chartNet_47 : decode cX6_chartNet 47 = .ok (.iconst 0, 1) := by decide +kernel
theorem dX6_chartNet_48 : decode cX6_chartNet 48 = .ok (.istore 4, 2) := by decide +kernel
theorem dX6_chartNet_50 : decode cX6_chartNet 50 = .ok (.iload 4, 2) := by decide +kernel
theorem dX6_chartNet_52 : decode cX6_chartNet 52 = .ok (.getstatic 248, 3) := by decide +kernel
theorem dX6_chartNet_55 : decode cX6_chartNet 55 = .ok (.arraylength, 1) := by decide +kernel
theorem dX6_chartNet_56 : decode cX6_chartNet 56 = .ok (.if_icmp .ge 50, 3) := by decide +kernel
theorem dX6_chartNet_59 : decode cX6_chartNet 59 = .ok (.aload_n 0, 1) := by decide +kernel
theorem dX6_chartNet_60 : decode cX6_chartNet 60 = .ok (.iload_n 3, 1) := by decide +kernel
theorem dX6_chartNet_61 : decode cX6_chartNet 61 = .ok (.getstatic 248, 3) := by decide +kernel
theorem dX6_chartNet_64 : decode cX6_chartNet 64 = .ok (.iload 4, 2) := by decide +kernel
theorem dX6_chartNet_66 : decode cX6_chartNet 66 = .ok (.iaload, 1) := by decide +kernel
theorem dX6_chartNet_67 : decode cX6_chartNet 67 = .ok (.invokevirtual 260, 3) := by decide +kernel
theorem dX6_chartNet_70 : decode cX6_chartNet 70 = .ok (.ifCond .eq 30, 3) := by decide +kernel
theorem dX6_chartNet_73 : decode cX6_chartNet 73 = .ok (.aload_n 0, 1) := by decide +kernel
theorem dX6_chartNet_74 : decode cX6_chartNet 74 = .ok (.getfield 59, 3) := by decide +kernel
theorem dX6_chartNet_77 : decode cX6_chartNet 77 = .ok (.iload_n 3, 1) := by decide +kernel
theorem dX6_chartNet_78 : decode cX6_chartNet 78 = .ok (.iload 4, 2) := by decide +kernel
theorem dX6_chartNet_80 : decode cX6_chartNet 80 = .ok (.aload_n 0, 1) := by decide +kernel
theorem dX6_chartNet_81 : decode cX6_chartNet 81 = .ok (.getfield 46, 3) := by decide +kernel
theorem dX6_chartNet_84 : decode cX6_chartNet 84 = .ok (.getfield 163, 3) := by decide +kernel
theorem dX6_chartNet_87 : decode cX6_chartNet 87 = .ok (.aload_n 0, 1) := by decide +kernel
theorem dX6_chartNet_88 : decode cX6_chartNet 88 = .ok (.getfield 46, 3) := by decide +kernel
theorem dX6_chartNet_91 : decode cX6_chartNet 91 = .ok (.getfield 169, 3) := by decide +kernel
theorem dX6_chartNet_94 : decode cX6_chartNet 94 = .ok (.invokestatic 93, 3) := by decide +kernel
theorem dX6_chartNet_97 : decode cX6_chartNet 97 = .ok (.invokevirtual 263, 3) := by decide +kernel
theorem dX6_chartNet_100 : decode cX6_chartNet 100 = .ok (.iinc 4 1, 3) := by decide +kernel
theorem dX6_chartNet_103 : decode cX6_chartNet 103 = .ok (.goto (-53), 3) := by decide +kernel
theorem dX6_chartNet_106 : decode cX6_chartNet 106 = .ok (.iinc 3 1, 3) := by decide +kernel
theorem dX6_chartNet_109 : decode cX6_chartNet 109 = .ok (.goto (-67), 3) := by decide +kernel
theorem dX6_chartNet_112 : decode cX6_chartNet 112 = .ok (.aload_n 0, 1) := by decide +kernel
theorem dX6_chartNet_113 : decode cX6_chartNet 113 = .ok (.getfield 59, 3) := by decide +kernel
theorem dX6_chartNet_116 : decode cX6_chartNet 116 = .ok (.invokevirtual 267, 3) := by decide +kernel
theorem dX6_chartNet_119 : decode cX6_chartNet 119 = .ok (.return_, 1) := by decide +kernel
theorem dX6_scoutFollows_0 : decode cX6_scoutFollows 0 = .ok (.aload_n 0, 1) := by decide +kernel
theorem dX6_scoutFollows_1 : decode cX6_scoutFollows 1 = .ok (.iload_n 2, 1) := by decide +kernel
theorem dX6_scoutFollows_2 : decode cX6_scoutFollows 2 = .ok (.invokestatic 233, 3) := by decide +kernel
theorem dX6_scoutFollows_5 : decode cX6_scoutFollows 5 = .ok (.invokevirtual 270, 3) := by decide +kernel
theorem dX6_scoutFollows_8 : decode cX6_scoutFollows 8 = .ok (.ifCond .ne 5, 3) := by decide +kernel
theorem dX6_scoutFollows_11 : decode cX6_scoutFollows 11 = .ok (.iconst 0, 1) := by decide +kernel
theorem dX6_scoutFollows_12 : decode cX6_scoutFollows 12 = .ok (.ireturn, 1) := by decide +kernel
theorem dX6_scoutFollows_13 : decode cX6_scoutFollows 13 = .ok (.aload_n 0, 1) := by decide +kernel
theorem dX6_scoutFollows_14 : decode cX6_scoutFollows 14 = .ok (.getfield 46, 3) := by decide +kernel
theorem dX6_scoutFollows_17 : decode cX6_scoutFollows 17 = .ok (.iload_n 1, 1) := by decide +kernel
theorem dX6_scoutFollows_18 : decode cX6_scoutFollows 18 = .ok (.invokestatic 120, 3) := by decide +kernel
theorem dX6_scoutFollows_21 : decode cX6_scoutFollows 21 = .ok (.iload_n 1, 1) := by decide +kernel
theorem dX6_scoutFollows_22 : decode cX6_scoutFollows 22 = .ok (.invokestatic 200, 3) := by decide +kernel
theorem dX6_scoutFollows_25 : decode cX6_scoutFollows 25 = .ok (.invokevirtual 156, 3) := by decide +kernel
theorem dX6_scoutFollows_28 : decode cX6_scoutFollows 28 = .ok (.aload_n 0, 1) := by decide +kernel
theorem dX6_scoutFollows_29 : decode cX6_scoutFollows 29 = .ok (.getfield 46, 3) := by decide +kernel
theorem dX6_scoutFollows_32 : decode cX6_scoutFollows 32 = .ok (.iload_n 2, 1) := by decide +kernel
theorem dX6_scoutFollows_33 : decode cX6_scoutFollows 33 = .ok (.invokestatic 233, 3) := by decide +kernel
theorem dX6_scoutFollows_36 : decode cX6_scoutFollows 36 = .ok (.iload_n 2, 1) := by decide +kernel
theorem dX6_scoutFollows_37 : decode cX6_scoutFollows 37 = .ok (.invokestatic 273, 3) := by decide +kernel
theorem dX6_scoutFollows_40 : decode cX6_scoutFollows 40 = .ok (.iconst 1, 1) := by decide +kernel
theorem dX6_scoutFollows_41 : decode cX6_scoutFollows 41 = .ok (.invokevirtual 276, 3) := by decide +kernel
theorem dX6_scoutFollows_44 : decode cX6_scoutFollows 44 = .ok (.ireturn, 1) := by decide +kernel
