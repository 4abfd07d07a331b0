theorem dX4_init_0 : decode cX4_init 0 = .ok (.aload_n 0, 1) := by decide +kernel
theorem dX4_init_1 : decode cX4_init 1 = .ok (.invokespecial 3, 3) := by decide +kernel
theorem dX4_init_4 : decode cX4_init 4 = .ok (.aload_n 0, 1) := by decide +kernel
theorem dX4_init_5 : decode cX4_init 5 = .ok (.iconst 0, 1) := by decide +kernel
theorem dX4_init_6 : decode cX4_init 6 = .ok (.putfield 9, 3) := by decide +kernel
theorem dX4_init_9 : decode cX4_init 9 = .ok (.aload_n 0, 1) := by decide +kernel
theorem dX4_init_10 : decode cX4_init 10 = .ok (.iconst 0, 1) := by decide +kernel
theorem dX4_init_11 : decode cX4_init 11 = .ok (.putfield 15, 3) := by decide +kernel
theorem dX4_init_14 : decode cX4_init 14 = .ok (.aload_n 0, 1) := by decide +kernel
theorem dX4_init_15 : decode cX4_init 15 = .ok (.iconst 0, 1) := by decide +kernel
theorem dX4_init_16 : decode cX4_init 16 = .ok (.putfield 18, 3) := by decide +kernel
theorem dX4_init_19 : decode cX4_init 19 = .ok (.aload_n 0, 1) := by decide +kernel
theorem dX4_init_20 : decode cX4_init 20 = .ok (.iconst 0, 1) := by decide +kernel
theorem dX4_init_21 : decode cX4_init 21 = .ok (.putfield 21, 3) := by decide +kernel
theorem dX4_init_24 : decode cX4_init 24 = .ok (.aload_n 0, 1) := by decide +kernel
theorem dX4_init_25 : decode cX4_init 25 = .ok (.new 24, 3) := by decide +kernel
theorem dX4_init_28 : decode cX4_init 28 = .ok (.dup, 1) := by decide +kernel
theorem dX4_init_29 : decode cX4_init 29 = .ok (.sipush 200, 3) := by decide +kernel
theorem dX4_init_32 : decode cX4_init 32 = .ok (.invokespecial 26, 3) := by decide +kernel
theorem dX4_init_35 : decode cX4_init 35 = .ok (.putfield 29, 3) := by decide +kernel
theorem dX4_init_38 : decode cX4_init 38 = .ok (.aload_n 0, 1) := by decide +kernel
theorem dX4_init_39 : decode cX4_init 39 = .ok (.aload_n 1, 1) := by decide +kernel
theorem dX4_init_40 : decode cX4_init 40 = .ok (.putfield 33, 3) := by decide +kernel
theorem dX4_init_43 : decode cX4_init 43 = .ok (.return_, 1) := by decide +kernel
theorem dX4_stand_0 : decode cX4_stand 0 = .ok (.aload_n 0, 1) := by decide +kernel
theorem dX4_stand_1 : decode cX4_stand 1 = .ok (.iload_n 1, 1) := by decide +kernel
theorem dX4_stand_2 : decode cX4_stand 2 = .ok (.putfield 9, 3) := by decide +kernel
theorem dX4_stand_5 : decode cX4_stand 5 = .ok (.aload_n 0, 1) := by decide +kernel
theorem dX4_stand_6 : decode cX4_stand 6 = .ok (.iload_n 2, 1) := by decide +kernel
theorem dX4_stand_7 : decode cX4_stand 7 = .ok (.putfield 15, 3) := by decide +kernel
theorem dX4_stand_10 : decode cX4_stand 10 = .ok (.aload_n 0, 1) := by decide +kernel
theorem dX4_stand_11 : decode cX4_stand 11 = .ok (.iconst 0, 1) := by decide +kernel
theorem dX4_stand_12 : decode cX4_stand 12 = .ok (.putfield 18, 3) := by decide +kernel
theorem dX4_stand_15 : decode cX4_stand 15 = .ok (.aload_n 0, 1) := by decide +kernel
theorem dX4_stand_16 : decode cX4_stand 16 = .ok (.getfield 29, 3) := by decide +kernel
theorem dX4_stand_19 : decode cX4_stand 19 = .ok (.invokevirtual 37, 3) := by decide +kernel
theorem dX4_stand_22 : decode cX4_stand 22 = .ok (.return_, 1) := by decide +kernel
theorem dX4_followAll_0 : decode cX4_followAll 0 = .ok (.iconst 0, 1) := by decide +kernel
theorem dX4_followAll_1 : decode cX4_followAll 1 = .ok (.istore_n 3, 1) := by decide +kernel
theorem dX4_followAll_2 : decode cX4_followAll 2 = .ok (.iload_n 3, 1) := by decide +kernel
theorem dX4_followAll_3 : decode cX4_followAll 3 = .ok (.aload_n 1, 1) := by decide +kernel
theorem dX4_followAll_4 : decode cX4_followAll 4 = .ok (.getfield 40, 3) := by decide +kernel
theorem dX4_followAll_7 : decode cX4_followAll 7 = .ok (.if_icmp .ge 63, 3) := by decide +kernel
theorem dX4_followAll_10 : decode cX4_followAll 10 = .ok (.aload_n 1, 1) := by decide +kernel
theorem dX4_followAll_11 : decode cX4_followAll 11 = .ok (.iload_n 3, 1) := by decide +kernel
theorem dX4_followAll_12 : decode cX4_followAll 12 = .ok (.invokevirtual 43, 3) := by decide +kernel
theorem dX4_followAll_15 : decode cX4_followAll 15 = .ok (.invokestatic 47, 3) := by decide +kernel
theorem dX4_followAll_18 : decode cX4_followAll 18 = .ok (.istore 4, 2) := by decide +kernel
theorem dX4_followAll_20 : decode cX4_followAll 20 = .ok (.aload_n 1, 1) := by decide +kernel
theorem dX4_followAll_21 : decode cX4_followAll 21 = .ok (.iload_n 3, 1) := by decide +kernel
theorem dX4_followAll_22 : decode cX4_followAll 22 = .ok (.invokevirtual 43, 3) := by decide +kernel
theorem dX4_followAll_25 : decode cX4_followAll 25 = .ok (.invokestatic 50, 3) := by decide +kernel
theorem dX4_followAll_28 : decode cX4_followAll 28 = .ok (.istore 5, 2) := by decide +kernel
theorem dX4_followAll_30 : decode cX4_followAll 30 = .ok (.iload_n 3, 1) := by decide +kernel
theorem dX4_followAll_31 : decode cX4_followAll 31 = .ok (.iload_n 2, 1) := by decide +kernel
theorem dX4_followAll_32 : decode cX4_followAll 32 = .ok (.if_icmp .ne 14, 3) := by decide +kernel
theorem dX4_followAll_35 : decode cX4_followAll 35 = .ok (.aload_n 0, 1) := by decide +kernel
theorem dX4_followAll_36 : decode cX4_followAll 36 = .ok (.iload 4, 2) := by decide +kernel
theorem dX4_followAll_38 : decode cX4_followAll 38 = .ok (.iload 5, 2) := by decide +kernel
theorem dX4_followAll_40 : decode cX4_followAll 40 = .ok (.invokevirtual 53, 3) := by decide +kernel
theorem dX4_followAll_43 : decode cX4_followAll 43 = .ok (.goto 12, 3) := by decide +kernel
theorem dX4_followAll_46 : decode cX4_followAll 46 = .ok (.aload_n 0, 1) := by decide +kernel
theorem dX4_followAll_47 : decode cX4_followAll 47 = .ok (.iload 4, 2) := by decide +kernel
theorem dX4_followAll_49 : decode cX4_followAll 49 = .ok (.iload 5, 2) := by decide +kernel
theorem dX4_followAll_51 : decode cX4_followAll 51 = .ok (.iconst 1, 1) := by decide +kernel
theorem dX4_followAll_52 : decode cX4_followAll 52 = .ok (.invokevirtual 57, 3) := by decide +kernel
theorem dX4_followAll_55 : decode cX4_followAll 55 = .ok (.istore 6, 2) := by decide +kernel
theorem dX4_followAll_57 : decode cX4_followAll 57 = .ok (.iload 6, 2) := by decide +kernel
theorem dX4_followAll_59 : decode cX4_followAll 59 = .ok (.ifCond .ne 5, 3) := by decide +kernel
theorem dX4_followAll_62 : decode cX4_followAll 62 = .ok (.iload_n 3, 1) := by decide +kernel
theorem dX4_followAll_63 : decode cX4_followAll 63 = .ok (.ireturn, 1) := by decide +kernel
theorem dX4_followAll_64 : decode cX4_followAll 64 = .ok (.iinc 3 1, 3) := by decide +kernel
theorem dX4_followAll_67 : decode cX4_followAll 67 = .ok (.goto (-65), 3) := by decide +kernel
theorem dX4_followAll_70 : decode cX4_followAll 70 = .ok (.iconst (-1), 1) := by decide +kernel
theorem dX4_followAll_71 : decode cX4_followAll 71 = .ok (.ireturn, 1) := by decide +kernel
theorem dX4_follow_0 : decode cX4_follow 0 = .ok (.aload_n 0, 1) := by decide +kernel
theorem dX4_follow_1 : decode cX4_follow 1 = .ok (.iconst 0, 1) := by decide +kernel
theorem dX4_follow_2 : decode cX4_follow 2 = .ok (.putfield 21, 3) := by decide +kernel
theorem dX4_follow_5 : decode cX4_follow 5 = .ok (.iload_n 1, 1) := by decide +kernel
theorem dX4_follow_6 : decode cX4_follow 6 = .ok (.tableswitch 95 0 8 #[50, 50, 50, 50, 63, 70, 77, 84, 90], 50) := by decide +kernel
theorem dX4_follow_56 : decode cX4_follow 56 = .ok (.aload_n 0, 1) := by decide +kernel
theorem dX4_follow_57 : decode cX4_follow 57 = .ok (.aload_n 0, 1) := by decide +kernel
theorem dX4_follow_58 : decode cX4_follow 58 = .ok (.getfield 15, 3) := by decide +kernel
theorem dX4_follow_61 : decode cX4_follow 61 = .ok (.iload_n 1, 1) := by decide +kernel
theorem dX4_follow_62 : decode cX4_follow 62 = .ok (.invokestatic 61, 3) := by decide +kernel
theorem dX4_follow_65 : decode cX4_follow 65 = .ok (.invokevirtual 65, 3) := by decide +kernel
theorem dX4_follow_68 : decode cX4_follow 68 = .ok (.ireturn, 1) := by decide +kernel
theorem dX4_follow_69 : decode cX4_follow 69 = .ok (.aload_n 0, 1) := by decide +kernel
theorem dX4_follow_70 : decode cX4_follow 70 = .ok (.iconst 3, 1) := by decide +kernel
theorem dX4_follow_71 : decode cX4_follow 71 = .ok (.iload_n 2, 1) := by decide +kernel
theorem dX4_follow_72 : decode cX4_follow 72 = .ok (.invokevirtual 69, 3) := by decide +kernel
theorem dX4_follow_75 : decode cX4_follow 75 = .ok (.ireturn, 1) := by decide +kernel
theorem dX4_follow_76 : decode cX4_follow 76 = .ok (.aload_n 0, 1) := by decide +kernel
theorem dX4_follow_77 : decode cX4_follow 77 = .ok (.iconst 1, 1) := by decide +kernel
theorem dX4_follow_78 : decode cX4_follow 78 = .ok (.iload_n 2, 1) := by decide +kernel
theorem dX4_follow_79 : decode cX4_follow 79 = .ok (.invokevirtual 69, 3) := by decide +kernel
theorem dX4_follow_82 : decode cX4_follow 82 = .ok (.ireturn, 1) := by decide +kernel
theorem dX4_follow_83 : decode cX4_follow 83 = .ok (.aload_n 0, 1) := by decide +kernel
theorem dX4_follow_84 : decode cX4_follow 84 = .ok (.iload_n 2, 1) := by decide +kernel
theorem dX4_follow_85 : decode cX4_follow 85 = .ok (.iload_n 3, 1) := by decide +kernel
theorem dX4_follow_86 : decode cX4_follow 86 = .ok (.invokevirtual 72, 3) := by decide +kernel
theorem dX4_follow_89 : decode cX4_follow 89 = .ok (.ireturn, 1) := by decide +kernel
theorem dX4_follow_90 : decode cX4_follow 90 = .ok (.aload_n 0, 1) := by decide +kernel
theorem dX4_follow_91 : decode cX4_follow 91 = .ok (.iload_n 2, 1) := by decide +kernel
theorem dX4_follow_92 : decode cX4_follow 92 = .ok (.invokevirtual 75, 3) := by decide +kernel
theorem dX4_follow_95 : decode cX4_follow 95 = .ok (.ireturn, 1) := by decide +kernel
theorem dX4_follow_96 : decode cX4_follow 96 = .ok (.aload_n 0, 1) := by decide +kernel
theorem dX4_follow_97 : decode cX4_follow 97 = .ok (.invokevirtual 78, 3) := by decide +kernel
theorem dX4_follow_100 : decode cX4_follow 100 = .ok (.ireturn, 1) := by decide +kernel
theorem dX4_follow_101 : decode cX4_follow 101 = .ok (.iconst 0, 1) := by decide +kernel
theorem dX4_follow_102 : decode cX4_follow 102 = .ok (.ireturn, 1) := by decide +kernel
theorem dX4_wentAlong_0 : decode cX4_wentAlong 0 = .ok (.aload_n 0, 1) := by decide +kernel
theorem dX4_wentAlong_1 : decode cX4_wentAlong 1 = .ok (.getfield 18, 3) := by decide +kernel
theorem dX4_wentAlong_4 : decode cX4_wentAlong 4 = .ok (.aload_n 1, 1) := by decide +kernel
theorem dX4_wentAlong_5 : decode cX4_wentAlong 5 = .ok (.getfield 40, 3) := by decide +kernel
theorem dX4_wentAlong_8 : decode cX4_wentAlong 8 = .ok (.iload_n 2, 1) := by decide +kernel
theorem dX4_wentAlong_9 : decode cX4_wentAlong 9 = .ok (.isub, 1) := by decide +kernel
theorem dX4_wentAlong_10 : decode cX4_wentAlong 10 = .ok (.if_icmp .le 5, 3) := by decide +kernel
theorem dX4_wentAlong_13 : decode cX4_wentAlong 13 = .ok (.iconst 0, 1) := by decide +kernel
theorem dX4_wentAlong_14 : decode cX4_wentAlong 14 = .ok (.ireturn, 1) := by decide +kernel
theorem dX4_wentAlong_15 : decode cX4_wentAlong 15 = .ok (.iconst 0, 1) := by decide +kernel
theorem dX4_wentAlong_16 : decode cX4_wentAlong 16 = .ok (.istore_n 3, 1) := by decide +kernel
theorem dX4_wentAlong_17 : decode cX4_wentAlong 17 = .ok (.iload_n 3, 1) := by decide +kernel
theorem dX4_wentAlong_18 : decode cX4_wentAlong 18 = .ok (.aload_n 0, 1) := by decide +kernel
theorem dX4_wentAlong_19 : decode cX4_wentAlong 19 = .ok (.getfield 18, 3) := by decide +kernel
theorem dX4_wentAlong_22 : decode cX4_wentAlong 22 = .ok (.if_icmp .ge 29, 3) := by decide +kernel
theorem dX4_wentAlong_25 : decode cX4_wentAlong 25 = .ok (.aload_n 0, 1) := by decide +kernel
theorem dX4_wentAlong_26 : decode cX4_wentAlong 26 = .ok (.getfield 29, 3) := by decide +kernel
theorem dX4_wentAlong_29 : decode cX4_wentAlong 29 = .ok (.iload_n 3, 1) := by decide +kernel
theorem dX4_wentAlong_30 : decode cX4_wentAlong 30 = .ok (.invokevirtual 43, 3) := by decide +kernel
theorem dX4_wentAlong_33 : decode cX4_wentAlong 33 = .ok (.aload_n 1, 1) := by decide +kernel
theorem dX4_wentAlong_34 : decode cX4_wentAlong 34 = .ok (.iload_n 2, 1) := by decide +kernel
theorem dX4_wentAlong_35 : decode cX4_wentAlong 35 = .ok (.iload_n 3, 1) := by decide +kernel
theorem dX4_wentAlong_36 : decode cX4_wentAlong 36 = .ok (.iadd, 1) := by decide +kernel
theorem dX4_wentAlong_37 : decode cX4_wentAlong 37 = .ok (.invokevirtual 43, 3) := by decide +kernel
theorem dX4_wentAlong_40 : decode cX4_wentAlong 40 = .ok (.if_icmp .eq 5, 3) := by decide +kernel
theorem dX4_wentAlong_43 : decode cX4_wentAlong 43 = .ok (.iconst 0, 1) := by decide +kernel
theorem dX4_wentAlong_44 : decode cX4_wentAlong 44 = .ok (.ireturn, 1) := by decide +kernel
theorem dX4_wentAlong_45 : decode cX4_wentAlong 45 = .ok (.iinc 3 1, 3) := by decide +kernel
theorem dX4_wentAlong_48 : decode cX4_wentAlong 48 = .ok (.goto (-31), 3) := by decide +kernel
theorem dX4_wentAlong_51 : decode cX4_wentAlong 51 = .ok (.iconst 1, 1) := by decide +kernel
theorem dX4_wentAlong_52 : decode cX4_wentAlong 52 = .ok (.ireturn, 1) := by decide +kernel
theorem dX4_followSlipped_0 : decode cX4_followSlipped 0 = .ok (.iload_n 1, 1) := by decide +kernel
theorem dX4_followSlipped_1 : decode cX4_followSlipped 1 = .ok (.tableswitch 61 1 5 #[35, 61, 43, 51, 51], 35) := by decide +kernel
theorem dX4_followSlipped_36 : decode cX4_followSlipped 36 = .ok (.aload_n 0, 1) := by decide +kernel
theorem dX4_followSlipped_37 : decode cX4_followSlipped 37 = .ok (.iconst 3, 1) := by decide +kernel
theorem dX4_followSlipped_38 : decode cX4_followSlipped 38 = .ok (.iload_n 2, 1) := by decide +kernel
theorem dX4_followSlipped_39 : decode cX4_followSlipped 39 = .ok (.iconst 1, 1) := by decide +kernel
theorem dX4_followSlipped_40 : decode cX4_followSlipped 40 = .ok (.invokevirtual 57, 3) := by decide +kernel
theorem dX4_followSlipped_43 : decode cX4_followSlipped 43 = .ok (.ireturn, 1) := by decide +kernel
theorem dX4_followSlipped_44 : decode cX4_followSlipped 44 = .ok (.aload_n 0, 1) := by decide +kernel
theorem dX4_followSlipped_45 : decode cX4_followSlipped 45 = .ok (.iconst 1, 1) := by decide +kernel
theorem dX4_followSlipped_46 : decode cX4_followSlipped 46 = .ok (.iload_n 2, 1) := by decide +kernel
theorem dX4_followSlipped_47 : decode cX4_followSlipped 47 = .ok (.iconst 1, 1) := by decide +kernel
theorem dX4_followSlipped_48 : decode cX4_followSlipped 48 = .ok (.invokevirtual 57, 3) := by decide +kernel
theorem dX4_followSlipped_51 : decode cX4_followSlipped 51 = .ok (.ireturn, 1) := by decide +kernel
theorem dX4_followSlipped_52 : decode cX4_followSlipped 52 = .ok (.aload_n 0, 1) := by decide +kernel
theorem dX4_followSlipped_53 : decode cX4_followSlipped 53 = .ok (.iload_n 1, 1) := by decide +kernel
theorem dX4_followSlipped_54 : decode cX4_followSlipped 54 = .ok (.iload_n 2, 1) := by decide +kernel
theorem dX4_followSlipped_55 : decode cX4_followSlipped 55 = .ok (.iconst 1, 1) := by decide +kernel
theorem dX4_followSlipped_56 : decode cX4_followSlipped 56 = .ok (.iadd, 1) := by decide +kernel
theorem dX4_followSlipped_57 : decode cX4_followSlipped 57 = .ok (.iconst 1, 1) := by decide +kernel
theorem dX4_followSlipped_58 : decode cX4_followSlipped 58 = .ok (.invokevirtual 57, 3) := by decide +kernel
theorem dX4_followSlipped_61 : decode cX4_followSlipped 61 = .ok (.ireturn, 1) := by decide +kernel
theorem dX4_followSlipped_62 : decode cX4_followSlipped 62 = .ok (.aload_n 0, 1) := by decide +kernel
theorem dX4_followSlipped_63 : decode cX4_followSlipped 63 = .ok (.iload_n 1, 1) := by decide +kernel
theorem dX4_followSlipped_64 : decode cX4_followSlipped 64 = .ok (.iload_n 2, 1) := by decide +kernel
theorem dX4_followSlipped_65 : decode cX4_followSlipped 65 = .ok (.iconst 2, 1) := by decide +kernel
theorem dX4_followSlipped_66 : decode cX4_followSlipped 66 = .ok (.invokevirtual 57, 3) := by decide +kernel
theorem dX4_followSlipped_69 : decode cX4_followSlipped 69 = .ok (.ireturn, 1) := by decide +kernel
theorem dX4_pass_0 : decode cX4_pass 0 = .ok (.aload_n 0, 1) := by decide +kernel
theorem dX4_pass_1 : decode cX4_pass 1 = .ok (.getfield 33, 3) := by decide +kernel
theorem dX4_pass_4 : decode cX4_pass 4 = .ok (.aload_n 0, 1) := by decide +kernel
theorem dX4_pass_5 : decode cX4_pass 5 = .ok (.getfield 9, 3) := by decide +kernel
theorem dX4_pass_8 : decode cX4_pass 8 = .ok (.iload_n 1, 1) := by decide +kernel
theorem dX4_pass_9 : decode cX4_pass 9 = .ok (.invokevirtual 82, 3) := by decide +kernel
theorem dX4_pass_12 : decode cX4_pass 12 = .ok (.istore_n 2, 1) := by decide +kernel
theorem dX4_pass_13 : decode cX4_pass 13 = .ok (.iload_n 2, 1) := by decide +kernel
theorem dX4_pass_14 : decode cX4_pass 14 = .ok (.iconst (-1), 1) := by decide +kernel
theorem dX4_pass_15 : decode cX4_pass 15 = .ok (.if_icmp .eq 12, 3) := by decide +kernel
theorem dX4_pass_18 : decode cX4_pass 18 = .ok (.aload_n 0, 1) := by decide +kernel
theorem dX4_pass_19 : decode cX4_pass 19 = .ok (.getfield 21, 3) := by decide +kernel
theorem dX4_pass_22 : decode cX4_pass 22 = .ok (.bipush 30, 2) := by decide +kernel
theorem dX4_pass_24 : decode cX4_pass 24 = .ok (.if_icmp .lt 5, 3) := by decide +kernel
theorem dX4_pass_27 : decode cX4_pass 27 = .ok (.iconst 0, 1) := by decide +kernel
theorem dX4_pass_28 : decode cX4_pass 28 = .ok (.ireturn, 1) := by decide +kernel
theorem dX4_pass_29 : decode cX4_pass 29 = .ok (.aload_n 0, 1) := by decide +kernel
theorem dX4_pass_30 : decode cX4_pass 30 = .ok (.getfield 29, 3) := by decide +kernel
theorem dX4_pass_33 : decode cX4_pass 33 = .ok (.iload_n 1, 1) := by decide +kernel
theorem dX4_pass_34 : decode cX4_pass 34 = .ok (.invokevirtual 87, 3) := by decide +kernel
theorem dX4_pass_37 : decode cX4_pass 37 = .ok (.pop, 1) := by decide +kernel
theorem dX4_pass_38 : decode cX4_pass 38 = .ok (.aload_n 0, 1) := by decide +kernel
theorem dX4_pass_39 : decode cX4_pass 39 = .ok (.dup, 1) := by decide +kernel
theorem dX4_pass_40 : decode cX4_pass 40 = .ok (.getfield 18, 3) := by decide +kernel
theorem dX4_pass_43 : decode cX4_pass 43 = .ok (.iconst 1, 1) := by decide +kernel
theorem dX4_pass_44 : decode cX4_pass 44 = .ok (.iadd, 1) := by decide +kernel
theorem dX4_pass_45 : decode cX4_pass 45 = .ok (.putfield 18, 3) := by decide +kernel
theorem dX4_pass_48 : decode cX4_pass 48 = .ok (.aload_n 0, 1) := by decide +kernel
theorem dX4_pass_49 : decode cX4_pass 49 = .ok (.dup, 1) := by decide +kernel
theorem dX4_pass_50 : decode cX4_pass 50 = .ok (.getfield 21, 3) := by decide +kernel
theorem dX4_pass_53 : decode cX4_pass 53 = .ok (.iconst 1, 1) := by decide +kernel
theorem dX4_pass_54 : decode cX4_pass 54 = .ok (.iadd, 1) := by decide +kernel
theorem dX4_pass_55 : decode cX4_pass 55 = .ok (.putfield 21, 3) := by decide +kernel
theorem dX4_pass_58 : decode cX4_pass 58 = .ok (.aload_n 0, 1) := by decide +kernel
theorem dX4_pass_59 : decode cX4_pass 59 = .ok (.iload_n 2, 1) := by decide +kernel
theorem dX4_pass_60 : decode cX4_pass 60 = .ok (.invokestatic 90, 3) := by decide +kernel
theorem dX4_pass_63 : decode cX4_pass 63 = .ok (.putfield 9, 3) := by decide +kernel
theorem dX4_pass_66 : decode cX4_pass 66 = .ok (.aload_n 0, 1) := by decide +kernel
theorem dX4_pass_67 : decode cX4_pass 67 = .ok (.iload_n 2, 1) := by decide +kernel
theorem dX4_pass_68 : decode cX4_pass 68 = .ok (.invokestatic 93, 3) := by decide +kernel
theorem dX4_pass_71 : decode cX4_pass 71 = .ok (.putfield 15, 3) := by decide +kernel
theorem dX4_pass_74 : decode cX4_pass 74 = .ok (.iconst 1, 1) := by decide +kernel
theorem dX4_pass_75 : decode cX4_pass 75 = .ok (.ireturn, 1) := by decide +kernel
theorem dX4_hasStreet_0 : decode cX4_hasStreet 0 = .ok (.aload_n 0, 1) := by decide +kernel
theorem dX4_hasStreet_1 : decode cX4_hasStreet 1 = .ok (.getfield 33, 3) := by decide +kernel
theorem dX4_hasStreet_4 : decode cX4_hasStreet 4 = .ok (.aload_n 0, 1) := by decide +kernel
theorem dX4_hasStreet_5 : decode cX4_hasStreet 5 = .ok (.getfield 9, 3) := by decide +kernel
theorem dX4_hasStreet_8 : decode cX4_hasStreet 8 = .ok (.iload_n 1, 1) := by decide +kernel
theorem dX4_hasStreet_9 : decode cX4_hasStreet 9 = .ok (.invokevirtual 82, 3) := by decide +kernel
theorem dX4_hasStreet_12 : decode cX4_hasStreet 12 = .ok (.iconst (-1), 1) := by decide +kernel
theorem dX4_hasStreet_13 : decode cX4_hasStreet 13 = .ok (.if_icmp .eq 7, 3) := by decide +kernel
theorem dX4_hasStreet_16 : decode cX4_hasStreet 16 = .ok (.iconst 1, 1) := by decide +kernel
theorem dX4_hasStreet_17 : decode cX4_hasStreet 17 = .ok (.goto 4, 3) := by decide +kernel
theorem dX4_hasStreet_20 : decode cX4_hasStreet 20 = .ok (.iconst 0, 1) := by decide +kernel
theorem dX4_hasStreet_21 : decode cX4_hasStreet 21 = .ok (.ireturn, 1) := by decide +kernel
theorem dX4_turnAtNth_0 : decode cX4_turnAtNth 0 = .ok (.iconst 0, 1) := by decide +kernel
theorem dX4_turnAtNth_1 : decode cX4_turnAtNth 1 = .ok (.istore_n 3, 1) := by decide +kernel
theorem dX4_turnAtNth_2 : decode cX4_turnAtNth 2 = .ok (.iconst 0, 1) := by decide +kernel
theorem dX4_turnAtNth_3 : decode cX4_turnAtNth 3 = .ok (.istore 4, 2) := by decide +kernel
theorem dX4_turnAtNth_5 : decode cX4_turnAtNth 5 = .ok (.iload 4, 2) := by decide +kernel
theorem dX4_turnAtNth_7 : decode cX4_turnAtNth 7 = .ok (.bipush 30, 2) := by decide +kernel
theorem dX4_turnAtNth_9 : decode cX4_turnAtNth 9 = .ok (.if_icmp .gt 56, 3) := by decide +kernel
theorem dX4_turnAtNth_12 : decode cX4_turnAtNth 12 = .ok (.aload_n 0, 1) := by decide +kernel
theorem dX4_turnAtNth_13 : decode cX4_turnAtNth 13 = .ok (.getfield 15, 3) := by decide +kernel
theorem dX4_turnAtNth_16 : decode cX4_turnAtNth 16 = .ok (.iload_n 1, 1) := by decide +kernel
theorem dX4_turnAtNth_17 : decode cX4_turnAtNth 17 = .ok (.invokestatic 61, 3) := by decide +kernel
theorem dX4_turnAtNth_20 : decode cX4_turnAtNth 20 = .ok (.istore 5, 2) := by decide +kernel
theorem dX4_turnAtNth_22 : decode cX4_turnAtNth 22 = .ok (.aload_n 0, 1) := by decide +kernel
theorem dX4_turnAtNth_23 : decode cX4_turnAtNth 23 = .ok (.iload 5, 2) := by decide +kernel
theorem dX4_turnAtNth_25 : decode cX4_turnAtNth 25 = .ok (.invokevirtual 96, 3) := by decide +kernel
theorem dX4_turnAtNth_28 : decode cX4_turnAtNth 28 = .ok (.ifCond .eq 6, 3) := by decide +kernel
theorem dX4_turnAtNth_31 : decode cX4_turnAtNth 31 = .ok (.iinc 3 1, 3) := by decide +kernel
theorem dX4_turnAtNth_34 : decode cX4_turnAtNth 34 = .ok (.iload_n 3, 1) := by decide +kernel
theorem dX4_turnAtNth_35 : decode cX4_turnAtNth 35 = .ok (.iload_n 2, 1) := by decide +kernel
theorem dX4_turnAtNth_36 : decode cX4_turnAtNth 36 = .ok (.if_icmp .lt 10, 3) := by decide +kernel
theorem dX4_turnAtNth_39 : decode cX4_turnAtNth 39 = .ok (.aload_n 0, 1) := by decide +kernel
theorem dX4_turnAtNth_40 : decode cX4_turnAtNth 40 = .ok (.iload 5, 2) := by decide +kernel
theorem dX4_turnAtNth_42 : decode cX4_turnAtNth 42 = .ok (.invokevirtual 65, 3) := by decide +kernel
theorem dX4_turnAtNth_45 : decode cX4_turnAtNth 45 = .ok (.ireturn, 1) := by decide +kernel
theorem dX4_turnAtNth_46 : decode cX4_turnAtNth 46 = .ok (.aload_n 0, 1) := by decide +kernel
theorem dX4_turnAtNth_47 : decode cX4_turnAtNth 47 = .ok (.aload_n 0, 1) := by decide +kernel
theorem dX4_turnAtNth_48 : decode cX4_turnAtNth 48 = .ok (.getfield 15, 3) := by decide +kernel
theorem dX4_turnAtNth_51 : decode cX4_turnAtNth 51 = .ok (.invokevirtual 65, 3) := by decide +kernel
theorem dX4_turnAtNth_54 : decode cX4_turnAtNth 54 = .ok (.ifCond .ne 5, 3) := by decide +kernel
theorem dX4_turnAtNth_57 : decode cX4_turnAtNth 57 = .ok (.iconst 0, 1) := by decide +kernel
theorem dX4_turnAtNth_58 : decode cX4_turnAtNth 58 = .ok (.ireturn, 1) := by decide +kernel
theorem dX4_turnAtNth_59 : decode cX4_turnAtNth 59 = .ok (.iinc 4 1, 3) := by decide +kernel
theorem dX4_turnAtNth_62 : decode cX4_turnAtNth 62 = .ok (.goto (-57), 3) := by decide +kernel
theorem dX4_turnAtNth_65 : decode cX4_turnAtNth 65 = .ok (.iconst 0, 1) := by decide +kernel
theorem dX4_turnAtNth_66 : decode cX4_turnAtNth 66 = .ok (.ireturn, 1) := by decide +kernel
theorem dX4_passUntil_0 : decode cX4_passUntil 0 = .ok (.iconst 0, 1) := by decide +kernel
theorem dX4_passUntil_1 : decode cX4_passUntil 1 = .ok (.istore_n 3, 1) := by decide +kernel
theorem dX4_passUntil_2 : decode cX4_passUntil 2 = .ok (.iconst 0, 1) := by decide +kernel
theorem dX4_passUntil_3 : decode cX4_passUntil 3 = .ok (.istore 4, 2) := by decide +kernel
theorem dX4_passUntil_5 : decode cX4_passUntil 5 = .ok (.iload 4, 2) := by decide +kernel
theorem dX4_passUntil_7 : decode cX4_passUntil 7 = .ok (.bipush 30, 2) := by decide +kernel
theorem dX4_passUntil_9 : decode cX4_passUntil 9 = .ok (.if_icmp .gt 47, 3) := by decide +kernel
theorem dX4_passUntil_12 : decode cX4_passUntil 12 = .ok (.aload_n 0, 1) := by decide +kernel
theorem dX4_passUntil_13 : decode cX4_passUntil 13 = .ok (.aload_n 0, 1) := by decide +kernel
theorem dX4_passUntil_14 : decode cX4_passUntil 14 = .ok (.getfield 15, 3) := by decide +kernel
theorem dX4_passUntil_17 : decode cX4_passUntil 17 = .ok (.invokevirtual 65, 3) := by decide +kernel
theorem dX4_passUntil_20 : decode cX4_passUntil 20 = .ok (.ifCond .ne 5, 3) := by decide +kernel
theorem dX4_passUntil_23 : decode cX4_passUntil 23 = .ok (.iconst 0, 1) := by decide +kernel
theorem dX4_passUntil_24 : decode cX4_passUntil 24 = .ok (.ireturn, 1) := by decide +kernel
theorem dX4_passUntil_25 : decode cX4_passUntil 25 = .ok (.aload_n 0, 1) := by decide +kernel
theorem dX4_passUntil_26 : decode cX4_passUntil 26 = .ok (.getfield 33, 3) := by decide +kernel
theorem dX4_passUntil_29 : decode cX4_passUntil 29 = .ok (.aload_n 0, 1) := by decide +kernel
theorem dX4_passUntil_30 : decode cX4_passUntil 30 = .ok (.getfield 9, 3) := by decide +kernel
theorem dX4_passUntil_33 : decode cX4_passUntil 33 = .ok (.invokevirtual 99, 3) := by decide +kernel
theorem dX4_passUntil_36 : decode cX4_passUntil 36 = .ok (.iload_n 1, 1) := by decide +kernel
theorem dX4_passUntil_37 : decode cX4_passUntil 37 = .ok (.if_icmp .ne 6, 3) := by decide +kernel
theorem dX4_passUntil_40 : decode cX4_passUntil 40 = .ok (.iinc 3 1, 3) := by decide +kernel
theorem dX4_passUntil_43 : decode cX4_passUntil 43 = .ok (.iload_n 3, 1) := by decide +kernel
theorem dX4_passUntil_44 : decode cX4_passUntil 44 = .ok (.iload_n 2, 1) := by decide +kernel
theorem dX4_passUntil_45 : decode cX4_passUntil 45 = .ok (.if_icmp .lt 5, 3) := by decide +kernel
theorem dX4_passUntil_48 : decode cX4_passUntil 48 = .ok (.iconst 1, 1) := by decide +kernel
theorem dX4_passUntil_49 : decode cX4_passUntil 49 = .ok (.ireturn, 1) := by decide +kernel
theorem dX4_passUntil_50 : decode cX4_passUntil 50 = .ok (.iinc 4 1, 3) := by decide +kernel
theorem dX4_passUntil_53 : decode cX4_passUntil 53 = .ok (.goto (-48), 3) := by decide +kernel
theorem dX4_passUntil_56 : decode cX4_passUntil 56 = .ok (.iconst 0, 1) := by decide +kernel
theorem dX4_passUntil_57 : decode cX4_passUntil 57 = .ok (.ireturn, 1) := by decide +kernel
theorem dX4_passNamed_0 : decode cX4_passNamed 0 = .ok (.iconst (-1), 1) := by decide +kernel
theorem dX4_passNamed_1 : decode cX4_passNamed 1 = .ok (.istore_n 2, 1) := by decide +kernel
theorem dX4_passNamed_2 : decode cX4_passNamed 2 = .ok (.iconst 0, 1) := by decide +kernel
theorem dX4_passNamed_3 : decode cX4_passNamed 3 = .ok (.istore_n 3, 1) := by decide +kernel
theorem dX4_passNamed_4 : decode cX4_passNamed 4 = .ok (.iload_n 3, 1) := by decide +kernel
theorem dX4_passNamed_5 : decode cX4_passNamed 5 = .ok (.iconst 4, 1) := by decide +kernel
theorem dX4_passNamed_6 : decode cX4_passNamed 6 = .ok (.if_icmp .ge 60, 3) := by decide +kernel
theorem dX4_passNamed_9 : decode cX4_passNamed 9 = .ok (.aload_n 0, 1) := by decide +kernel
theorem dX4_passNamed_10 : decode cX4_passNamed 10 = .ok (.getfield 15, 3) := by decide +kernel
theorem dX4_passNamed_13 : decode cX4_passNamed 13 = .ok (.iload_n 3, 1) := by decide +kernel
theorem dX4_passNamed_14 : decode cX4_passNamed 14 = .ok (.invokestatic 61, 3) := by decide +kernel
theorem dX4_passNamed_17 : decode cX4_passNamed 17 = .ok (.istore 4, 2) := by decide +kernel
theorem dX4_passNamed_19 : decode cX4_passNamed 19 = .ok (.iload_n 3, 1) := by decide +kernel
theorem dX4_passNamed_20 : decode cX4_passNamed 20 = .ok (.iconst 2, 1) := by decide +kernel
theorem dX4_passNamed_21 : decode cX4_passNamed 21 = .ok (.if_icmp .eq 39, 3) := by decide +kernel
theorem dX4_passNamed_24 : decode cX4_passNamed 24 = .ok (.aload_n 0, 1) := by decide +kernel
theorem dX4_passNamed_25 : decode cX4_passNamed 25 = .ok (.iload 4, 2) := by decide +kernel
theorem dX4_passNamed_27 : decode cX4_passNamed 27 = .ok (.invokevirtual 96, 3) := by decide +kernel
theorem dX4_passNamed_30 : decode cX4_passNamed 30 = .ok (.ifCond .eq 30, 3) := by decide +kernel
theorem dX4_passNamed_33 : decode cX4_passNamed 33 = .ok (.aload_n 0, 1) := by decide +kernel
theorem dX4_passNamed_34 : decode cX4_passNamed 34 = .ok (.getfield 33, 3) := by decide +kernel
theorem dX4_passNamed_37 : decode cX4_passNamed 37 = .ok (.aload_n 0, 1) := by decide +kernel
theorem dX4_passNamed_38 : decode cX4_passNamed 38 = .ok (.getfield 9, 3) := by decide +kernel
theorem dX4_passNamed_41 : decode cX4_passNamed 41 = .ok (.iload 4, 2) := by decide +kernel
theorem dX4_passNamed_43 : decode cX4_passNamed 43 = .ok (.invokevirtual 102, 3) := by decide +kernel
theorem dX4_passNamed_46 : decode cX4_passNamed 46 = .ok (.iload_n 1, 1) := by decide +kernel
theorem dX4_passNamed_47 : decode cX4_passNamed 47 = .ok (.if_icmp .ne 13, 3) := by decide +kernel
theorem dX4_passNamed_50 : decode cX4_passNamed 50 = .ok (.iload_n 2, 1) := by decide +kernel
theorem dX4_passNamed_51 : decode cX4_passNamed 51 = .ok (.iconst (-1), 1) := by decide +kernel
theorem dX4_passNamed_52 : decode cX4_passNamed 52 = .ok (.if_icmp .eq 5, 3) := by decide +kernel
theorem dX4_passNamed_55 : decode cX4_passNamed 55 = .ok (.iconst 0, 1) := by decide +kernel
theorem dX4_passNamed_56 : decode cX4_passNamed 56 = .ok (.ireturn, 1) := by decide +kernel
theorem dX4_passNamed_57 : decode cX4_passNamed 57 = .ok (.iload 4, 2) := by decide +kernel
theorem dX4_passNamed_59 : decode cX4_passNamed 59 = .ok (.istore_n 2, 1) := by decide +kernel
theorem dX4_passNamed_60 : decode cX4_passNamed 60 = .ok (.iinc 3 1, 3) := by decide +kernel
theorem dX4_passNamed_63 : decode cX4_passNamed 63 = .ok (.goto (-59), 3) := by decide +kernel
theorem dX4_passNamed_66 : decode cX4_passNamed 66 = .ok (.aload_n 0, 1) := by decide +kernel
theorem dX4_passNamed_67 : decode cX4_passNamed 67 = .ok (.iload_n 2, 1) := by decide +kernel
theorem dX4_passNamed_68 : decode cX4_passNamed 68 = .ok (.invokevirtual 65, 3) := by decide +kernel
theorem dX4_passNamed_71 : decode cX4_passNamed 71 = .ok (.ireturn, 1) := by decide +kernel
theorem dX4_passToTheEnd_0 : decode cX4_passToTheEnd 0 = .ok (.iconst 0, 1) := by decide +kernel
theorem dX4_passToTheEnd_1 : decode cX4_passToTheEnd 1 = .ok (.istore_n 1, 1) := by decide +kernel
theorem dX4_passToTheEnd_2 : decode cX4_passToTheEnd 2 = .ok (.iload_n 1, 1) := by decide +kernel
theorem dX4_passToTheEnd_3 : decode cX4_passToTheEnd 3 = .ok (.bipush 30, 2) := by decide +kernel
theorem dX4_passToTheEnd_5 : decode cX4_passToTheEnd 5 = .ok (.if_icmp .gt 35, 3) := by decide +kernel
theorem dX4_passToTheEnd_8 : decode cX4_passToTheEnd 8 = .ok (.aload_n 0, 1) := by decide +kernel
theorem dX4_passToTheEnd_9 : decode cX4_passToTheEnd 9 = .ok (.aload_n 0, 1) := by decide +kernel
theorem dX4_passToTheEnd_10 : decode cX4_passToTheEnd 10 = .ok (.getfield 15, 3) := by decide +kernel
theorem dX4_passToTheEnd_13 : decode cX4_passToTheEnd 13 = .ok (.invokevirtual 65, 3) := by decide +kernel
theorem dX4_passToTheEnd_16 : decode cX4_passToTheEnd 16 = .ok (.ifCond .ne 5, 3) := by decide +kernel
theorem dX4_passToTheEnd_19 : decode cX4_passToTheEnd 19 = .ok (.iconst 0, 1) := by decide +kernel
theorem dX4_passToTheEnd_20 : decode cX4_passToTheEnd 20 = .ok (.ireturn, 1) := by decide +kernel
theorem dX4_passToTheEnd_21 : decode cX4_passToTheEnd 21 = .ok (.aload_n 0, 1) := by decide +kernel
theorem dX4_passToTheEnd_22 : decode cX4_passToTheEnd 22 = .ok (.aload_n 0, 1) := by decide +kernel
theorem dX4_passToTheEnd_23 : decode cX4_passToTheEnd 23 = .ok (.getfield 15, 3) := by decide +kernel
theorem dX4_passToTheEnd_26 : decode cX4_passToTheEnd 26 = .ok (.invokevirtual 96, 3) := by decide +kernel
theorem dX4_passToTheEnd_29 : decode cX4_passToTheEnd 29 = .ok (.ifCond .ne 5, 3) := by decide +kernel
theorem dX4_passToTheEnd_32 : decode cX4_passToTheEnd 32 = .ok (.iconst 1, 1) := by decide +kernel
theorem dX4_passToTheEnd_33 : decode cX4_passToTheEnd 33 = .ok (.ireturn, 1) := by decide +kernel
theorem dX4_passToTheEnd_34 : decode cX4_passToTheEnd 34 = .ok (.iinc 1 1, 3) := by decide +kernel
theorem dX4_passToTheEnd_37 : decode cX4_passToTheEnd 37 = .ok (.goto (-35), 3) := by decide +kernel
theorem dX4_passToTheEnd_40 : decode cX4_passToTheEnd 40 = .ok (.iconst 0, 1) := by decide +kernel
theorem dX4_passToTheEnd_41 : decode cX4_passToTheEnd 41 = .ok (.ireturn, 1) := by decide +kernel
