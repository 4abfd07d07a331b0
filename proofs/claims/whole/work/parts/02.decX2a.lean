theorem dX2_init_0 : decode cX2_init 0 = .ok (.aload_n 0, 1) := by decide +kernel
theorem dX2_init_1 : decode cX2_init 1 = .ok (.invokespecial 3, 3) := by decide +kernel
theorem dX2_init_4 : decode cX2_init 4 = .ok (.aload_n 0, 1) := by decide +kernel
theorem dX2_init_5 : decode cX2_init 5 = .ok (.iconst 0, 1) := by decide +kernel
theorem dX2_init_6 : decode cX2_init 6 = .ok (.putfield 9, 3) := by decide +kernel
theorem dX2_init_9 : decode cX2_init 9 = .ok (.aload_n 0, 1) := by decide +kernel
theorem dX2_init_10 : decode cX2_init 10 = .ok (.iconst 0, 1) := by decide +kernel
theorem dX2_init_11 : decode cX2_init 11 = .ok (.putfield 15, 3) := by decide +kernel
theorem dX2_init_14 : decode cX2_init 14 = .ok (.aload_n 0, 1) := by decide +kernel
theorem dX2_init_15 : decode cX2_init 15 = .ok (.bipush 24, 2) := by decide +kernel
theorem dX2_init_17 : decode cX2_init 17 = .ok (.newarray .int, 2) := by decide +kernel
theorem dX2_init_19 : decode cX2_init 19 = .ok (.putfield 18, 3) := by decide +kernel
theorem dX2_init_22 : decode cX2_init 22 = .ok (.aload_n 0, 1) := by decide +kernel
theorem dX2_init_23 : decode cX2_init 23 = .ok (.bipush 96, 2) := by decide +kernel
theorem dX2_init_25 : decode cX2_init 25 = .ok (.newarray .int, 2) := by decide +kernel
theorem dX2_init_27 : decode cX2_init 27 = .ok (.putfield 22, 3) := by decide +kernel
theorem dX2_init_30 : decode cX2_init 30 = .ok (.aload_n 0, 1) := by decide +kernel
theorem dX2_init_31 : decode cX2_init 31 = .ok (.bipush 96, 2) := by decide +kernel
theorem dX2_init_33 : decode cX2_init 33 = .ok (.newarray .int, 2) := by decide +kernel
theorem dX2_init_35 : decode cX2_init 35 = .ok (.putfield 25, 3) := by decide +kernel
theorem dX2_init_38 : decode cX2_init 38 = .ok (.aload_n 0, 1) := by decide +kernel
theorem dX2_init_39 : decode cX2_init 39 = .ok (.bipush 24, 2) := by decide +kernel
theorem dX2_init_41 : decode cX2_init 41 = .ok (.newarray .int, 2) := by decide +kernel
theorem dX2_init_43 : decode cX2_init 43 = .ok (.putfield 28, 3) := by decide +kernel
theorem dX2_init_46 : decode cX2_init 46 = .ok (.aload_n 0, 1) := by decide +kernel
theorem dX2_init_47 : decode cX2_init 47 = .ok (.new 31, 3) := by decide +kernel
theorem dX2_init_50 : decode cX2_init 50 = .ok (.dup, 1) := by decide +kernel
theorem dX2_init_51 : decode cX2_init 51 = .ok (.bipush 24, 2) := by decide +kernel
theorem dX2_init_53 : decode cX2_init 53 = .ok (.invokespecial 33, 3) := by decide +kernel
theorem dX2_init_56 : decode cX2_init 56 = .ok (.putfield 36, 3) := by decide +kernel
theorem dX2_init_59 : decode cX2_init 59 = .ok (.iconst 0, 1) := by decide +kernel
theorem dX2_init_60 : decode cX2_init 60 = .ok (.istore_n 1, 1) := by decide +kernel
theorem dX2_init_61 : decode cX2_init 61 = .ok (.iload_n 1, 1) := by decide +kernel
theorem dX2_init_62 : decode cX2_init 62 = .ok (.bipush 96, 2) := by decide +kernel
theorem dX2_init_64 : decode cX2_init 64 = .ok (.if_icmp .ge 16, 3) := by decide +kernel
theorem dX2_init_67 : decode cX2_init 67 = .ok (.aload_n 0, 1) := by decide +kernel
theorem dX2_init_68 : decode cX2_init 68 = .ok (.getfield 22, 3) := by decide +kernel
theorem dX2_init_71 : decode cX2_init 71 = .ok (.iload_n 1, 1) := by decide +kernel
theorem dX2_init_72 : decode cX2_init 72 = .ok (.iconst (-1), 1) := by decide +kernel
theorem dX2_init_73 : decode cX2_init 73 = .ok (.iastore, 1) := by decide +kernel
theorem dX2_init_74 : decode cX2_init 74 = .ok (.iinc 1 1, 3) := by decide +kernel
theorem dX2_init_77 : decode cX2_init 77 = .ok (.goto (-16), 3) := by decide +kernel
theorem dX2_init_80 : decode cX2_init 80 = .ok (.return_, 1) := by decide +kernel
theorem dX2_hasKnot_0 : decode cX2_hasKnot 0 = .ok (.iload_n 1, 1) := by decide +kernel
theorem dX2_hasKnot_1 : decode cX2_hasKnot 1 = .ok (.ifCond .lt 21, 3) := by decide +kernel
theorem dX2_hasKnot_4 : decode cX2_hasKnot 4 = .ok (.iload_n 1, 1) := by decide +kernel
theorem dX2_hasKnot_5 : decode cX2_hasKnot 5 = .ok (.aload_n 0, 1) := by decide +kernel
theorem dX2_hasKnot_6 : decode cX2_hasKnot 6 = .ok (.getfield 9, 3) := by decide +kernel
theorem dX2_hasKnot_9 : decode cX2_hasKnot 9 = .ok (.if_icmp .ge 13, 3) := by decide +kernel
theorem dX2_hasKnot_12 : decode cX2_hasKnot 12 = .ok (.iload_n 1, 1) := by decide +kernel
theorem dX2_hasKnot_13 : decode cX2_hasKnot 13 = .ok (.bipush 24, 2) := by decide +kernel
theorem dX2_hasKnot_15 : decode cX2_hasKnot 15 = .ok (.if_icmp .ge 7, 3) := by decide +kernel
theorem dX2_hasKnot_18 : decode cX2_hasKnot 18 = .ok (.iconst 1, 1) := by decide +kernel
theorem dX2_hasKnot_19 : decode cX2_hasKnot 19 = .ok (.goto 4, 3) := by decide +kernel
theorem dX2_hasKnot_22 : decode cX2_hasKnot 22 = .ok (.iconst 0, 1) := by decide +kernel
theorem dX2_hasKnot_23 : decode cX2_hasKnot 23 = .ok (.ireturn, 1) := by decide +kernel
theorem dX2_addKnot_0 : decode cX2_addKnot 0 = .ok (.aload_n 0, 1) := by decide +kernel
theorem dX2_addKnot_1 : decode cX2_addKnot 1 = .ok (.getfield 9, 3) := by decide +kernel
theorem dX2_addKnot_4 : decode cX2_addKnot 4 = .ok (.ifCond .lt 12, 3) := by decide +kernel
theorem dX2_addKnot_7 : decode cX2_addKnot 7 = .ok (.aload_n 0, 1) := by decide +kernel
theorem dX2_addKnot_8 : decode cX2_addKnot 8 = .ok (.getfield 9, 3) := by decide +kernel
theorem dX2_addKnot_11 : decode cX2_addKnot 11 = .ok (.bipush 24, 2) := by decide +kernel
theorem dX2_addKnot_13 : decode cX2_addKnot 13 = .ok (.if_icmp .lt 5, 3) := by decide +kernel
theorem dX2_addKnot_16 : decode cX2_addKnot 16 = .ok (.iconst (-1), 1) := by decide +kernel
theorem dX2_addKnot_17 : decode cX2_addKnot 17 = .ok (.ireturn, 1) := by decide +kernel
theorem dX2_addKnot_18 : decode cX2_addKnot 18 = .ok (.aload_n 0, 1) := by decide +kernel
theorem dX2_addKnot_19 : decode cX2_addKnot 19 = .ok (.getfield 18, 3) := by decide +kernel
theorem dX2_addKnot_22 : decode cX2_addKnot 22 = .ok (.aload_n 0, 1) := by decide +kernel
theorem dX2_addKnot_23 : decode cX2_addKnot 23 = .ok (.getfield 9, 3) := by decide +kernel
theorem dX2_addKnot_26 : decode cX2_addKnot 26 = .ok (.iload_n 1, 1) := by decide +kernel
theorem dX2_addKnot_27 : decode cX2_addKnot 27 = .ok (.iastore, 1) := by decide +kernel
theorem dX2_addKnot_28 : decode cX2_addKnot 28 = .ok (.aload_n 0, 1) := by decide +kernel
theorem dX2_addKnot_29 : decode cX2_addKnot 29 = .ok (.dup, 1) := by decide +kernel
theorem dX2_addKnot_30 : decode cX2_addKnot 30 = .ok (.getfield 9, 3) := by decide +kernel
theorem dX2_addKnot_33 : decode cX2_addKnot 33 = .ok (.iconst 1, 1) := by decide +kernel
theorem dX2_addKnot_34 : decode cX2_addKnot 34 = .ok (.iadd, 1) := by decide +kernel
theorem dX2_addKnot_35 : decode cX2_addKnot 35 = .ok (.putfield 9, 3) := by decide +kernel
theorem dX2_addKnot_38 : decode cX2_addKnot 38 = .ok (.aload_n 0, 1) := by decide +kernel
theorem dX2_addKnot_39 : decode cX2_addKnot 39 = .ok (.getfield 9, 3) := by decide +kernel
theorem dX2_addKnot_42 : decode cX2_addKnot 42 = .ok (.iconst 1, 1) := by decide +kernel
theorem dX2_addKnot_43 : decode cX2_addKnot 43 = .ok (.isub, 1) := by decide +kernel
theorem dX2_addKnot_44 : decode cX2_addKnot 44 = .ok (.ireturn, 1) := by decide +kernel
theorem dX2_show_0 : decode cX2_show 0 = .ok (.aload_n 0, 1) := by decide +kernel
theorem dX2_show_1 : decode cX2_show 1 = .ok (.iload_n 1, 1) := by decide +kernel
theorem dX2_show_2 : decode cX2_show 2 = .ok (.invokevirtual 40, 3) := by decide +kernel
theorem dX2_show_5 : decode cX2_show 5 = .ok (.ifCond .ne 5, 3) := by decide +kernel
theorem dX2_show_8 : decode cX2_show 8 = .ok (.iconst 0, 1) := by decide +kernel
theorem dX2_show_9 : decode cX2_show 9 = .ok (.ireturn, 1) := by decide +kernel
theorem dX2_show_10 : decode cX2_show 10 = .ok (.aload_n 0, 1) := by decide +kernel
theorem dX2_show_11 : decode cX2_show 11 = .ok (.getfield 18, 3) := by decide +kernel
theorem dX2_show_14 : decode cX2_show 14 = .ok (.iload_n 1, 1) := by decide +kernel
theorem dX2_show_15 : decode cX2_show 15 = .ok (.iload_n 2, 1) := by decide +kernel
theorem dX2_show_16 : decode cX2_show 16 = .ok (.iastore, 1) := by decide +kernel
theorem dX2_show_17 : decode cX2_show 17 = .ok (.iconst 1, 1) := by decide +kernel
theorem dX2_show_18 : decode cX2_show 18 = .ok (.ireturn, 1) := by decide +kernel
theorem dX2_sightOf_0 : decode cX2_sightOf 0 = .ok (.aload_n 0, 1) := by decide +kernel
theorem dX2_sightOf_1 : decode cX2_sightOf 1 = .ok (.iload_n 1, 1) := by decide +kernel
theorem dX2_sightOf_2 : decode cX2_sightOf 2 = .ok (.invokevirtual 40, 3) := by decide +kernel
theorem dX2_sightOf_5 : decode cX2_sightOf 5 = .ok (.ifCond .eq 12, 3) := by decide +kernel
theorem dX2_sightOf_8 : decode cX2_sightOf 8 = .ok (.aload_n 0, 1) := by decide +kernel
theorem dX2_sightOf_9 : decode cX2_sightOf 9 = .ok (.getfield 18, 3) := by decide +kernel
theorem dX2_sightOf_12 : decode cX2_sightOf 12 = .ok (.iload_n 1, 1) := by decide +kernel
theorem dX2_sightOf_13 : decode cX2_sightOf 13 = .ok (.iaload, 1) := by decide +kernel
theorem dX2_sightOf_14 : decode cX2_sightOf 14 = .ok (.goto 4, 3) := by decide +kernel
theorem dX2_sightOf_17 : decode cX2_sightOf 17 = .ok (.iconst (-1), 1) := by decide +kernel
theorem dX2_sightOf_18 : decode cX2_sightOf 18 = .ok (.ireturn, 1) := by decide +kernel
theorem dX2_across_0 : decode cX2_across 0 = .ok (.iload_n 1, 1) := by decide +kernel
theorem dX2_across_1 : decode cX2_across 1 = .ok (.ifCond .lt 18, 3) := by decide +kernel
theorem dX2_across_4 : decode cX2_across 4 = .ok (.iload_n 1, 1) := by decide +kernel
theorem dX2_across_5 : decode cX2_across 5 = .ok (.bipush 24, 2) := by decide +kernel
theorem dX2_across_7 : decode cX2_across 7 = .ok (.if_icmp .ge 12, 3) := by decide +kernel
theorem dX2_across_10 : decode cX2_across 10 = .ok (.iload_n 2, 1) := by decide +kernel
theorem dX2_across_11 : decode cX2_across 11 = .ok (.ifCond .lt 8, 3) := by decide +kernel
theorem dX2_across_14 : decode cX2_across 14 = .ok (.iload_n 2, 1) := by decide +kernel
theorem dX2_across_15 : decode cX2_across 15 = .ok (.iconst 4, 1) := by decide +kernel
theorem dX2_across_16 : decode cX2_across 16 = .ok (.if_icmp .lt 5, 3) := by decide +kernel
theorem dX2_across_19 : decode cX2_across 19 = .ok (.iconst (-1), 1) := by decide +kernel
theorem dX2_across_20 : decode cX2_across 20 = .ok (.ireturn, 1) := by decide +kernel
theorem dX2_across_21 : decode cX2_across 21 = .ok (.aload_n 0, 1) := by decide +kernel
theorem dX2_across_22 : decode cX2_across 22 = .ok (.getfield 22, 3) := by decide +kernel
theorem dX2_across_25 : decode cX2_across 25 = .ok (.iload_n 1, 1) := by decide +kernel
theorem dX2_across_26 : decode cX2_across 26 = .ok (.iconst 4, 1) := by decide +kernel
theorem dX2_across_27 : decode cX2_across 27 = .ok (.imul, 1) := by decide +kernel
theorem dX2_across_28 : decode cX2_across 28 = .ok (.iload_n 2, 1) := by decide +kernel
theorem dX2_across_29 : decode cX2_across 29 = .ok (.iadd, 1) := by decide +kernel
theorem dX2_across_30 : decode cX2_across 30 = .ok (.iaload, 1) := by decide +kernel
theorem dX2_across_31 : decode cX2_across 31 = .ok (.ireturn, 1) := by decide +kernel
theorem dX2_nameAt_0 : decode cX2_nameAt 0 = .ok (.aload_n 0, 1) := by decide +kernel
theorem dX2_nameAt_1 : decode cX2_nameAt 1 = .ok (.iload_n 1, 1) := by decide +kernel
theorem dX2_nameAt_2 : decode cX2_nameAt 2 = .ok (.invokevirtual 40, 3) := by decide +kernel
theorem dX2_nameAt_5 : decode cX2_nameAt 5 = .ok (.ifCond .eq 23, 3) := by decide +kernel
theorem dX2_nameAt_8 : decode cX2_nameAt 8 = .ok (.iload_n 2, 1) := by decide +kernel
theorem dX2_nameAt_9 : decode cX2_nameAt 9 = .ok (.invokestatic 44, 3) := by decide +kernel
theorem dX2_nameAt_12 : decode cX2_nameAt 12 = .ok (.ifCond .eq 16, 3) := by decide +kernel
theorem dX2_nameAt_15 : decode cX2_nameAt 15 = .ok (.aload_n 0, 1) := by decide +kernel
theorem dX2_nameAt_16 : decode cX2_nameAt 16 = .ok (.getfield 25, 3) := by decide +kernel
theorem dX2_nameAt_19 : decode cX2_nameAt 19 = .ok (.iload_n 1, 1) := by decide +kernel
theorem dX2_nameAt_20 : decode cX2_nameAt 20 = .ok (.iload_n 2, 1) := by decide +kernel
theorem dX2_nameAt_21 : decode cX2_nameAt 21 = .ok (.invokestatic 47, 3) := by decide +kernel
theorem dX2_nameAt_24 : decode cX2_nameAt 24 = .ok (.iaload, 1) := by decide +kernel
theorem dX2_nameAt_25 : decode cX2_nameAt 25 = .ok (.goto 4, 3) := by decide +kernel
theorem dX2_nameAt_28 : decode cX2_nameAt 28 = .ok (.iconst (-1), 1) := by decide +kernel
theorem dX2_nameAt_29 : decode cX2_nameAt 29 = .ok (.ireturn, 1) := by decide +kernel
theorem dX2_isFree_0 : decode cX2_isFree 0 = .ok (.aload_n 0, 1) := by decide +kernel
theorem dX2_isFree_1 : decode cX2_isFree 1 = .ok (.iload_n 1, 1) := by decide +kernel
theorem dX2_isFree_2 : decode cX2_isFree 2 = .ok (.invokevirtual 40, 3) := by decide +kernel
theorem dX2_isFree_5 : decode cX2_isFree 5 = .ok (.ifCond .eq 24, 3) := by decide +kernel
theorem dX2_isFree_8 : decode cX2_isFree 8 = .ok (.iload_n 2, 1) := by decide +kernel
theorem dX2_isFree_9 : decode cX2_isFree 9 = .ok (.invokestatic 44, 3) := by decide +kernel
theorem dX2_isFree_12 : decode cX2_isFree 12 = .ok (.ifCond .eq 17, 3) := by decide +kernel
theorem dX2_isFree_15 : decode cX2_isFree 15 = .ok (.aload_n 0, 1) := by decide +kernel
theorem dX2_isFree_16 : decode cX2_isFree 16 = .ok (.iload_n 1, 1) := by decide +kernel
theorem dX2_isFree_17 : decode cX2_isFree 17 = .ok (.iload_n 2, 1) := by decide +kernel
theorem dX2_isFree_18 : decode cX2_isFree 18 = .ok (.invokevirtual 51, 3) := by decide +kernel
theorem dX2_isFree_21 : decode cX2_isFree 21 = .ok (.iconst (-1), 1) := by decide +kernel
theorem dX2_isFree_22 : decode cX2_isFree 22 = .ok (.if_icmp .ne 7, 3) := by decide +kernel
theorem dX2_isFree_25 : decode cX2_isFree 25 = .ok (.iconst 1, 1) := by decide +kernel
theorem dX2_isFree_26 : decode cX2_isFree 26 = .ok (.goto 4, 3) := by decide +kernel
theorem dX2_isFree_29 : decode cX2_isFree 29 = .ok (.iconst 0, 1) := by decide +kernel
theorem dX2_isFree_30 : decode cX2_isFree 30 = .ok (.ireturn, 1) := by decide +kernel
theorem dX2_join_0 : decode cX2_join 0 = .ok (.iload_n 1, 1) := by decide +kernel
theorem dX2_join_1 : decode cX2_join 1 = .ok (.invokestatic 54, 3) := by decide +kernel
theorem dX2_join_4 : decode cX2_join 4 = .ok (.ifCond .eq 15, 3) := by decide +kernel
theorem dX2_join_7 : decode cX2_join 7 = .ok (.iload_n 2, 1) := by decide +kernel
theorem dX2_join_8 : decode cX2_join 8 = .ok (.invokestatic 54, 3) := by decide +kernel
theorem dX2_join_11 : decode cX2_join 11 = .ok (.ifCond .eq 8, 3) := by decide +kernel
theorem dX2_join_14 : decode cX2_join 14 = .ok (.iload_n 1, 1) := by decide +kernel
theorem dX2_join_15 : decode cX2_join 15 = .ok (.iload_n 2, 1) := by decide +kernel
theorem dX2_join_16 : decode cX2_join 16 = .ok (.if_icmp .ne 5, 3) := by decide +kernel
theorem dX2_join_19 : decode cX2_join 19 = .ok (.iconst 0, 1) := by decide +kernel
theorem dX2_join_20 : decode cX2_join 20 = .ok (.ireturn, 1) := by decide +kernel
theorem dX2_join_21 : decode cX2_join 21 = .ok (.aload_n 0, 1) := by decide +kernel
theorem dX2_join_22 : decode cX2_join 22 = .ok (.getfield 22, 3) := by decide +kernel
theorem dX2_join_25 : decode cX2_join 25 = .ok (.iload_n 1, 1) := by decide +kernel
theorem dX2_join_26 : decode cX2_join 26 = .ok (.iload_n 2, 1) := by decide +kernel
theorem dX2_join_27 : decode cX2_join 27 = .ok (.iastore, 1) := by decide +kernel
theorem dX2_join_28 : decode cX2_join 28 = .ok (.aload_n 0, 1) := by decide +kernel
theorem dX2_join_29 : decode cX2_join 29 = .ok (.getfield 22, 3) := by decide +kernel
theorem dX2_join_32 : decode cX2_join 32 = .ok (.iload_n 2, 1) := by decide +kernel
theorem dX2_join_33 : decode cX2_join 33 = .ok (.iload_n 1, 1) := by decide +kernel
theorem dX2_join_34 : decode cX2_join 34 = .ok (.iastore, 1) := by decide +kernel
theorem dX2_join_35 : decode cX2_join 35 = .ok (.aload_n 0, 1) := by decide +kernel
theorem dX2_join_36 : decode cX2_join 36 = .ok (.getfield 25, 3) := by decide +kernel
theorem dX2_join_39 : decode cX2_join 39 = .ok (.iload_n 1, 1) := by decide +kernel
theorem dX2_join_40 : decode cX2_join 40 = .ok (.iload_n 3, 1) := by decide +kernel
theorem dX2_join_41 : decode cX2_join 41 = .ok (.iastore, 1) := by decide +kernel
theorem dX2_join_42 : decode cX2_join 42 = .ok (.aload_n 0, 1) := by decide +kernel
theorem dX2_join_43 : decode cX2_join 43 = .ok (.getfield 25, 3) := by decide +kernel
theorem dX2_join_46 : decode cX2_join 46 = .ok (.iload_n 2, 1) := by decide +kernel
theorem dX2_join_47 : decode cX2_join 47 = .ok (.iload_n 3, 1) := by decide +kernel
theorem dX2_join_48 : decode cX2_join 48 = .ok (.iastore, 1) := by decide +kernel
theorem dX2_join_49 : decode cX2_join 49 = .ok (.aload_n 0, 1) := by decide +kernel
theorem dX2_join_50 : decode cX2_join 50 = .ok (.dup, 1) := by decide +kernel
theorem dX2_join_51 : decode cX2_join 51 = .ok (.getfield 15, 3) := by decide +kernel
theorem dX2_join_54 : decode cX2_join 54 = .ok (.iconst 1, 1) := by decide +kernel
theorem dX2_join_55 : decode cX2_join 55 = .ok (.iadd, 1) := by decide +kernel
theorem dX2_join_56 : decode cX2_join 56 = .ok (.putfield 15, 3) := by decide +kernel
theorem dX2_join_59 : decode cX2_join 59 = .ok (.iconst 1, 1) := by decide +kernel
theorem dX2_join_60 : decode cX2_join 60 = .ok (.ireturn, 1) := by decide +kernel
theorem dX2_part_0 : decode cX2_part 0 = .ok (.iload_n 1, 1) := by decide +kernel
theorem dX2_part_1 : decode cX2_part 1 = .ok (.invokestatic 54, 3) := by decide +kernel
theorem dX2_part_4 : decode cX2_part 4 = .ok (.ifCond .eq 34, 3) := by decide +kernel
theorem dX2_part_7 : decode cX2_part 7 = .ok (.iload_n 2, 1) := by decide +kernel
theorem dX2_part_8 : decode cX2_part 8 = .ok (.invokestatic 54, 3) := by decide +kernel
theorem dX2_part_11 : decode cX2_part 11 = .ok (.ifCond .eq 27, 3) := by decide +kernel
theorem dX2_part_14 : decode cX2_part 14 = .ok (.aload_n 0, 1) := by decide +kernel
theorem dX2_part_15 : decode cX2_part 15 = .ok (.getfield 22, 3) := by decide +kernel
theorem dX2_part_18 : decode cX2_part 18 = .ok (.iload_n 1, 1) := by decide +kernel
theorem dX2_part_19 : decode cX2_part 19 = .ok (.iconst (-1), 1) := by decide +kernel
theorem dX2_part_20 : decode cX2_part 20 = .ok (.iastore, 1) := by decide +kernel
theorem dX2_part_21 : decode cX2_part 21 = .ok (.aload_n 0, 1) := by decide +kernel
theorem dX2_part_22 : decode cX2_part 22 = .ok (.getfield 22, 3) := by decide +kernel
theorem dX2_part_25 : decode cX2_part 25 = .ok (.iload_n 2, 1) := by decide +kernel
theorem dX2_part_26 : decode cX2_part 26 = .ok (.iconst (-1), 1) := by decide +kernel
theorem dX2_part_27 : decode cX2_part 27 = .ok (.iastore, 1) := by decide +kernel
theorem dX2_part_28 : decode cX2_part 28 = .ok (.aload_n 0, 1) := by decide +kernel
theorem dX2_part_29 : decode cX2_part 29 = .ok (.dup, 1) := by decide +kernel
theorem dX2_part_30 : decode cX2_part 30 = .ok (.getfield 15, 3) := by decide +kernel
theorem dX2_part_33 : decode cX2_part 33 = .ok (.iconst 1, 1) := by decide +kernel
theorem dX2_part_34 : decode cX2_part 34 = .ok (.isub, 1) := by decide +kernel
theorem dX2_part_35 : decode cX2_part 35 = .ok (.putfield 15, 3) := by decide +kernel
theorem dX2_part_38 : decode cX2_part 38 = .ok (.return_, 1) := by decide +kernel
theorem dX2_distanceFrom_0 : decode cX2_distanceFrom 0 = .ok (.aload_n 0, 1) := by decide +kernel
theorem dX2_distanceFrom_1 : decode cX2_distanceFrom 1 = .ok (.iload_n 1, 1) := by decide +kernel
theorem dX2_distanceFrom_2 : decode cX2_distanceFrom 2 = .ok (.invokevirtual 40, 3) := by decide +kernel
theorem dX2_distanceFrom_5 : decode cX2_distanceFrom 5 = .ok (.ifCond .eq 12, 3) := by decide +kernel
theorem dX2_distanceFrom_8 : decode cX2_distanceFrom 8 = .ok (.aload_n 0, 1) := by decide +kernel
theorem dX2_distanceFrom_9 : decode cX2_distanceFrom 9 = .ok (.getfield 28, 3) := by decide +kernel
theorem dX2_distanceFrom_12 : decode cX2_distanceFrom 12 = .ok (.iload_n 1, 1) := by decide +kernel
theorem dX2_distanceFrom_13 : decode cX2_distanceFrom 13 = .ok (.iaload, 1) := by decide +kernel
theorem dX2_distanceFrom_14 : decode cX2_distanceFrom 14 = .ok (.goto 4, 3) := by decide +kernel
theorem dX2_distanceFrom_17 : decode cX2_distanceFrom 17 = .ok (.iconst (-1), 1) := by decide +kernel
theorem dX2_distanceFrom_18 : decode cX2_distanceFrom 18 = .ok (.ireturn, 1) := by decide +kernel
theorem dX2_measureTo_0 : decode cX2_measureTo 0 = .ok (.iconst 0, 1) := by decide +kernel
theorem dX2_measureTo_1 : decode cX2_measureTo 1 = .ok (.istore_n 2, 1) := by decide +kernel
theorem dX2_measureTo_2 : decode cX2_measureTo 2 = .ok (.iload_n 2, 1) := by decide +kernel
theorem dX2_measureTo_3 : decode cX2_measureTo 3 = .ok (.bipush 24, 2) := by decide +kernel
theorem dX2_measureTo_5 : decode cX2_measureTo 5 = .ok (.if_icmp .ge 16, 3) := by decide +kernel
theorem dX2_measureTo_8 : decode cX2_measureTo 8 = .ok (.aload_n 0, 1) := by decide +kernel
theorem dX2_measureTo_9 : decode cX2_measureTo 9 = .ok (.getfield 28, 3) := by decide +kernel
theorem dX2_measureTo_12 : decode cX2_measureTo 12 = .ok (.iload_n 2, 1) := by decide +kernel
theorem dX2_measureTo_13 : decode cX2_measureTo 13 = .ok (.iconst (-1), 1) := by decide +kernel
theorem dX2_measureTo_14 : decode cX2_measureTo 14 = .ok (.iastore, 1) := by decide +kernel
theorem dX2_measureTo_15 : decode cX2_measureTo 15 = .ok (.iinc 2 1, 3) := by decide +kernel
theorem dX2_measureTo_18 : decode cX2_measureTo 18 = .ok (.goto (-16), 3) := by decide +kernel
theorem dX2_measureTo_21 : decode cX2_measureTo 21 = .ok (.aload_n 0, 1) := by decide +kernel
theorem dX2_measureTo_22 : decode cX2_measureTo 22 = .ok (.getfield 36, 3) := by decide +kernel
theorem dX2_measureTo_25 : decode cX2_measureTo 25 = .ok (.invokevirtual 57, 3) := by decide +kernel
theorem dX2_measureTo_28 : decode cX2_measureTo 28 = .ok (.aload_n 0, 1) := by decide +kernel
theorem dX2_measureTo_29 : decode cX2_measureTo 29 = .ok (.iload_n 1, 1) := by decide +kernel
theorem dX2_measureTo_30 : decode cX2_measureTo 30 = .ok (.iconst 0, 1) := by decide +kernel
theorem dX2_measureTo_31 : decode cX2_measureTo 31 = .ok (.invokevirtual 60, 3) := by decide +kernel
theorem dX2_measureTo_34 : decode cX2_measureTo 34 = .ok (.iconst 0, 1) := by decide +kernel
theorem dX2_measureTo_35 : decode cX2_measureTo 35 = .ok (.istore_n 2, 1) := by decide +kernel
theorem dX2_measureTo_36 : decode cX2_measureTo 36 = .ok (.iload_n 2, 1) := by decide +kernel
theorem dX2_measureTo_37 : decode cX2_measureTo 37 = .ok (.bipush 24, 2) := by decide +kernel
theorem dX2_measureTo_39 : decode cX2_measureTo 39 = .ok (.if_icmp .ge 32, 3) := by decide +kernel
theorem dX2_measureTo_42 : decode cX2_measureTo 42 = .ok (.iload_n 2, 1) := by decide +kernel
theorem dX2_measureTo_43 : decode cX2_measureTo 43 = .ok (.aload_n 0, 1) := by decide +kernel
theorem dX2_measureTo_44 : decode cX2_measureTo 44 = .ok (.getfield 36, 3) := by decide +kernel
theorem dX2_measureTo_47 : decode cX2_measureTo 47 = .ok (.getfield 64, 3) := by decide +kernel
theorem dX2_measureTo_50 : decode cX2_measureTo 50 = .ok (.if_icmp .ge 21, 3) := by decide +kernel
theorem dX2_measureTo_53 : decode cX2_measureTo 53 = .ok (.aload_n 0, 1) := by decide +kernel
theorem dX2_measureTo_54 : decode cX2_measureTo 54 = .ok (.aload_n 0, 1) := by decide +kernel
theorem dX2_measureTo_55 : decode cX2_measureTo 55 = .ok (.getfield 36, 3) := by decide +kernel
theorem dX2_measureTo_58 : decode cX2_measureTo 58 = .ok (.iload_n 2, 1) := by decide +kernel
theorem dX2_measureTo_59 : decode cX2_measureTo 59 = .ok (.invokevirtual 67, 3) := by decide +kernel
theorem dX2_measureTo_62 : decode cX2_measureTo 62 = .ok (.invokevirtual 71, 3) := by decide +kernel
theorem dX2_measureTo_65 : decode cX2_measureTo 65 = .ok (.iinc 2 1, 3) := by decide +kernel
theorem dX2_measureTo_68 : decode cX2_measureTo 68 = .ok (.goto (-32), 3) := by decide +kernel
theorem dX2_measureTo_71 : decode cX2_measureTo 71 = .ok (.return_, 1) := by decide +kernel
theorem dX2_addShortest_0 : decode cX2_addShortest 0 = .ok (.iload_n 1, 1) := by decide +kernel
theorem dX2_addShortest_1 : decode cX2_addShortest 1 = .ok (.istore_n 3, 1) := by decide +kernel
theorem dX2_addShortest_2 : decode cX2_addShortest 2 = .ok (.aload_n 0, 1) := by decide +kernel
theorem dX2_addShortest_3 : decode cX2_addShortest 3 = .ok (.iload_n 1, 1) := by decide +kernel
theorem dX2_addShortest_4 : decode cX2_addShortest 4 = .ok (.invokevirtual 74, 3) := by decide +kernel
theorem dX2_addShortest_7 : decode cX2_addShortest 7 = .ok (.istore 4, 2) := by decide +kernel
theorem dX2_addShortest_9 : decode cX2_addShortest 9 = .ok (.iload 4, 2) := by decide +kernel
theorem dX2_addShortest_11 : decode cX2_addShortest 11 = .ok (.ifCond .le 31, 3) := by decide +kernel
theorem dX2_addShortest_14 : decode cX2_addShortest 14 = .ok (.aload_n 0, 1) := by decide +kernel
theorem dX2_addShortest_15 : decode cX2_addShortest 15 = .ok (.iload_n 3, 1) := by decide +kernel
theorem dX2_addShortest_16 : decode cX2_addShortest 16 = .ok (.invokevirtual 77, 3) := by decide +kernel
theorem dX2_addShortest_19 : decode cX2_addShortest 19 = .ok (.istore 5, 2) := by decide +kernel
theorem dX2_addShortest_21 : decode cX2_addShortest 21 = .ok (.aload_n 2, 1) := by decide +kernel
theorem dX2_addShortest_22 : decode cX2_addShortest 22 = .ok (.iload 5, 2) := by decide +kernel
theorem dX2_addShortest_24 : decode cX2_addShortest 24 = .ok (.invokevirtual 80, 3) := by decide +kernel
theorem dX2_addShortest_27 : decode cX2_addShortest 27 = .ok (.pop, 1) := by decide +kernel
theorem dX2_addShortest_28 : decode cX2_addShortest 28 = .ok (.aload_n 0, 1) := by decide +kernel
theorem dX2_addShortest_29 : decode cX2_addShortest 29 = .ok (.iload_n 3, 1) := by decide +kernel
theorem dX2_addShortest_30 : decode cX2_addShortest 30 = .ok (.iload 5, 2) := by decide +kernel
theorem dX2_addShortest_32 : decode cX2_addShortest 32 = .ok (.invokevirtual 83, 3) := by decide +kernel
theorem dX2_addShortest_35 : decode cX2_addShortest 35 = .ok (.istore_n 3, 1) := by decide +kernel
theorem dX2_addShortest_36 : decode cX2_addShortest 36 = .ok (.iinc 4 (-1), 3) := by decide +kernel
theorem dX2_addShortest_39 : decode cX2_addShortest 39 = .ok (.goto (-30), 3) := by decide +kernel
theorem dX2_addShortest_42 : decode cX2_addShortest 42 = .ok (.return_, 1) := by decide +kernel
theorem dX2_reachAround_0 : decode cX2_reachAround 0 = .ok (.iconst 0, 1) := by decide +kernel
theorem dX2_reachAround_1 : decode cX2_reachAround 1 = .ok (.istore_n 2, 1) := by decide +kernel
theorem dX2_reachAround_2 : decode cX2_reachAround 2 = .ok (.iload_n 2, 1) := by decide +kernel
theorem dX2_reachAround_3 : decode cX2_reachAround 3 = .ok (.iconst 4, 1) := by decide +kernel
theorem dX2_reachAround_4 : decode cX2_reachAround 4 = .ok (.if_icmp .ge 26, 3) := by decide +kernel
theorem dX2_reachAround_7 : decode cX2_reachAround 7 = .ok (.aload_n 0, 1) := by decide +kernel
theorem dX2_reachAround_8 : decode cX2_reachAround 8 = .ok (.aload_n 0, 1) := by decide +kernel
theorem dX2_reachAround_9 : decode cX2_reachAround 9 = .ok (.iload_n 1, 1) := by decide +kernel
theorem dX2_reachAround_10 : decode cX2_reachAround 10 = .ok (.iload_n 2, 1) := by decide +kernel
theorem dX2_reachAround_11 : decode cX2_reachAround 11 = .ok (.invokevirtual 83, 3) := by decide +kernel
theorem dX2_reachAround_14 : decode cX2_reachAround 14 = .ok (.aload_n 0, 1) := by decide +kernel
theorem dX2_reachAround_15 : decode cX2_reachAround 15 = .ok (.iload_n 1, 1) := by decide +kernel
theorem dX2_reachAround_16 : decode cX2_reachAround 16 = .ok (.invokevirtual 74, 3) := by decide +kernel
theorem dX2_reachAround_19 : decode cX2_reachAround 19 = .ok (.iconst 1, 1) := by decide +kernel
theorem dX2_reachAround_20 : decode cX2_reachAround 20 = .ok (.iadd, 1) := by decide +kernel
theorem dX2_reachAround_21 : decode cX2_reachAround 21 = .ok (.invokevirtual 60, 3) := by decide +kernel
theorem dX2_reachAround_24 : decode cX2_reachAround 24 = .ok (.iinc 2 1, 3) := by decide +kernel
theorem dX2_reachAround_27 : decode cX2_reachAround 27 = .ok (.goto (-25), 3) := by decide +kernel
theorem dX2_reachAround_30 : decode cX2_reachAround 30 = .ok (.return_, 1) := by decide +kernel
theorem dX2_reach_0 : decode cX2_reach 0 = .ok (.aload_n 0, 1) := by decide +kernel
theorem dX2_reach_1 : decode cX2_reach 1 = .ok (.iload_n 1, 1) := by decide +kernel
theorem dX2_reach_2 : decode cX2_reach 2 = .ok (.invokevirtual 40, 3) := by decide +kernel
theorem dX2_reach_5 : decode cX2_reach 5 = .ok (.ifCond .eq 29, 3) := by decide +kernel
theorem dX2_reach_8 : decode cX2_reach 8 = .ok (.aload_n 0, 1) := by decide +kernel
theorem dX2_reach_9 : decode cX2_reach 9 = .ok (.getfield 28, 3) := by decide +kernel
theorem dX2_reach_12 : decode cX2_reach 12 = .ok (.iload_n 1, 1) := by decide +kernel
theorem dX2_reach_13 : decode cX2_reach 13 = .ok (.iaload, 1) := by decide +kernel
theorem dX2_reach_14 : decode cX2_reach 14 = .ok (.iconst (-1), 1) := by decide +kernel
theorem dX2_reach_15 : decode cX2_reach 15 = .ok (.if_icmp .ne 19, 3) := by decide +kernel
theorem dX2_reach_18 : decode cX2_reach 18 = .ok (.aload_n 0, 1) := by decide +kernel
theorem dX2_reach_19 : decode cX2_reach 19 = .ok (.getfield 28, 3) := by decide +kernel
theorem dX2_reach_22 : decode cX2_reach 22 = .ok (.iload_n 1, 1) := by decide +kernel
theorem dX2_reach_23 : decode cX2_reach 23 = .ok (.iload_n 2, 1) := by decide +kernel
theorem dX2_reach_24 : decode cX2_reach 24 = .ok (.iastore, 1) := by decide +kernel
theorem dX2_reach_25 : decode cX2_reach 25 = .ok (.aload_n 0, 1) := by decide +kernel
theorem dX2_reach_26 : decode cX2_reach 26 = .ok (.getfield 36, 3) := by decide +kernel
theorem dX2_reach_29 : decode cX2_reach 29 = .ok (.iload_n 1, 1) := by decide +kernel
theorem dX2_reach_30 : decode cX2_reach 30 = .ok (.invokevirtual 80, 3) := by decide +kernel
theorem dX2_reach_33 : decode cX2_reach 33 = .ok (.pop, 1) := by decide +kernel
theorem dX2_reach_34 : decode cX2_reach 34 = .ok (.return_, 1) := by decide +kernel
theorem dX2_exitNearer_0 : decode cX2_exitNearer 0 = .ok (.iconst 0, 1) := by decide +kernel
theorem dX2_exitNearer_1 : decode cX2_exitNearer 1 = .ok (.istore_n 2, 1) := by decide +kernel
theorem dX2_exitNearer_2 : decode cX2_exitNearer 2 = .ok (.iload_n 2, 1) := by decide +kernel
theorem dX2_exitNearer_3 : decode cX2_exitNearer 3 = .ok (.iconst 4, 1) := by decide +kernel
theorem dX2_exitNearer_4 : decode cX2_exitNearer 4 = .ok (.if_icmp .ge 38, 3) := by decide +kernel
theorem dX2_exitNearer_7 : decode cX2_exitNearer 7 = .ok (.aload_n 0, 1) := by decide +kernel
theorem dX2_exitNearer_8 : decode cX2_exitNearer 8 = .ok (.iload_n 1, 1) := by decide +kernel
theorem dX2_exitNearer_9 : decode cX2_exitNearer 9 = .ok (.iload_n 2, 1) := by decide +kernel
theorem dX2_exitNearer_10 : decode cX2_exitNearer 10 = .ok (.invokevirtual 83, 3) := by decide +kernel
theorem dX2_exitNearer_13 : decode cX2_exitNearer 13 = .ok (.istore_n 3, 1) := by decide +kernel
theorem dX2_exitNearer_14 : decode cX2_exitNearer 14 = .ok (.iload_n 3, 1) := by decide +kernel
theorem dX2_exitNearer_15 : decode cX2_exitNearer 15 = .ok (.iconst (-1), 1) := by decide +kernel
theorem dX2_exitNearer_16 : decode cX2_exitNearer 16 = .ok (.if_icmp .eq 20, 3) := by decide +kernel
theorem dX2_exitNearer_19 : decode cX2_exitNearer 19 = .ok (.aload_n 0, 1) := by decide +kernel
theorem dX2_exitNearer_20 : decode cX2_exitNearer 20 = .ok (.iload_n 3, 1) := by decide +kernel
theorem dX2_exitNearer_21 : decode cX2_exitNearer 21 = .ok (.invokevirtual 74, 3) := by decide +kernel
theorem dX2_exitNearer_24 : decode cX2_exitNearer 24 = .ok (.aload_n 0, 1) := by decide +kernel
theorem dX2_exitNearer_25 : decode cX2_exitNearer 25 = .ok (.iload_n 1, 1) := by decide +kernel
theorem dX2_exitNearer_26 : decode cX2_exitNearer 26 = .ok (.invokevirtual 74, 3) := by decide +kernel
theorem dX2_exitNearer_29 : decode cX2_exitNearer 29 = .ok (.iconst 1, 1) := by decide +kernel
theorem dX2_exitNearer_30 : decode cX2_exitNearer 30 = .ok (.isub, 1) := by decide +kernel
theorem dX2_exitNearer_31 : decode cX2_exitNearer 31 = .ok (.if_icmp .ne 5, 3) := by decide +kernel
theorem dX2_exitNearer_34 : decode cX2_exitNearer 34 = .ok (.iload_n 2, 1) := by decide +kernel
theorem dX2_exitNearer_35 : decode cX2_exitNearer 35 = .ok (.ireturn, 1) := by decide +kernel
theorem dX2_exitNearer_36 : decode cX2_exitNearer 36 = .ok (.iinc 2 1, 3) := by decide +kernel
theorem dX2_exitNearer_39 : decode cX2_exitNearer 39 = .ok (.goto (-37), 3) := by decide +kernel
theorem dX2_exitNearer_42 : decode cX2_exitNearer 42 = .ok (.iconst (-1), 1) := by decide +kernel
theorem dX2_exitNearer_43 : decode cX2_exitNearer 43 = .ok (.ireturn, 1) := by decide +kernel
theorem dX2_knotAfter_0 : decode cX2_knotAfter 0 = .ok (.aload_n 0, 1) := by decide +kernel
theorem dX2_knotAfter_1 : decode cX2_knotAfter 1 = .ok (.iload_n 1, 1) := by decide +kernel
theorem dX2_knotAfter_2 : decode cX2_knotAfter 2 = .ok (.iload_n 2, 1) := by decide +kernel
theorem dX2_knotAfter_3 : decode cX2_knotAfter 3 = .ok (.invokevirtual 51, 3) := by decide +kernel
theorem dX2_knotAfter_6 : decode cX2_knotAfter 6 = .ok (.istore_n 3, 1) := by decide +kernel
theorem dX2_knotAfter_7 : decode cX2_knotAfter 7 = .ok (.iload_n 3, 1) := by decide +kernel
theorem dX2_knotAfter_8 : decode cX2_knotAfter 8 = .ok (.iconst (-1), 1) := by decide +kernel
theorem dX2_knotAfter_9 : decode cX2_knotAfter 9 = .ok (.if_icmp .ne 7, 3) := by decide +kernel
theorem dX2_knotAfter_12 : decode cX2_knotAfter 12 = .ok (.iconst (-1), 1) := by decide +kernel
theorem dX2_knotAfter_13 : decode cX2_knotAfter 13 = .ok (.goto 7, 3) := by decide +kernel
theorem dX2_knotAfter_16 : decode cX2_knotAfter 16 = .ok (.iload_n 3, 1) := by decide +kernel
theorem dX2_knotAfter_17 : decode cX2_knotAfter 17 = .ok (.invokestatic 86, 3) := by decide +kernel
theorem dX2_knotAfter_20 : decode cX2_knotAfter 20 = .ok (.ireturn, 1) := by decide +kernel
theorem dX2_isEnd_0 : decode cX2_isEnd 0 = .ok (.iload_n 0, 1) := by decide +kernel
theorem dX2_isEnd_1 : decode cX2_isEnd 1 = .ok (.ifCond .lt 13, 3) := by decide +kernel
theorem dX2_isEnd_4 : decode cX2_isEnd 4 = .ok (.iload_n 0, 1) := by decide +kernel
theorem dX2_isEnd_5 : decode cX2_isEnd 5 = .ok (.bipush 96, 2) := by decide +kernel
theorem dX2_isEnd_7 : decode cX2_isEnd 7 = .ok (.if_icmp .ge 7, 3) := by decide +kernel
theorem dX2_isEnd_10 : decode cX2_isEnd 10 = .ok (.iconst 1, 1) := by decide +kernel
theorem dX2_isEnd_11 : decode cX2_isEnd 11 = .ok (.goto 4, 3) := by decide +kernel
theorem dX2_isEnd_14 : decode cX2_isEnd 14 = .ok (.iconst 0, 1) := by decide +kernel
theorem dX2_isEnd_15 : decode cX2_isEnd 15 = .ok (.ireturn, 1) := by decide +kernel
