theorem dX0_init_0 : decode cX0_init 0 = .ok (.aload_n 0, 1) := by decide +kernel
theorem dX0_init_1 : decode cX0_init 1 = .ok (.invokespecial 3, 3) := by decide +kernel
theorem dX0_init_4 : decode cX0_init 4 = .ok (.aload_n 0, 1) := by decide +kernel
theorem dX0_init_5 : decode cX0_init 5 = .ok (.iconst 0, 1) := by decide +kernel
theorem dX0_init_6 : decode cX0_init 6 = .ok (.putfield 9, 3) := by decide +kernel
theorem dX0_init_9 : decode cX0_init 9 = .ok (.aload_n 0, 1) := by decide +kernel
theorem dX0_init_10 : decode cX0_init 10 = .ok (.bipush 96, 2) := by decide +kernel
theorem dX0_init_12 : decode cX0_init 12 = .ok (.getstatic 15, 3) := by decide +kernel
theorem dX0_init_15 : decode cX0_init 15 = .ok (.arraylength, 1) := by decide +kernel
theorem dX0_init_16 : decode cX0_init 16 = .ok (.imul, 1) := by decide +kernel
theorem dX0_init_17 : decode cX0_init 17 = .ok (.newarray .int, 2) := by decide +kernel
theorem dX0_init_19 : decode cX0_init 19 = .ok (.putfield 19, 3) := by decide +kernel
theorem dX0_init_22 : decode cX0_init 22 = .ok (.aload_n 0, 1) := by decide +kernel
theorem dX0_init_23 : decode cX0_init 23 = .ok (.bipush 96, 2) := by decide +kernel
theorem dX0_init_25 : decode cX0_init 25 = .ok (.newarray .int, 2) := by decide +kernel
theorem dX0_init_27 : decode cX0_init 27 = .ok (.putfield 22, 3) := by decide +kernel
theorem dX0_init_30 : decode cX0_init 30 = .ok (.aload_n 0, 1) := by decide +kernel
theorem dX0_init_31 : decode cX0_init 31 = .ok (.getstatic 15, 3) := by decide +kernel
theorem dX0_init_34 : decode cX0_init 34 = .ok (.arraylength, 1) := by decide +kernel
theorem dX0_init_35 : decode cX0_init 35 = .ok (.newarray .int, 2) := by decide +kernel
theorem dX0_init_37 : decode cX0_init 37 = .ok (.putfield 25, 3) := by decide +kernel
theorem dX0_init_40 : decode cX0_init 40 = .ok (.return_, 1) := by decide +kernel
theorem dX0_clear_0 : decode cX0_clear 0 = .ok (.aload_n 0, 1) := by decide +kernel
theorem dX0_clear_1 : decode cX0_clear 1 = .ok (.iconst 0, 1) := by decide +kernel
theorem dX0_clear_2 : decode cX0_clear 2 = .ok (.iload_n 1, 1) := by decide +kernel
theorem dX0_clear_3 : decode cX0_clear 3 = .ok (.bipush 96, 2) := by decide +kernel
theorem dX0_clear_5 : decode cX0_clear 5 = .ok (.invokestatic 28, 3) := by decide +kernel
theorem dX0_clear_8 : decode cX0_clear 8 = .ok (.invokestatic 34, 3) := by decide +kernel
theorem dX0_clear_11 : decode cX0_clear 11 = .ok (.putfield 9, 3) := by decide +kernel
theorem dX0_clear_14 : decode cX0_clear 14 = .ok (.iconst 0, 1) := by decide +kernel
theorem dX0_clear_15 : decode cX0_clear 15 = .ok (.istore_n 2, 1) := by decide +kernel
theorem dX0_clear_16 : decode cX0_clear 16 = .ok (.iload_n 2, 1) := by decide +kernel
theorem dX0_clear_17 : decode cX0_clear 17 = .ok (.aload_n 0, 1) := by decide +kernel
theorem dX0_clear_18 : decode cX0_clear 18 = .ok (.getfield 9, 3) := by decide +kernel
theorem dX0_clear_21 : decode cX0_clear 21 = .ok (.getstatic 15, 3) := by decide +kernel
theorem dX0_clear_24 : decode cX0_clear 24 = .ok (.arraylength, 1) := by decide +kernel
theorem dX0_clear_25 : decode cX0_clear 25 = .ok (.imul, 1) := by decide +kernel
theorem dX0_clear_26 : decode cX0_clear 26 = .ok (.if_icmp .ge 16, 3) := by decide +kernel
theorem dX0_clear_29 : decode cX0_clear 29 = .ok (.aload_n 0, 1) := by decide +kernel
theorem dX0_clear_30 : decode cX0_clear 30 = .ok (.getfield 19, 3) := by decide +kernel
theorem dX0_clear_33 : decode cX0_clear 33 = .ok (.iload_n 2, 1) := by decide +kernel
theorem dX0_clear_34 : decode cX0_clear 34 = .ok (.iconst (-1), 1) := by decide +kernel
theorem dX0_clear_35 : decode cX0_clear 35 = .ok (.iastore, 1) := by decide +kernel
theorem dX0_clear_36 : decode cX0_clear 36 = .ok (.iinc 2 1, 3) := by decide +kernel
theorem dX0_clear_39 : decode cX0_clear 39 = .ok (.goto (-23), 3) := by decide +kernel
theorem dX0_clear_42 : decode cX0_clear 42 = .ok (.iconst 0, 1) := by decide +kernel
theorem dX0_clear_43 : decode cX0_clear 43 = .ok (.istore_n 2, 1) := by decide +kernel
theorem dX0_clear_44 : decode cX0_clear 44 = .ok (.iload_n 2, 1) := by decide +kernel
theorem dX0_clear_45 : decode cX0_clear 45 = .ok (.aload_n 0, 1) := by decide +kernel
theorem dX0_clear_46 : decode cX0_clear 46 = .ok (.getfield 9, 3) := by decide +kernel
theorem dX0_clear_49 : decode cX0_clear 49 = .ok (.if_icmp .ge 17, 3) := by decide +kernel
theorem dX0_clear_52 : decode cX0_clear 52 = .ok (.aload_n 0, 1) := by decide +kernel
theorem dX0_clear_53 : decode cX0_clear 53 = .ok (.getfield 22, 3) := by decide +kernel
theorem dX0_clear_56 : decode cX0_clear 56 = .ok (.iload_n 2, 1) := by decide +kernel
theorem dX0_clear_57 : decode cX0_clear 57 = .ok (.ldc 37, 2) := by decide +kernel
theorem dX0_clear_59 : decode cX0_clear 59 = .ok (.iastore, 1) := by decide +kernel
theorem dX0_clear_60 : decode cX0_clear 60 = .ok (.iinc 2 1, 3) := by decide +kernel
theorem dX0_clear_63 : decode cX0_clear 63 = .ok (.goto (-19), 3) := by decide +kernel
theorem dX0_clear_66 : decode cX0_clear 66 = .ok (.return_, 1) := by decide +kernel
theorem dX0_setPrice_0 : decode cX0_setPrice 0 = .ok (.iload_n 1, 1) := by decide +kernel
theorem dX0_setPrice_1 : decode cX0_setPrice 1 = .ok (.invokestatic 38, 3) := by decide +kernel
theorem dX0_setPrice_4 : decode cX0_setPrice 4 = .ok (.ifCond .eq 16, 3) := by decide +kernel
theorem dX0_setPrice_7 : decode cX0_setPrice 7 = .ok (.aload_n 0, 1) := by decide +kernel
theorem dX0_setPrice_8 : decode cX0_setPrice 8 = .ok (.getfield 25, 3) := by decide +kernel
theorem dX0_setPrice_11 : decode cX0_setPrice 11 = .ok (.iload_n 1, 1) := by decide +kernel
theorem dX0_setPrice_12 : decode cX0_setPrice 12 = .ok (.iload_n 2, 1) := by decide +kernel
theorem dX0_setPrice_13 : decode cX0_setPrice 13 = .ok (.sipush 1000, 3) := by decide +kernel
theorem dX0_setPrice_16 : decode cX0_setPrice 16 = .ok (.imul, 1) := by decide +kernel
theorem dX0_setPrice_17 : decode cX0_setPrice 17 = .ok (.iconst 1, 1) := by decide +kernel
theorem dX0_setPrice_18 : decode cX0_setPrice 18 = .ok (.iadd, 1) := by decide +kernel
theorem dX0_setPrice_19 : decode cX0_setPrice 19 = .ok (.iastore, 1) := by decide +kernel
theorem dX0_setPrice_20 : decode cX0_setPrice 20 = .ok (.return_, 1) := by decide +kernel
theorem dX0_setGoal_0 : decode cX0_setGoal 0 = .ok (.aload_n 0, 1) := by decide +kernel
theorem dX0_setGoal_1 : decode cX0_setGoal 1 = .ok (.iload_n 1, 1) := by decide +kernel
theorem dX0_setGoal_2 : decode cX0_setGoal 2 = .ok (.invokevirtual 42, 3) := by decide +kernel
theorem dX0_setGoal_5 : decode cX0_setGoal 5 = .ok (.ifCond .eq 10, 3) := by decide +kernel
theorem dX0_setGoal_8 : decode cX0_setGoal 8 = .ok (.aload_n 0, 1) := by decide +kernel
theorem dX0_setGoal_9 : decode cX0_setGoal 9 = .ok (.getfield 22, 3) := by decide +kernel
theorem dX0_setGoal_12 : decode cX0_setGoal 12 = .ok (.iload_n 1, 1) := by decide +kernel
theorem dX0_setGoal_13 : decode cX0_setGoal 13 = .ok (.iconst 0, 1) := by decide +kernel
theorem dX0_setGoal_14 : decode cX0_setGoal 14 = .ok (.iastore, 1) := by decide +kernel
theorem dX0_setGoal_15 : decode cX0_setGoal 15 = .ok (.return_, 1) := by decide +kernel
theorem dX0_setLead_0 : decode cX0_setLead 0 = .ok (.aload_n 0, 1) := by decide +kernel
theorem dX0_setLead_1 : decode cX0_setLead 1 = .ok (.iload_n 1, 1) := by decide +kernel
theorem dX0_setLead_2 : decode cX0_setLead 2 = .ok (.invokevirtual 42, 3) := by decide +kernel
theorem dX0_setLead_5 : decode cX0_setLead 5 = .ok (.ifCond .eq 24, 3) := by decide +kernel
theorem dX0_setLead_8 : decode cX0_setLead 8 = .ok (.iload_n 2, 1) := by decide +kernel
theorem dX0_setLead_9 : decode cX0_setLead 9 = .ok (.invokestatic 38, 3) := by decide +kernel
theorem dX0_setLead_12 : decode cX0_setLead 12 = .ok (.ifCond .eq 17, 3) := by decide +kernel
theorem dX0_setLead_15 : decode cX0_setLead 15 = .ok (.aload_n 0, 1) := by decide +kernel
theorem dX0_setLead_16 : decode cX0_setLead 16 = .ok (.getfield 19, 3) := by decide +kernel
theorem dX0_setLead_19 : decode cX0_setLead 19 = .ok (.iload_n 1, 1) := by decide +kernel
theorem dX0_setLead_20 : decode cX0_setLead 20 = .ok (.getstatic 15, 3) := by decide +kernel
theorem dX0_setLead_23 : decode cX0_setLead 23 = .ok (.arraylength, 1) := by decide +kernel
theorem dX0_setLead_24 : decode cX0_setLead 24 = .ok (.imul, 1) := by decide +kernel
theorem dX0_setLead_25 : decode cX0_setLead 25 = .ok (.iload_n 2, 1) := by decide +kernel
theorem dX0_setLead_26 : decode cX0_setLead 26 = .ok (.iadd, 1) := by decide +kernel
theorem dX0_setLead_27 : decode cX0_setLead 27 = .ok (.iload_n 3, 1) := by decide +kernel
theorem dX0_setLead_28 : decode cX0_setLead 28 = .ok (.iastore, 1) := by decide +kernel
theorem dX0_setLead_29 : decode cX0_setLead 29 = .ok (.return_, 1) := by decide +kernel
theorem dX0_settle_0 : decode cX0_settle 0 = .ok (.iconst 1, 1) := by decide +kernel
theorem dX0_settle_1 : decode cX0_settle 1 = .ok (.istore_n 1, 1) := by decide +kernel
theorem dX0_settle_2 : decode cX0_settle 2 = .ok (.iconst 0, 1) := by decide +kernel
theorem dX0_settle_3 : decode cX0_settle 3 = .ok (.istore_n 2, 1) := by decide +kernel
theorem dX0_settle_4 : decode cX0_settle 4 = .ok (.iload_n 2, 1) := by decide +kernel
theorem dX0_settle_5 : decode cX0_settle 5 = .ok (.aload_n 0, 1) := by decide +kernel
theorem dX0_settle_6 : decode cX0_settle 6 = .ok (.getfield 9, 3) := by decide +kernel
theorem dX0_settle_9 : decode cX0_settle 9 = .ok (.if_icmp .gt 42, 3) := by decide +kernel
theorem dX0_settle_12 : decode cX0_settle 12 = .ok (.iload_n 1, 1) := by decide +kernel
theorem dX0_settle_13 : decode cX0_settle 13 = .ok (.ifCond .eq 38, 3) := by decide +kernel
theorem dX0_settle_16 : decode cX0_settle 16 = .ok (.iconst 0, 1) := by decide +kernel
theorem dX0_settle_17 : decode cX0_settle 17 = .ok (.istore_n 1, 1) := by decide +kernel
theorem dX0_settle_18 : decode cX0_settle 18 = .ok (.aload_n 0, 1) := by decide +kernel
theorem dX0_settle_19 : decode cX0_settle 19 = .ok (.getfield 9, 3) := by decide +kernel
theorem dX0_settle_22 : decode cX0_settle 22 = .ok (.iconst 1, 1) := by decide +kernel
theorem dX0_settle_23 : decode cX0_settle 23 = .ok (.isub, 1) := by decide +kernel
theorem dX0_settle_24 : decode cX0_settle 24 = .ok (.istore_n 3, 1) := by decide +kernel
theorem dX0_settle_25 : decode cX0_settle 25 = .ok (.iload_n 3, 1) := by decide +kernel
theorem dX0_settle_26 : decode cX0_settle 26 = .ok (.ifCond .lt 19, 3) := by decide +kernel
theorem dX0_settle_29 : decode cX0_settle 29 = .ok (.aload_n 0, 1) := by decide +kernel
theorem dX0_settle_30 : decode cX0_settle 30 = .ok (.iload_n 3, 1) := by decide +kernel
theorem dX0_settle_31 : decode cX0_settle 31 = .ok (.invokevirtual 45, 3) := by decide +kernel
theorem dX0_settle_34 : decode cX0_settle 34 = .ok (.ifCond .eq 5, 3) := by decide +kernel
theorem dX0_settle_37 : decode cX0_settle 37 = .ok (.iconst 1, 1) := by decide +kernel
theorem dX0_settle_38 : decode cX0_settle 38 = .ok (.istore_n 1, 1) := by decide +kernel
theorem dX0_settle_39 : decode cX0_settle 39 = .ok (.iinc 3 (-1), 3) := by decide +kernel
theorem dX0_settle_42 : decode cX0_settle 42 = .ok (.goto (-17), 3) := by decide +kernel
theorem dX0_settle_45 : decode cX0_settle 45 = .ok (.iinc 2 1, 3) := by decide +kernel
theorem dX0_settle_48 : decode cX0_settle 48 = .ok (.goto (-44), 3) := by decide +kernel
theorem dX0_settle_51 : decode cX0_settle 51 = .ok (.return_, 1) := by decide +kernel
theorem dX0_spell_0 : decode cX0_spell 0 = .ok (.aload_n 0, 1) := by decide +kernel
theorem dX0_spell_1 : decode cX0_spell 1 = .ok (.iload_n 1, 1) := by decide +kernel
theorem dX0_spell_2 : decode cX0_spell 2 = .ok (.invokevirtual 48, 3) := by decide +kernel
theorem dX0_spell_5 : decode cX0_spell 5 = .ok (.istore_n 3, 1) := by decide +kernel
theorem dX0_spell_6 : decode cX0_spell 6 = .ok (.iload_n 3, 1) := by decide +kernel
theorem dX0_spell_7 : decode cX0_spell 7 = .ok (.sipush 1000, 3) := by decide +kernel
theorem dX0_spell_10 : decode cX0_spell 10 = .ok (.irem, 1) := by decide +kernel
theorem dX0_spell_11 : decode cX0_spell 11 = .ok (.istore 4, 2) := by decide +kernel
theorem dX0_spell_13 : decode cX0_spell 13 = .ok (.iload_n 3, 1) := by decide +kernel
theorem dX0_spell_14 : decode cX0_spell 14 = .ok (.ldc 37, 2) := by decide +kernel
theorem dX0_spell_16 : decode cX0_spell 16 = .ok (.if_icmp .ge 10, 3) := by decide +kernel
theorem dX0_spell_19 : decode cX0_spell 19 = .ok (.iload 4, 2) := by decide +kernel
theorem dX0_spell_21 : decode cX0_spell 21 = .ok (.bipush 60, 2) := by decide +kernel
theorem dX0_spell_23 : decode cX0_spell 23 = .ok (.if_icmp .le 5, 3) := by decide +kernel
theorem dX0_spell_26 : decode cX0_spell 26 = .ok (.iconst (-1), 1) := by decide +kernel
theorem dX0_spell_27 : decode cX0_spell 27 = .ok (.ireturn, 1) := by decide +kernel
theorem dX0_spell_28 : decode cX0_spell 28 = .ok (.aload_n 2, 1) := by decide +kernel
theorem dX0_spell_29 : decode cX0_spell 29 = .ok (.invokevirtual 52, 3) := by decide +kernel
theorem dX0_spell_32 : decode cX0_spell 32 = .ok (.iload_n 1, 1) := by decide +kernel
theorem dX0_spell_33 : decode cX0_spell 33 = .ok (.istore 5, 2) := by decide +kernel
theorem dX0_spell_35 : decode cX0_spell 35 = .ok (.iconst 0, 1) := by decide +kernel
theorem dX0_spell_36 : decode cX0_spell 36 = .ok (.istore 6, 2) := by decide +kernel
theorem dX0_spell_38 : decode cX0_spell 38 = .ok (.iload 6, 2) := by decide +kernel
theorem dX0_spell_40 : decode cX0_spell 40 = .ok (.iload 4, 2) := by decide +kernel
theorem dX0_spell_42 : decode cX0_spell 42 = .ok (.if_icmp .ge 48, 3) := by decide +kernel
theorem dX0_spell_45 : decode cX0_spell 45 = .ok (.aload_n 0, 1) := by decide +kernel
theorem dX0_spell_46 : decode cX0_spell 46 = .ok (.iload 5, 2) := by decide +kernel
theorem dX0_spell_48 : decode cX0_spell 48 = .ok (.invokevirtual 57, 3) := by decide +kernel
theorem dX0_spell_51 : decode cX0_spell 51 = .ok (.istore 7, 2) := by decide +kernel
theorem dX0_spell_53 : decode cX0_spell 53 = .ok (.iload 7, 2) := by decide +kernel
theorem dX0_spell_55 : decode cX0_spell 55 = .ok (.invokestatic 38, 3) := by decide +kernel
theorem dX0_spell_58 : decode cX0_spell 58 = .ok (.ifCond .ne 5, 3) := by decide +kernel
theorem dX0_spell_61 : decode cX0_spell 61 = .ok (.iconst (-1), 1) := by decide +kernel
theorem dX0_spell_62 : decode cX0_spell 62 = .ok (.ireturn, 1) := by decide +kernel
theorem dX0_spell_63 : decode cX0_spell 63 = .ok (.aload_n 2, 1) := by decide +kernel
theorem dX0_spell_64 : decode cX0_spell 64 = .ok (.getstatic 15, 3) := by decide +kernel
theorem dX0_spell_67 : decode cX0_spell 67 = .ok (.iload 7, 2) := by decide +kernel
theorem dX0_spell_69 : decode cX0_spell 69 = .ok (.iaload, 1) := by decide +kernel
theorem dX0_spell_70 : decode cX0_spell 70 = .ok (.invokevirtual 60, 3) := by decide +kernel
theorem dX0_spell_73 : decode cX0_spell 73 = .ok (.pop, 1) := by decide +kernel
theorem dX0_spell_74 : decode cX0_spell 74 = .ok (.aload_n 0, 1) := by decide +kernel
theorem dX0_spell_75 : decode cX0_spell 75 = .ok (.iload 5, 2) := by decide +kernel
theorem dX0_spell_77 : decode cX0_spell 77 = .ok (.iload 7, 2) := by decide +kernel
theorem dX0_spell_79 : decode cX0_spell 79 = .ok (.invokevirtual 63, 3) := by decide +kernel
theorem dX0_spell_82 : decode cX0_spell 82 = .ok (.istore 5, 2) := by decide +kernel
theorem dX0_spell_84 : decode cX0_spell 84 = .ok (.iinc 6 1, 3) := by decide +kernel
theorem dX0_spell_87 : decode cX0_spell 87 = .ok (.goto (-49), 3) := by decide +kernel
theorem dX0_spell_90 : decode cX0_spell 90 = .ok (.iload_n 3, 1) := by decide +kernel
theorem dX0_spell_91 : decode cX0_spell 91 = .ok (.sipush 1000, 3) := by decide +kernel
theorem dX0_spell_94 : decode cX0_spell 94 = .ok (.idiv, 1) := by decide +kernel
theorem dX0_spell_95 : decode cX0_spell 95 = .ok (.ireturn, 1) := by decide +kernel
theorem dX0_improve_0 : decode cX0_improve 0 = .ok (.aload_n 0, 1) := by decide +kernel
theorem dX0_improve_1 : decode cX0_improve 1 = .ok (.iload_n 1, 1) := by decide +kernel
theorem dX0_improve_2 : decode cX0_improve 2 = .ok (.invokevirtual 42, 3) := by decide +kernel
theorem dX0_improve_5 : decode cX0_improve 5 = .ok (.ifCond .ne 5, 3) := by decide +kernel
theorem dX0_improve_8 : decode cX0_improve 8 = .ok (.iconst 0, 1) := by decide +kernel
theorem dX0_improve_9 : decode cX0_improve 9 = .ok (.ireturn, 1) := by decide +kernel
theorem dX0_improve_10 : decode cX0_improve 10 = .ok (.aload_n 0, 1) := by decide +kernel
theorem dX0_improve_11 : decode cX0_improve 11 = .ok (.getfield 22, 3) := by decide +kernel
theorem dX0_improve_14 : decode cX0_improve 14 = .ok (.iload_n 1, 1) := by decide +kernel
theorem dX0_improve_15 : decode cX0_improve 15 = .ok (.iaload, 1) := by decide +kernel
theorem dX0_improve_16 : decode cX0_improve 16 = .ok (.istore_n 2, 1) := by decide +kernel
theorem dX0_improve_17 : decode cX0_improve 17 = .ok (.iload_n 2, 1) := by decide +kernel
theorem dX0_improve_18 : decode cX0_improve 18 = .ok (.istore_n 3, 1) := by decide +kernel
theorem dX0_improve_19 : decode cX0_improve 19 = .ok (.iconst 0, 1) := by decide +kernel
theorem dX0_improve_20 : decode cX0_improve 20 = .ok (.istore 4, 2) := by decide +kernel
theorem dX0_improve_22 : decode cX0_improve 22 = .ok (.iload 4, 2) := by decide +kernel
theorem dX0_improve_24 : decode cX0_improve 24 = .ok (.getstatic 15, 3) := by decide +kernel
theorem dX0_improve_27 : decode cX0_improve 27 = .ok (.arraylength, 1) := by decide +kernel
theorem dX0_improve_28 : decode cX0_improve 28 = .ok (.if_icmp .ge 27, 3) := by decide +kernel
theorem dX0_improve_31 : decode cX0_improve 31 = .ok (.aload_n 0, 1) := by decide +kernel
theorem dX0_improve_32 : decode cX0_improve 32 = .ok (.iload_n 1, 1) := by decide +kernel
theorem dX0_improve_33 : decode cX0_improve 33 = .ok (.iload 4, 2) := by decide +kernel
theorem dX0_improve_35 : decode cX0_improve 35 = .ok (.invokevirtual 66, 3) := by decide +kernel
theorem dX0_improve_38 : decode cX0_improve 38 = .ok (.istore 5, 2) := by decide +kernel
theorem dX0_improve_40 : decode cX0_improve 40 = .ok (.iload 5, 2) := by decide +kernel
theorem dX0_improve_42 : decode cX0_improve 42 = .ok (.iload_n 3, 1) := by decide +kernel
theorem dX0_improve_43 : decode cX0_improve 43 = .ok (.if_icmp .ge 6, 3) := by decide +kernel
theorem dX0_improve_46 : decode cX0_improve 46 = .ok (.iload 5, 2) := by decide +kernel
theorem dX0_improve_48 : decode cX0_improve 48 = .ok (.istore_n 3, 1) := by decide +kernel
theorem dX0_improve_49 : decode cX0_improve 49 = .ok (.iinc 4 1, 3) := by decide +kernel
theorem dX0_improve_52 : decode cX0_improve 52 = .ok (.goto (-30), 3) := by decide +kernel
theorem dX0_improve_55 : decode cX0_improve 55 = .ok (.aload_n 0, 1) := by decide +kernel
theorem dX0_improve_56 : decode cX0_improve 56 = .ok (.getfield 22, 3) := by decide +kernel
theorem dX0_improve_59 : decode cX0_improve 59 = .ok (.iload_n 1, 1) := by decide +kernel
theorem dX0_improve_60 : decode cX0_improve 60 = .ok (.iload_n 3, 1) := by decide +kernel
theorem dX0_improve_61 : decode cX0_improve 61 = .ok (.iastore, 1) := by decide +kernel
theorem dX0_improve_62 : decode cX0_improve 62 = .ok (.iload_n 3, 1) := by decide +kernel
theorem dX0_improve_63 : decode cX0_improve 63 = .ok (.iload_n 2, 1) := by decide +kernel
theorem dX0_improve_64 : decode cX0_improve 64 = .ok (.if_icmp .ge 7, 3) := by decide +kernel
theorem dX0_improve_67 : decode cX0_improve 67 = .ok (.iconst 1, 1) := by decide +kernel
theorem dX0_improve_68 : decode cX0_improve 68 = .ok (.goto 4, 3) := by decide +kernel
theorem dX0_improve_71 : decode cX0_improve 71 = .ok (.iconst 0, 1) := by decide +kernel
theorem dX0_improve_72 : decode cX0_improve 72 = .ok (.ireturn, 1) := by decide +kernel
theorem dX0_firstOnLeast_0 : decode cX0_firstOnLeast 0 = .ok (.iconst 0, 1) := by decide +kernel
theorem dX0_firstOnLeast_1 : decode cX0_firstOnLeast 1 = .ok (.istore_n 2, 1) := by decide +kernel
theorem dX0_firstOnLeast_2 : decode cX0_firstOnLeast 2 = .ok (.iload_n 2, 1) := by decide +kernel
theorem dX0_firstOnLeast_3 : decode cX0_firstOnLeast 3 = .ok (.getstatic 15, 3) := by decide +kernel
theorem dX0_firstOnLeast_6 : decode cX0_firstOnLeast 6 = .ok (.arraylength, 1) := by decide +kernel
theorem dX0_firstOnLeast_7 : decode cX0_firstOnLeast 7 = .ok (.if_icmp .ge 25, 3) := by decide +kernel
theorem dX0_firstOnLeast_10 : decode cX0_firstOnLeast 10 = .ok (.aload_n 0, 1) := by decide +kernel
theorem dX0_firstOnLeast_11 : decode cX0_firstOnLeast 11 = .ok (.iload_n 1, 1) := by decide +kernel
theorem dX0_firstOnLeast_12 : decode cX0_firstOnLeast 12 = .ok (.iload_n 2, 1) := by decide +kernel
theorem dX0_firstOnLeast_13 : decode cX0_firstOnLeast 13 = .ok (.invokevirtual 66, 3) := by decide +kernel
theorem dX0_firstOnLeast_16 : decode cX0_firstOnLeast 16 = .ok (.aload_n 0, 1) := by decide +kernel
theorem dX0_firstOnLeast_17 : decode cX0_firstOnLeast 17 = .ok (.iload_n 1, 1) := by decide +kernel
theorem dX0_firstOnLeast_18 : decode cX0_firstOnLeast 18 = .ok (.invokevirtual 48, 3) := by decide +kernel
theorem dX0_firstOnLeast_21 : decode cX0_firstOnLeast 21 = .ok (.if_icmp .ne 5, 3) := by decide +kernel
theorem dX0_firstOnLeast_24 : decode cX0_firstOnLeast 24 = .ok (.iload_n 2, 1) := by decide +kernel
theorem dX0_firstOnLeast_25 : decode cX0_firstOnLeast 25 = .ok (.ireturn, 1) := by decide +kernel
theorem dX0_firstOnLeast_26 : decode cX0_firstOnLeast 26 = .ok (.iinc 2 1, 3) := by decide +kernel
theorem dX0_firstOnLeast_29 : decode cX0_firstOnLeast 29 = .ok (.goto (-27), 3) := by decide +kernel
theorem dX0_firstOnLeast_32 : decode cX0_firstOnLeast 32 = .ok (.iconst (-1), 1) := by decide +kernel
theorem dX0_firstOnLeast_33 : decode cX0_firstOnLeast 33 = .ok (.ireturn, 1) := by decide +kernel
theorem dX0_costBy_0 : decode cX0_costBy 0 = .ok (.aload_n 0, 1) := by decide +kernel
theorem dX0_costBy_1 : decode cX0_costBy 1 = .ok (.iload_n 1, 1) := by decide +kernel
theorem dX0_costBy_2 : decode cX0_costBy 2 = .ok (.iload_n 2, 1) := by decide +kernel
theorem dX0_costBy_3 : decode cX0_costBy 3 = .ok (.invokevirtual 63, 3) := by decide +kernel
theorem dX0_costBy_6 : decode cX0_costBy 6 = .ok (.istore_n 3, 1) := by decide +kernel
theorem dX0_costBy_7 : decode cX0_costBy 7 = .ok (.iload_n 3, 1) := by decide +kernel
theorem dX0_costBy_8 : decode cX0_costBy 8 = .ok (.ifCond .lt 24, 3) := by decide +kernel
theorem dX0_costBy_11 : decode cX0_costBy 11 = .ok (.iload_n 3, 1) := by decide +kernel
theorem dX0_costBy_12 : decode cX0_costBy 12 = .ok (.aload_n 0, 1) := by decide +kernel
theorem dX0_costBy_13 : decode cX0_costBy 13 = .ok (.getfield 9, 3) := by decide +kernel
theorem dX0_costBy_16 : decode cX0_costBy 16 = .ok (.if_icmp .ge 16, 3) := by decide +kernel
theorem dX0_costBy_19 : decode cX0_costBy 19 = .ok (.iload_n 2, 1) := by decide +kernel
theorem dX0_costBy_20 : decode cX0_costBy 20 = .ok (.ifCond .lt 12, 3) := by decide +kernel
theorem dX0_costBy_23 : decode cX0_costBy 23 = .ok (.iload_n 2, 1) := by decide +kernel
theorem dX0_costBy_24 : decode cX0_costBy 24 = .ok (.aload_n 0, 1) := by decide +kernel
theorem dX0_costBy_25 : decode cX0_costBy 25 = .ok (.getfield 25, 3) := by decide +kernel
theorem dX0_costBy_28 : decode cX0_costBy 28 = .ok (.arraylength, 1) := by decide +kernel
theorem dX0_costBy_29 : decode cX0_costBy 29 = .ok (.if_icmp .lt 6, 3) := by decide +kernel
theorem dX0_costBy_32 : decode cX0_costBy 32 = .ok (.ldc 37, 2) := by decide +kernel
theorem dX0_costBy_34 : decode cX0_costBy 34 = .ok (.ireturn, 1) := by decide +kernel
theorem dX0_costBy_35 : decode cX0_costBy 35 = .ok (.aload_n 0, 1) := by decide +kernel
theorem dX0_costBy_36 : decode cX0_costBy 36 = .ok (.getfield 22, 3) := by decide +kernel
theorem dX0_costBy_39 : decode cX0_costBy 39 = .ok (.iload_n 3, 1) := by decide +kernel
theorem dX0_costBy_40 : decode cX0_costBy 40 = .ok (.iaload, 1) := by decide +kernel
theorem dX0_costBy_41 : decode cX0_costBy 41 = .ok (.aload_n 0, 1) := by decide +kernel
theorem dX0_costBy_42 : decode cX0_costBy 42 = .ok (.getfield 25, 3) := by decide +kernel
theorem dX0_costBy_45 : decode cX0_costBy 45 = .ok (.iload_n 2, 1) := by decide +kernel
theorem dX0_costBy_46 : decode cX0_costBy 46 = .ok (.iaload, 1) := by decide +kernel
theorem dX0_costBy_47 : decode cX0_costBy 47 = .ok (.iadd, 1) := by decide +kernel
theorem dX0_costBy_48 : decode cX0_costBy 48 = .ok (.ireturn, 1) := by decide +kernel
theorem dX0_leadOf_0 : decode cX0_leadOf 0 = .ok (.iload_n 1, 1) := by decide +kernel
theorem dX0_leadOf_1 : decode cX0_leadOf 1 = .ok (.getstatic 15, 3) := by decide +kernel
theorem dX0_leadOf_4 : decode cX0_leadOf 4 = .ok (.arraylength, 1) := by decide +kernel
theorem dX0_leadOf_5 : decode cX0_leadOf 5 = .ok (.imul, 1) := by decide +kernel
theorem dX0_leadOf_6 : decode cX0_leadOf 6 = .ok (.iload_n 2, 1) := by decide +kernel
theorem dX0_leadOf_7 : decode cX0_leadOf 7 = .ok (.iadd, 1) := by decide +kernel
theorem dX0_leadOf_8 : decode cX0_leadOf 8 = .ok (.istore_n 3, 1) := by decide +kernel
theorem dX0_leadOf_9 : decode cX0_leadOf 9 = .ok (.iload_n 3, 1) := by decide +kernel
theorem dX0_leadOf_10 : decode cX0_leadOf 10 = .ok (.ifCond .lt 21, 3) := by decide +kernel
theorem dX0_leadOf_13 : decode cX0_leadOf 13 = .ok (.iload_n 3, 1) := by decide +kernel
theorem dX0_leadOf_14 : decode cX0_leadOf 14 = .ok (.aload_n 0, 1) := by decide +kernel
theorem dX0_leadOf_15 : decode cX0_leadOf 15 = .ok (.getfield 19, 3) := by decide +kernel
theorem dX0_leadOf_18 : decode cX0_leadOf 18 = .ok (.arraylength, 1) := by decide +kernel
theorem dX0_leadOf_19 : decode cX0_leadOf 19 = .ok (.if_icmp .ge 12, 3) := by decide +kernel
theorem dX0_leadOf_22 : decode cX0_leadOf 22 = .ok (.aload_n 0, 1) := by decide +kernel
theorem dX0_leadOf_23 : decode cX0_leadOf 23 = .ok (.getfield 19, 3) := by decide +kernel
theorem dX0_leadOf_26 : decode cX0_leadOf 26 = .ok (.iload_n 3, 1) := by decide +kernel
theorem dX0_leadOf_27 : decode cX0_leadOf 27 = .ok (.iaload, 1) := by decide +kernel
theorem dX0_leadOf_28 : decode cX0_leadOf 28 = .ok (.goto 4, 3) := by decide +kernel
theorem dX0_leadOf_31 : decode cX0_leadOf 31 = .ok (.iconst (-1), 1) := by decide +kernel
theorem dX0_leadOf_32 : decode cX0_leadOf 32 = .ok (.ireturn, 1) := by decide +kernel
theorem dX0_leastCostFrom_0 : decode cX0_leastCostFrom 0 = .ok (.aload_n 0, 1) := by decide +kernel
theorem dX0_leastCostFrom_1 : decode cX0_leastCostFrom 1 = .ok (.iload_n 1, 1) := by decide +kernel
theorem dX0_leastCostFrom_2 : decode cX0_leastCostFrom 2 = .ok (.invokevirtual 42, 3) := by decide +kernel
theorem dX0_leastCostFrom_5 : decode cX0_leastCostFrom 5 = .ok (.ifCond .eq 12, 3) := by decide +kernel
theorem dX0_leastCostFrom_8 : decode cX0_leastCostFrom 8 = .ok (.aload_n 0, 1) := by decide +kernel
theorem dX0_leastCostFrom_9 : decode cX0_leastCostFrom 9 = .ok (.getfield 22, 3) := by decide +kernel
theorem dX0_leastCostFrom_12 : decode cX0_leastCostFrom 12 = .ok (.iload_n 1, 1) := by decide +kernel
theorem dX0_leastCostFrom_13 : decode cX0_leastCostFrom 13 = .ok (.iaload, 1) := by decide +kernel
theorem dX0_leastCostFrom_14 : decode cX0_leastCostFrom 14 = .ok (.goto 5, 3) := by decide +kernel
theorem dX0_leastCostFrom_17 : decode cX0_leastCostFrom 17 = .ok (.ldc 37, 2) := by decide +kernel
theorem dX0_leastCostFrom_19 : decode cX0_leastCostFrom 19 = .ok (.ireturn, 1) := by decide +kernel
theorem dX0_isPlace_0 : decode cX0_isPlace 0 = .ok (.iload_n 1, 1) := by decide +kernel
theorem dX0_isPlace_1 : decode cX0_isPlace 1 = .ok (.ifCond .lt 21, 3) := by decide +kernel
theorem dX0_isPlace_4 : decode cX0_isPlace 4 = .ok (.iload_n 1, 1) := by decide +kernel
theorem dX0_isPlace_5 : decode cX0_isPlace 5 = .ok (.aload_n 0, 1) := by decide +kernel
theorem dX0_isPlace_6 : decode cX0_isPlace 6 = .ok (.getfield 9, 3) := by decide +kernel
theorem dX0_isPlace_9 : decode cX0_isPlace 9 = .ok (.if_icmp .ge 13, 3) := by decide +kernel
theorem dX0_isPlace_12 : decode cX0_isPlace 12 = .ok (.iload_n 1, 1) := by decide +kernel
theorem dX0_isPlace_13 : decode cX0_isPlace 13 = .ok (.bipush 96, 2) := by decide +kernel
theorem dX0_isPlace_15 : decode cX0_isPlace 15 = .ok (.if_icmp .ge 7, 3) := by decide +kernel
theorem dX0_isPlace_18 : decode cX0_isPlace 18 = .ok (.iconst 1, 1) := by decide +kernel
theorem dX0_isPlace_19 : decode cX0_isPlace 19 = .ok (.goto 4, 3) := by decide +kernel
theorem dX0_isPlace_22 : decode cX0_isPlace 22 = .ok (.iconst 0, 1) := by decide +kernel
theorem dX0_isPlace_23 : decode cX0_isPlace 23 = .ok (.ireturn, 1) := by decide +kernel
theorem dX0_isSaying_0 : decode cX0_isSaying 0 = .ok (.iload_n 0, 1) := by decide +kernel
theorem dX0_isSaying_1 : decode cX0_isSaying 1 = .ok (.ifCond .lt 15, 3) := by decide +kernel
theorem dX0_isSaying_4 : decode cX0_isSaying 4 = .ok (.iload_n 0, 1) := by decide +kernel
theorem dX0_isSaying_5 : decode cX0_isSaying 5 = .ok (.getstatic 15, 3) := by decide +kernel
theorem dX0_isSaying_8 : decode cX0_isSaying 8 = .ok (.arraylength, 1) := by decide +kernel
theorem dX0_isSaying_9 : decode cX0_isSaying 9 = .ok (.if_icmp .ge 7, 3) := by decide +kernel
theorem dX0_isSaying_12 : decode cX0_isSaying 12 = .ok (.iconst 1, 1) := by decide +kernel
theorem dX0_isSaying_13 : decode cX0_isSaying 13 = .ok (.goto 4, 3) := by decide +kernel
theorem dX0_isSaying_16 : decode cX0_isSaying 16 = .ok (.iconst 0, 1) := by decide +kernel
theorem dX0_isSaying_17 : decode cX0_isSaying 17 = .ok (.ireturn, 1) := by decide +kernel
