-- decode rows, by program
theorem dX10_set_0 : decode cX10_set 0 = .ok (.aload_n 0, 1) := by decide +kernel
theorem dX10_set_1 : decode cX10_set 1 = .ok (.getfield 10, 3) := by decide +kernel
theorem dX10_set_4 : decode cX10_set 4 = .ok (.getfield 85, 3) := by decide +kernel
theorem dX10_set_7 : decode cX10_set 7 = .ok (.iload_n 1, 1) := by decide +kernel
theorem dX10_set_8 : decode cX10_set 8 = .ok (.invokevirtual 99, 3) := by decide +kernel
theorem dX10_set_11 : decode cX10_set 11 = .ok (.ifCond .ne 6, 3) := by decide +kernel
theorem dX10_set_14 : decode cX10_set 14 = .ok (.ldc 84, 2) := by decide +kernel
theorem dX10_set_16 : decode cX10_set 16 = .ok (.ireturn, 1) := by decide +kernel
theorem dX10_set_17 : decode cX10_set 17 = .ok (.iload_n 2, 1) := by decide +kernel
theorem dX10_set_18 : decode cX10_set 18 = .ok (.iconst 1, 1) := by decide +kernel
theorem dX10_set_19 : decode cX10_set 19 = .ok (.if_icmp .ne 40, 3) := by decide +kernel
theorem dX10_set_22 : decode cX10_set 22 = .ok (.iload_n 3, 1) := by decide +kernel
theorem dX10_set_23 : decode cX10_set 23 = .ok (.invokestatic 78, 3) := by decide +kernel
theorem dX10_set_26 : decode cX10_set 26 = .ok (.ifCond .eq 33, 3) := by decide +kernel
theorem dX10_set_29 : decode cX10_set 29 = .ok (.aload_n 0, 1) := by decide +kernel
theorem dX10_set_30 : decode cX10_set 30 = .ok (.getfield 10, 3) := by decide +kernel
theorem dX10_set_33 : decode cX10_set 33 = .ok (.getfield 85, 3) := by decide +kernel
theorem dX10_set_36 : decode cX10_set 36 = .ok (.getfield 103, 3) := by decide +kernel
theorem dX10_set_39 : decode cX10_set 39 = .ok (.iload_n 1, 1) := by decide +kernel
theorem dX10_set_40 : decode cX10_set 40 = .ok (.iaload, 1) := by decide +kernel
theorem dX10_set_41 : decode cX10_set 41 = .ok (.istore 4, 2) := by decide +kernel
theorem dX10_set_43 : decode cX10_set 43 = .ok (.aload_n 0, 1) := by decide +kernel
theorem dX10_set_44 : decode cX10_set 44 = .ok (.getfield 10, 3) := by decide +kernel
theorem dX10_set_47 : decode cX10_set 47 = .ok (.getfield 85, 3) := by decide +kernel
theorem dX10_set_50 : decode cX10_set 50 = .ok (.getfield 103, 3) := by decide +kernel
theorem dX10_set_53 : decode cX10_set 53 = .ok (.iload_n 1, 1) := by decide +kernel
theorem dX10_set_54 : decode cX10_set 54 = .ok (.iload_n 3, 1) := by decide +kernel
theorem dX10_set_55 : decode cX10_set 55 = .ok (.iastore, 1) := by decide +kernel
theorem dX10_set_56 : decode cX10_set 56 = .ok (.iload 4, 2) := by decide +kernel
theorem dX10_set_58 : decode cX10_set 58 = .ok (.ireturn, 1) := by decide +kernel
theorem dX10_set_59 : decode cX10_set 59 = .ok (.iload_n 2, 1) := by decide +kernel
theorem dX10_set_60 : decode cX10_set 60 = .ok (.iconst 2, 1) := by decide +kernel
theorem dX10_set_61 : decode cX10_set 61 = .ok (.if_icmp .ne 40, 3) := by decide +kernel
theorem dX10_set_64 : decode cX10_set 64 = .ok (.iload_n 3, 1) := by decide +kernel
theorem dX10_set_65 : decode cX10_set 65 = .ok (.invokestatic 81, 3) := by decide +kernel
theorem dX10_set_68 : decode cX10_set 68 = .ok (.ifCond .eq 33, 3) := by decide +kernel
theorem dX10_set_71 : decode cX10_set 71 = .ok (.aload_n 0, 1) := by decide +kernel
theorem dX10_set_72 : decode cX10_set 72 = .ok (.getfield 10, 3) := by decide +kernel
theorem dX10_set_75 : decode cX10_set 75 = .ok (.getfield 85, 3) := by decide +kernel
theorem dX10_set_78 : decode cX10_set 78 = .ok (.getfield 106, 3) := by decide +kernel
theorem dX10_set_81 : decode cX10_set 81 = .ok (.iload_n 1, 1) := by decide +kernel
theorem dX10_set_82 : decode cX10_set 82 = .ok (.iaload, 1) := by decide +kernel
theorem dX10_set_83 : decode cX10_set 83 = .ok (.istore 4, 2) := by decide +kernel
theorem dX10_set_85 : decode cX10_set 85 = .ok (.aload_n 0, 1) := by decide +kernel
theorem dX10_set_86 : decode cX10_set 86 = .ok (.getfield 10, 3) := by decide +kernel
theorem dX10_set_89 : decode cX10_set 89 = .ok (.getfield 85, 3) := by decide +kernel
theorem dX10_set_92 : decode cX10_set 92 = .ok (.getfield 106, 3) := by decide +kernel
theorem dX10_set_95 : decode cX10_set 95 = .ok (.iload_n 1, 1) := by decide +kernel
theorem dX10_set_96 : decode cX10_set 96 = .ok (.iload_n 3, 1) := by decide +kernel
theorem dX10_set_97 : decode cX10_set 97 = .ok (.iastore, 1) := by decide +kernel
theorem dX10_set_98 : decode cX10_set 98 = .ok (.iload 4, 2) := by decide +kernel
theorem dX10_set_100 : decode cX10_set 100 = .ok (.ireturn, 1) := by decide +kernel
theorem dX10_set_101 : decode cX10_set 101 = .ok (.ldc 84, 2) := by decide +kernel
theorem dX10_set_103 : decode cX10_set 103 = .ok (.ireturn, 1) := by decide +kernel
theorem dX10_deal_0 : decode cX10_deal 0 = .ok (.iload_n 1, 1) := by decide +kernel
theorem dX10_deal_1 : decode cX10_deal 1 = .ok (.iconst 1, 1) := by decide +kernel
theorem dX10_deal_2 : decode cX10_deal 2 = .ok (.if_icmp .lt 9, 3) := by decide +kernel
theorem dX10_deal_5 : decode cX10_deal 5 = .ok (.iload_n 1, 1) := by decide +kernel
theorem dX10_deal_6 : decode cX10_deal 6 = .ok (.bipush 10, 2) := by decide +kernel
theorem dX10_deal_8 : decode cX10_deal 8 = .ok (.if_icmp .le 6, 3) := by decide +kernel
theorem dX10_deal_11 : decode cX10_deal 11 = .ok (.ldc 84, 2) := by decide +kernel
theorem dX10_deal_13 : decode cX10_deal 13 = .ok (.ireturn, 1) := by decide +kernel
theorem dX10_deal_14 : decode cX10_deal 14 = .ok (.iload_n 1, 1) := by decide +kernel
theorem dX10_deal_15 : decode cX10_deal 15 = .ok (.bipush 10, 2) := by decide +kernel
theorem dX10_deal_17 : decode cX10_deal 17 = .ok (.aload_n 0, 1) := by decide +kernel
theorem dX10_deal_18 : decode cX10_deal 18 = .ok (.getfield 10, 3) := by decide +kernel
theorem dX10_deal_21 : decode cX10_deal 21 = .ok (.getfield 85, 3) := by decide +kernel
theorem dX10_deal_24 : decode cX10_deal 24 = .ok (.getfield 89, 3) := by decide +kernel
theorem dX10_deal_27 : decode cX10_deal 27 = .ok (.isub, 1) := by decide +kernel
theorem dX10_deal_28 : decode cX10_deal 28 = .ok (.invokestatic 140, 3) := by decide +kernel
theorem dX10_deal_31 : decode cX10_deal 31 = .ok (.istore_n 2, 1) := by decide +kernel
theorem dX10_deal_32 : decode cX10_deal 32 = .ok (.iconst 0, 1) := by decide +kernel
theorem dX10_deal_33 : decode cX10_deal 33 = .ok (.istore_n 3, 1) := by decide +kernel
theorem dX10_deal_34 : decode cX10_deal 34 = .ok (.iload_n 3, 1) := by decide +kernel
theorem dX10_deal_35 : decode cX10_deal 35 = .ok (.iload_n 2, 1) := by decide +kernel
theorem dX10_deal_36 : decode cX10_deal 36 = .ok (.if_icmp .ge 62, 3) := by decide +kernel
theorem dX10_deal_39 : decode cX10_deal 39 = .ok (.aload_n 0, 1) := by decide +kernel
theorem dX10_deal_40 : decode cX10_deal 40 = .ok (.getfield 10, 3) := by decide +kernel
theorem dX10_deal_43 : decode cX10_deal 43 = .ok (.bipush 6, 2) := by decide +kernel
theorem dX10_deal_45 : decode cX10_deal 45 = .ok (.invokevirtual 145, 3) := by decide +kernel
theorem dX10_deal_48 : decode cX10_deal 48 = .ok (.istore 4, 2) := by decide +kernel
theorem dX10_deal_50 : decode cX10_deal 50 = .ok (.aload_n 0, 1) := by decide +kernel
theorem dX10_deal_51 : decode cX10_deal 51 = .ok (.getfield 10, 3) := by decide +kernel
theorem dX10_deal_54 : decode cX10_deal 54 = .ok (.sipush 200, 3) := by decide +kernel
theorem dX10_deal_57 : decode cX10_deal 57 = .ok (.invokevirtual 145, 3) := by decide +kernel
theorem dX10_deal_60 : decode cX10_deal 60 = .ok (.istore 5, 2) := by decide +kernel
theorem dX10_deal_62 : decode cX10_deal 62 = .ok (.iconst 1, 1) := by decide +kernel
theorem dX10_deal_63 : decode cX10_deal 63 = .ok (.aload_n 0, 1) := by decide +kernel
theorem dX10_deal_64 : decode cX10_deal 64 = .ok (.getfield 10, 3) := by decide +kernel
theorem dX10_deal_67 : decode cX10_deal 67 = .ok (.bipush 100, 2) := by decide +kernel
theorem dX10_deal_69 : decode cX10_deal 69 = .ok (.invokevirtual 145, 3) := by decide +kernel
theorem dX10_deal_72 : decode cX10_deal 72 = .ok (.iadd, 1) := by decide +kernel
theorem dX10_deal_73 : decode cX10_deal 73 = .ok (.istore 6, 2) := by decide +kernel
theorem dX10_deal_75 : decode cX10_deal 75 = .ok (.aload_n 0, 1) := by decide +kernel
theorem dX10_deal_76 : decode cX10_deal 76 = .ok (.getfield 10, 3) := by decide +kernel
theorem dX10_deal_79 : decode cX10_deal 79 = .ok (.getfield 85, 3) := by decide +kernel
theorem dX10_deal_82 : decode cX10_deal 82 = .ok (.iload 4, 2) := by decide +kernel
theorem dX10_deal_84 : decode cX10_deal 84 = .ok (.iload 5, 2) := by decide +kernel
theorem dX10_deal_86 : decode cX10_deal 86 = .ok (.iload 6, 2) := by decide +kernel
theorem dX10_deal_88 : decode cX10_deal 88 = .ok (.invokevirtual 95, 3) := by decide +kernel
theorem dX10_deal_91 : decode cX10_deal 91 = .ok (.pop, 1) := by decide +kernel
theorem dX10_deal_92 : decode cX10_deal 92 = .ok (.iinc 3 1, 3) := by decide +kernel
theorem dX10_deal_95 : decode cX10_deal 95 = .ok (.goto (-61), 3) := by decide +kernel
theorem dX10_deal_98 : decode cX10_deal 98 = .ok (.iload_n 2, 1) := by decide +kernel
theorem dX10_deal_99 : decode cX10_deal 99 = .ok (.ireturn, 1) := by decide +kernel
theorem dX10_seed_0 : decode cX10_seed 0 = .ok (.aload_n 0, 1) := by decide +kernel
theorem dX10_seed_1 : decode cX10_seed 1 = .ok (.getfield 10, 3) := by decide +kernel
theorem dX10_seed_4 : decode cX10_seed 4 = .ok (.getfield 148, 3) := by decide +kernel
theorem dX10_seed_7 : decode cX10_seed 7 = .ok (.istore_n 2, 1) := by decide +kernel
theorem dX10_seed_8 : decode cX10_seed 8 = .ok (.aload_n 0, 1) := by decide +kernel
theorem dX10_seed_9 : decode cX10_seed 9 = .ok (.getfield 10, 3) := by decide +kernel
theorem dX10_seed_12 : decode cX10_seed 12 = .ok (.iload_n 1, 1) := by decide +kernel
theorem dX10_seed_13 : decode cX10_seed 13 = .ok (.putfield 148, 3) := by decide +kernel
theorem dX10_seed_16 : decode cX10_seed 16 = .ok (.iload_n 2, 1) := by decide +kernel
theorem dX10_seed_17 : decode cX10_seed 17 = .ok (.ireturn, 1) := by decide +kernel
theorem dX10_rule_0 : decode cX10_rule 0 = .ok (.iload_n 1, 1) := by decide +kernel
theorem dX10_rule_1 : decode cX10_rule 1 = .ok (.ifCond .ne 32, 3) := by decide +kernel
theorem dX10_rule_4 : decode cX10_rule 4 = .ok (.iload_n 2, 1) := by decide +kernel
theorem dX10_rule_5 : decode cX10_rule 5 = .ok (.ifCond .lt 28, 3) := by decide +kernel
theorem dX10_rule_8 : decode cX10_rule 8 = .ok (.iload_n 2, 1) := by decide +kernel
theorem dX10_rule_9 : decode cX10_rule 9 = .ok (.bipush 99, 2) := by decide +kernel
theorem dX10_rule_11 : decode cX10_rule 11 = .ok (.if_icmp .gt 22, 3) := by decide +kernel
theorem dX10_rule_14 : decode cX10_rule 14 = .ok (.aload_n 0, 1) := by decide +kernel
theorem dX10_rule_15 : decode cX10_rule 15 = .ok (.getfield 10, 3) := by decide +kernel
theorem dX10_rule_18 : decode cX10_rule 18 = .ok (.getfield 151, 3) := by decide +kernel
theorem dX10_rule_21 : decode cX10_rule 21 = .ok (.istore_n 3, 1) := by decide +kernel
theorem dX10_rule_22 : decode cX10_rule 22 = .ok (.aload_n 0, 1) := by decide +kernel
theorem dX10_rule_23 : decode cX10_rule 23 = .ok (.getfield 10, 3) := by decide +kernel
theorem dX10_rule_26 : decode cX10_rule 26 = .ok (.iload_n 2, 1) := by decide +kernel
theorem dX10_rule_27 : decode cX10_rule 27 = .ok (.putfield 151, 3) := by decide +kernel
theorem dX10_rule_30 : decode cX10_rule 30 = .ok (.goto 76, 3) := by decide +kernel
theorem dX10_rule_33 : decode cX10_rule 33 = .ok (.iload_n 1, 1) := by decide +kernel
theorem dX10_rule_34 : decode cX10_rule 34 = .ok (.iconst 1, 1) := by decide +kernel
theorem dX10_rule_35 : decode cX10_rule 35 = .ok (.if_icmp .ne 32, 3) := by decide +kernel
theorem dX10_rule_38 : decode cX10_rule 38 = .ok (.iload_n 2, 1) := by decide +kernel
theorem dX10_rule_39 : decode cX10_rule 39 = .ok (.ifCond .lt 28, 3) := by decide +kernel
theorem dX10_rule_42 : decode cX10_rule 42 = .ok (.iload_n 2, 1) := by decide +kernel
theorem dX10_rule_43 : decode cX10_rule 43 = .ok (.bipush 99, 2) := by decide +kernel
theorem dX10_rule_45 : decode cX10_rule 45 = .ok (.if_icmp .gt 22, 3) := by decide +kernel
theorem dX10_rule_48 : decode cX10_rule 48 = .ok (.aload_n 0, 1) := by decide +kernel
theorem dX10_rule_49 : decode cX10_rule 49 = .ok (.getfield 10, 3) := by decide +kernel
theorem dX10_rule_52 : decode cX10_rule 52 = .ok (.getfield 154, 3) := by decide +kernel
theorem dX10_rule_55 : decode cX10_rule 55 = .ok (.istore_n 3, 1) := by decide +kernel
theorem dX10_rule_56 : decode cX10_rule 56 = .ok (.aload_n 0, 1) := by decide +kernel
theorem dX10_rule_57 : decode cX10_rule 57 = .ok (.getfield 10, 3) := by decide +kernel
theorem dX10_rule_60 : decode cX10_rule 60 = .ok (.iload_n 2, 1) := by decide +kernel
theorem dX10_rule_61 : decode cX10_rule 61 = .ok (.putfield 154, 3) := by decide +kernel
theorem dX10_rule_64 : decode cX10_rule 64 = .ok (.goto 42, 3) := by decide +kernel
theorem dX10_rule_67 : decode cX10_rule 67 = .ok (.iload_n 1, 1) := by decide +kernel
theorem dX10_rule_68 : decode cX10_rule 68 = .ok (.iconst 2, 1) := by decide +kernel
theorem dX10_rule_69 : decode cX10_rule 69 = .ok (.if_icmp .ne 34, 3) := by decide +kernel
theorem dX10_rule_72 : decode cX10_rule 72 = .ok (.iload_n 2, 1) := by decide +kernel
theorem dX10_rule_73 : decode cX10_rule 73 = .ok (.bipush (-9), 2) := by decide +kernel
theorem dX10_rule_75 : decode cX10_rule 75 = .ok (.if_icmp .lt 28, 3) := by decide +kernel
theorem dX10_rule_78 : decode cX10_rule 78 = .ok (.iload_n 2, 1) := by decide +kernel
theorem dX10_rule_79 : decode cX10_rule 79 = .ok (.bipush 9, 2) := by decide +kernel
theorem dX10_rule_81 : decode cX10_rule 81 = .ok (.if_icmp .gt 22, 3) := by decide +kernel
theorem dX10_rule_84 : decode cX10_rule 84 = .ok (.aload_n 0, 1) := by decide +kernel
theorem dX10_rule_85 : decode cX10_rule 85 = .ok (.getfield 10, 3) := by decide +kernel
theorem dX10_rule_88 : decode cX10_rule 88 = .ok (.getfield 157, 3) := by decide +kernel
theorem dX10_rule_91 : decode cX10_rule 91 = .ok (.istore_n 3, 1) := by decide +kernel
theorem dX10_rule_92 : decode cX10_rule 92 = .ok (.aload_n 0, 1) := by decide +kernel
theorem dX10_rule_93 : decode cX10_rule 93 = .ok (.getfield 10, 3) := by decide +kernel
theorem dX10_rule_96 : decode cX10_rule 96 = .ok (.iload_n 2, 1) := by decide +kernel
theorem dX10_rule_97 : decode cX10_rule 97 = .ok (.putfield 157, 3) := by decide +kernel
theorem dX10_rule_100 : decode cX10_rule 100 = .ok (.goto 6, 3) := by decide +kernel
theorem dX10_rule_103 : decode cX10_rule 103 = .ok (.ldc 84, 2) := by decide +kernel
theorem dX10_rule_105 : decode cX10_rule 105 = .ok (.istore_n 3, 1) := by decide +kernel
theorem dX10_rule_106 : decode cX10_rule 106 = .ok (.iload_n 3, 1) := by decide +kernel
theorem dX10_rule_107 : decode cX10_rule 107 = .ok (.ireturn, 1) := by decide +kernel
theorem dX10_at_0 : decode cX10_at 0 = .ok (.aload_n 0, 1) := by decide +kernel
theorem dX10_at_1 : decode cX10_at 1 = .ok (.getfield 10, 3) := by decide +kernel
theorem dX10_at_4 : decode cX10_at 4 = .ok (.getfield 85, 3) := by decide +kernel
theorem dX10_at_7 : decode cX10_at 7 = .ok (.iload_n 1, 1) := by decide +kernel
theorem dX10_at_8 : decode cX10_at 8 = .ok (.invokevirtual 99, 3) := by decide +kernel
theorem dX10_at_11 : decode cX10_at 11 = .ok (.ifCond .ne 6, 3) := by decide +kernel
theorem dX10_at_14 : decode cX10_at 14 = .ok (.ldc 84, 2) := by decide +kernel
theorem dX10_at_16 : decode cX10_at 16 = .ok (.ireturn, 1) := by decide +kernel
theorem dX10_at_17 : decode cX10_at 17 = .ok (.aload_n 0, 1) := by decide +kernel
theorem dX10_at_18 : decode cX10_at 18 = .ok (.getfield 10, 3) := by decide +kernel
theorem dX10_at_21 : decode cX10_at 21 = .ok (.getfield 126, 3) := by decide +kernel
theorem dX10_at_24 : decode cX10_at 24 = .ok (.getfield 160, 3) := by decide +kernel
theorem dX10_at_27 : decode cX10_at 27 = .ok (.istore_n 2, 1) := by decide +kernel
theorem dX10_at_28 : decode cX10_at 28 = .ok (.aload_n 0, 1) := by decide +kernel
theorem dX10_at_29 : decode cX10_at 29 = .ok (.getfield 10, 3) := by decide +kernel
theorem dX10_at_32 : decode cX10_at 32 = .ok (.getfield 126, 3) := by decide +kernel
theorem dX10_at_35 : decode cX10_at 35 = .ok (.iload_n 1, 1) := by decide +kernel
theorem dX10_at_36 : decode cX10_at 36 = .ok (.putfield 160, 3) := by decide +kernel
theorem dX10_at_39 : decode cX10_at 39 = .ok (.iload_n 2, 1) := by decide +kernel
theorem dX10_at_40 : decode cX10_at 40 = .ok (.ireturn, 1) := by decide +kernel
theorem dX10_ball_0 : decode cX10_ball 0 = .ok (.iload_n 1, 1) := by decide +kernel
theorem dX10_ball_1 : decode cX10_ball 1 = .ok (.tableswitch 87 0 4 #[35, 46, 54, 65, 76], 35) := by decide +kernel
theorem dX10_ball_36 : decode cX10_ball 36 = .ok (.aload_n 0, 1) := by decide +kernel
theorem dX10_ball_37 : decode cX10_ball 37 = .ok (.getfield 10, 3) := by decide +kernel
theorem dX10_ball_40 : decode cX10_ball 40 = .ok (.getfield 126, 3) := by decide +kernel
theorem dX10_ball_43 : decode cX10_ball 43 = .ok (.getfield 163, 3) := by decide +kernel
theorem dX10_ball_46 : decode cX10_ball 46 = .ok (.ireturn, 1) := by decide +kernel
theorem dX10_ball_47 : decode cX10_ball 47 = .ok (.aload_n 0, 1) := by decide +kernel
theorem dX10_ball_48 : decode cX10_ball 48 = .ok (.getfield 10, 3) := by decide +kernel
theorem dX10_ball_51 : decode cX10_ball 51 = .ok (.invokevirtual 166, 3) := by decide +kernel
theorem dX10_ball_54 : decode cX10_ball 54 = .ok (.ireturn, 1) := by decide +kernel
theorem dX10_ball_55 : decode cX10_ball 55 = .ok (.aload_n 0, 1) := by decide +kernel
theorem dX10_ball_56 : decode cX10_ball 56 = .ok (.getfield 10, 3) := by decide +kernel
theorem dX10_ball_59 : decode cX10_ball 59 = .ok (.getfield 126, 3) := by decide +kernel
theorem dX10_ball_62 : decode cX10_ball 62 = .ok (.getfield 160, 3) := by decide +kernel
theorem dX10_ball_65 : decode cX10_ball 65 = .ok (.ireturn, 1) := by decide +kernel
theorem dX10_ball_66 : decode cX10_ball 66 = .ok (.aload_n 0, 1) := by decide +kernel
theorem dX10_ball_67 : decode cX10_ball 67 = .ok (.getfield 10, 3) := by decide +kernel
theorem dX10_ball_70 : decode cX10_ball 70 = .ok (.getfield 126, 3) := by decide +kernel
theorem dX10_ball_73 : decode cX10_ball 73 = .ok (.getfield 170, 3) := by decide +kernel
theorem dX10_ball_76 : decode cX10_ball 76 = .ok (.ireturn, 1) := by decide +kernel
theorem dX10_ball_77 : decode cX10_ball 77 = .ok (.aload_n 0, 1) := by decide +kernel
theorem dX10_ball_78 : decode cX10_ball 78 = .ok (.getfield 10, 3) := by decide +kernel
theorem dX10_ball_81 : decode cX10_ball 81 = .ok (.getfield 126, 3) := by decide +kernel
theorem dX10_ball_84 : decode cX10_ball 84 = .ok (.getfield 173, 3) := by decide +kernel
theorem dX10_ball_87 : decode cX10_ball 87 = .ok (.ireturn, 1) := by decide +kernel
theorem dX10_ball_88 : decode cX10_ball 88 = .ok (.ldc 84, 2) := by decide +kernel
theorem dX10_ball_90 : decode cX10_ball 90 = .ok (.ireturn, 1) := by decide +kernel
theorem dX10_layer_0 : decode cX10_layer 0 = .ok (.iload_n 1, 1) := by decide +kernel
theorem dX10_layer_1 : decode cX10_layer 1 = .ok (.ifCond .lt 26, 3) := by decide +kernel
theorem dX10_layer_4 : decode cX10_layer 4 = .ok (.iload_n 1, 1) := by decide +kernel
theorem dX10_layer_5 : decode cX10_layer 5 = .ok (.aload_n 0, 1) := by decide +kernel
theorem dX10_layer_6 : decode cX10_layer 6 = .ok (.getfield 10, 3) := by decide +kernel
theorem dX10_layer_9 : decode cX10_layer 9 = .ok (.getfield 126, 3) := by decide +kernel
theorem dX10_layer_12 : decode cX10_layer 12 = .ok (.getfield 170, 3) := by decide +kernel
theorem dX10_layer_15 : decode cX10_layer 15 = .ok (.if_icmp .ge 12, 3) := by decide +kernel
theorem dX10_layer_18 : decode cX10_layer 18 = .ok (.iload_n 2, 1) := by decide +kernel
theorem dX10_layer_19 : decode cX10_layer 19 = .ok (.ifCond .lt 8, 3) := by decide +kernel
theorem dX10_layer_22 : decode cX10_layer 22 = .ok (.iload_n 2, 1) := by decide +kernel
theorem dX10_layer_23 : decode cX10_layer 23 = .ok (.iconst 1, 1) := by decide +kernel
theorem dX10_layer_24 : decode cX10_layer 24 = .ok (.if_icmp .le 6, 3) := by decide +kernel
theorem dX10_layer_27 : decode cX10_layer 27 = .ok (.ldc 84, 2) := by decide +kernel
theorem dX10_layer_29 : decode cX10_layer 29 = .ok (.ireturn, 1) := by decide +kernel
theorem dX10_layer_30 : decode cX10_layer 30 = .ok (.iload_n 2, 1) := by decide +kernel
theorem dX10_layer_31 : decode cX10_layer 31 = .ok (.ifCond .ne 18, 3) := by decide +kernel
theorem dX10_layer_34 : decode cX10_layer 34 = .ok (.aload_n 0, 1) := by decide +kernel
theorem dX10_layer_35 : decode cX10_layer 35 = .ok (.getfield 10, 3) := by decide +kernel
theorem dX10_layer_38 : decode cX10_layer 38 = .ok (.getfield 126, 3) := by decide +kernel
theorem dX10_layer_41 : decode cX10_layer 41 = .ok (.getfield 176, 3) := by decide +kernel
theorem dX10_layer_44 : decode cX10_layer 44 = .ok (.iload_n 1, 1) := by decide +kernel
theorem dX10_layer_45 : decode cX10_layer 45 = .ok (.iaload, 1) := by decide +kernel
theorem dX10_layer_46 : decode cX10_layer 46 = .ok (.goto 15, 3) := by decide +kernel
theorem dX10_layer_49 : decode cX10_layer 49 = .ok (.aload_n 0, 1) := by decide +kernel
theorem dX10_layer_50 : decode cX10_layer 50 = .ok (.getfield 10, 3) := by decide +kernel
theorem dX10_layer_53 : decode cX10_layer 53 = .ok (.getfield 126, 3) := by decide +kernel
theorem dX10_layer_56 : decode cX10_layer 56 = .ok (.getfield 179, 3) := by decide +kernel
theorem dX10_layer_59 : decode cX10_layer 59 = .ok (.iload_n 1, 1) := by decide +kernel
theorem dX10_layer_60 : decode cX10_layer 60 = .ok (.iaload, 1) := by decide +kernel
theorem dX10_layer_61 : decode cX10_layer 61 = .ok (.ireturn, 1) := by decide +kernel
theorem dX10_pack_0 : decode cX10_pack 0 = .ok (.aload_n 0, 1) := by decide +kernel
theorem dX10_pack_1 : decode cX10_pack 1 = .ok (.getfield 10, 3) := by decide +kernel
theorem dX10_pack_4 : decode cX10_pack 4 = .ok (.getfield 85, 3) := by decide +kernel
theorem dX10_pack_7 : decode cX10_pack 7 = .ok (.iload_n 1, 1) := by decide +kernel
theorem dX10_pack_8 : decode cX10_pack 8 = .ok (.invokevirtual 99, 3) := by decide +kernel
theorem dX10_pack_11 : decode cX10_pack 11 = .ok (.ifCond .eq 15, 3) := by decide +kernel
theorem dX10_pack_14 : decode cX10_pack 14 = .ok (.iload_n 2, 1) := by decide +kernel
theorem dX10_pack_15 : decode cX10_pack 15 = .ok (.iconst 1, 1) := by decide +kernel
theorem dX10_pack_16 : decode cX10_pack 16 = .ok (.if_icmp .lt 10, 3) := by decide +kernel
theorem dX10_pack_19 : decode cX10_pack 19 = .ok (.iload_n 2, 1) := by decide +kernel
theorem dX10_pack_20 : decode cX10_pack 20 = .ok (.sipush 999, 3) := by decide +kernel
theorem dX10_pack_23 : decode cX10_pack 23 = .ok (.if_icmp .le 6, 3) := by decide +kernel
theorem dX10_pack_26 : decode cX10_pack 26 = .ok (.ldc 84, 2) := by decide +kernel
theorem dX10_pack_28 : decode cX10_pack 28 = .ok (.ireturn, 1) := by decide +kernel
theorem dX10_pack_29 : decode cX10_pack 29 = .ok (.aload_n 0, 1) := by decide +kernel
theorem dX10_pack_30 : decode cX10_pack 30 = .ok (.getfield 10, 3) := by decide +kernel
theorem dX10_pack_33 : decode cX10_pack 33 = .ok (.getfield 126, 3) := by decide +kernel
theorem dX10_pack_36 : decode cX10_pack 36 = .ok (.iload_n 1, 1) := by decide +kernel
theorem dX10_pack_37 : decode cX10_pack 37 = .ok (.iload_n 2, 1) := by decide +kernel
theorem dX10_pack_38 : decode cX10_pack 38 = .ok (.invokevirtual 182, 3) := by decide +kernel
theorem dX10_pack_41 : decode cX10_pack 41 = .ok (.aload_n 0, 1) := by decide +kernel
theorem dX10_pack_42 : decode cX10_pack 42 = .ok (.getfield 10, 3) := by decide +kernel
theorem dX10_pack_45 : decode cX10_pack 45 = .ok (.getfield 126, 3) := by decide +kernel
theorem dX10_pack_48 : decode cX10_pack 48 = .ok (.getfield 163, 3) := by decide +kernel
theorem dX10_pack_51 : decode cX10_pack 51 = .ok (.ireturn, 1) := by decide +kernel
theorem dX10_lose_0 : decode cX10_lose 0 = .ok (.iload_n 1, 1) := by decide +kernel
theorem dX10_lose_1 : decode cX10_lose 1 = .ok (.invokestatic 186, 3) := by decide +kernel
theorem dX10_lose_4 : decode cX10_lose 4 = .ok (.ifCond .ne 6, 3) := by decide +kernel
theorem dX10_lose_7 : decode cX10_lose 7 = .ok (.ldc 84, 2) := by decide +kernel
theorem dX10_lose_9 : decode cX10_lose 9 = .ok (.ireturn, 1) := by decide +kernel
theorem dX10_lose_10 : decode cX10_lose 10 = .ok (.aload_n 0, 1) := by decide +kernel
theorem dX10_lose_11 : decode cX10_lose 11 = .ok (.getfield 10, 3) := by decide +kernel
theorem dX10_lose_14 : decode cX10_lose 14 = .ok (.getfield 126, 3) := by decide +kernel
theorem dX10_lose_17 : decode cX10_lose 17 = .ok (.getfield 170, 3) := by decide +kernel
theorem dX10_lose_20 : decode cX10_lose 20 = .ok (.ifCond .ne 6, 3) := by decide +kernel
theorem dX10_lose_23 : decode cX10_lose 23 = .ok (.ldc 189, 2) := by decide +kernel
theorem dX10_lose_25 : decode cX10_lose 25 = .ok (.ireturn, 1) := by decide +kernel
theorem dX10_lose_26 : decode cX10_lose 26 = .ok (.aload_n 0, 1) := by decide +kernel
theorem dX10_lose_27 : decode cX10_lose 27 = .ok (.getfield 10, 3) := by decide +kernel
theorem dX10_lose_30 : decode cX10_lose 30 = .ok (.getfield 126, 3) := by decide +kernel
theorem dX10_lose_33 : decode cX10_lose 33 = .ok (.getfield 190, 3) := by decide +kernel
theorem dX10_lose_36 : decode cX10_lose 36 = .ok (.iload_n 1, 1) := by decide +kernel
theorem dX10_lose_37 : decode cX10_lose 37 = .ok (.aload_n 0, 1) := by decide +kernel
theorem dX10_lose_38 : decode cX10_lose 38 = .ok (.getfield 10, 3) := by decide +kernel
theorem dX10_lose_41 : decode cX10_lose 41 = .ok (.getfield 126, 3) := by decide +kernel
theorem dX10_lose_44 : decode cX10_lose 44 = .ok (.getfield 170, 3) := by decide +kernel
theorem dX10_lose_47 : decode cX10_lose 47 = .ok (.iconst 1, 1) := by decide +kernel
theorem dX10_lose_48 : decode cX10_lose 48 = .ok (.isub, 1) := by decide +kernel
theorem dX10_lose_49 : decode cX10_lose 49 = .ok (.iastore, 1) := by decide +kernel
theorem dX10_lose_50 : decode cX10_lose 50 = .ok (.aload_n 0, 1) := by decide +kernel
theorem dX10_lose_51 : decode cX10_lose 51 = .ok (.getfield 10, 3) := by decide +kernel
theorem dX10_lose_54 : decode cX10_lose 54 = .ok (.getfield 126, 3) := by decide +kernel
theorem dX10_lose_57 : decode cX10_lose 57 = .ok (.getfield 170, 3) := by decide +kernel
theorem dX10_lose_60 : decode cX10_lose 60 = .ok (.iconst 1, 1) := by decide +kernel
theorem dX10_lose_61 : decode cX10_lose 61 = .ok (.isub, 1) := by decide +kernel
theorem dX10_lose_62 : decode cX10_lose 62 = .ok (.ireturn, 1) := by decide +kernel
theorem dX10_find_0 : decode cX10_find 0 = .ok (.iload_n 1, 1) := by decide +kernel
theorem dX10_find_1 : decode cX10_find 1 = .ok (.invokestatic 186, 3) := by decide +kernel
theorem dX10_find_4 : decode cX10_find 4 = .ok (.ifCond .ne 6, 3) := by decide +kernel
theorem dX10_find_7 : decode cX10_find 7 = .ok (.ldc 84, 2) := by decide +kernel
theorem dX10_find_9 : decode cX10_find 9 = .ok (.ireturn, 1) := by decide +kernel
theorem dX10_find_10 : decode cX10_find 10 = .ok (.aload_n 0, 1) := by decide +kernel
theorem dX10_find_11 : decode cX10_find 11 = .ok (.getfield 10, 3) := by decide +kernel
theorem dX10_find_14 : decode cX10_find 14 = .ok (.getfield 126, 3) := by decide +kernel
theorem dX10_find_17 : decode cX10_find 17 = .ok (.getfield 190, 3) := by decide +kernel
theorem dX10_find_20 : decode cX10_find 20 = .ok (.iload_n 1, 1) := by decide +kernel
theorem dX10_find_21 : decode cX10_find 21 = .ok (.iaload, 1) := by decide +kernel
theorem dX10_find_22 : decode cX10_find 22 = .ok (.istore_n 2, 1) := by decide +kernel
theorem dX10_find_23 : decode cX10_find 23 = .ok (.aload_n 0, 1) := by decide +kernel
theorem dX10_find_24 : decode cX10_find 24 = .ok (.getfield 10, 3) := by decide +kernel
theorem dX10_find_27 : decode cX10_find 27 = .ok (.getfield 126, 3) := by decide +kernel
theorem dX10_find_30 : decode cX10_find 30 = .ok (.getfield 190, 3) := by decide +kernel
theorem dX10_find_33 : decode cX10_find 33 = .ok (.iload_n 1, 1) := by decide +kernel
theorem dX10_find_34 : decode cX10_find 34 = .ok (.ldc 193, 2) := by decide +kernel
theorem dX10_find_36 : decode cX10_find 36 = .ok (.iastore, 1) := by decide +kernel
theorem dX10_find_37 : decode cX10_find 37 = .ok (.iload_n 2, 1) := by decide +kernel
theorem dX10_find_38 : decode cX10_find 38 = .ok (.ldc 193, 2) := by decide +kernel
theorem dX10_find_40 : decode cX10_find 40 = .ok (.if_icmp .ne 7, 3) := by decide +kernel
theorem dX10_find_43 : decode cX10_find 43 = .ok (.iconst 0, 1) := by decide +kernel
theorem dX10_find_44 : decode cX10_find 44 = .ok (.goto 4, 3) := by decide +kernel
theorem dX10_find_47 : decode cX10_find 47 = .ok (.iconst 1, 1) := by decide +kernel
theorem dX10_find_48 : decode cX10_find 48 = .ok (.ireturn, 1) := by decide +kernel
theorem dX10_thing_0 : decode cX10_thing 0 = .ok (.iload_n 1, 1) := by decide +kernel
theorem dX10_thing_1 : decode cX10_thing 1 = .ok (.invokestatic 186, 3) := by decide +kernel
theorem dX10_thing_4 : decode cX10_thing 4 = .ok (.ifCond .eq 18, 3) := by decide +kernel
theorem dX10_thing_7 : decode cX10_thing 7 = .ok (.aload_n 0, 1) := by decide +kernel
theorem dX10_thing_8 : decode cX10_thing 8 = .ok (.getfield 10, 3) := by decide +kernel
theorem dX10_thing_11 : decode cX10_thing 11 = .ok (.getfield 126, 3) := by decide +kernel
theorem dX10_thing_14 : decode cX10_thing 14 = .ok (.getfield 190, 3) := by decide +kernel
theorem dX10_thing_17 : decode cX10_thing 17 = .ok (.iload_n 1, 1) := by decide +kernel
theorem dX10_thing_18 : decode cX10_thing 18 = .ok (.iaload, 1) := by decide +kernel
theorem dX10_thing_19 : decode cX10_thing 19 = .ok (.goto 5, 3) := by decide +kernel
theorem dX10_thing_22 : decode cX10_thing 22 = .ok (.ldc 84, 2) := by decide +kernel
theorem dX10_thing_24 : decode cX10_thing 24 = .ok (.ireturn, 1) := by decide +kernel
theorem dX10_days_0 : decode cX10_days 0 = .ok (.iload_n 1, 1) := by decide +kernel
theorem dX10_days_1 : decode cX10_days 1 = .ok (.iconst 1, 1) := by decide +kernel
theorem dX10_days_2 : decode cX10_days 2 = .ok (.if_icmp .lt 9, 3) := by decide +kernel
theorem dX10_days_5 : decode cX10_days 5 = .ok (.iload_n 1, 1) := by decide +kernel
theorem dX10_days_6 : decode cX10_days 6 = .ok (.bipush 100, 2) := by decide +kernel
theorem dX10_days_8 : decode cX10_days 8 = .ok (.if_icmp .le 6, 3) := by decide +kernel
theorem dX10_days_11 : decode cX10_days 11 = .ok (.ldc 84, 2) := by decide +kernel
theorem dX10_days_13 : decode cX10_days 13 = .ok (.ireturn, 1) := by decide +kernel
theorem dX10_days_14 : decode cX10_days 14 = .ok (.aload_n 0, 1) := by decide +kernel
theorem dX10_days_15 : decode cX10_days 15 = .ok (.getfield 10, 3) := by decide +kernel
theorem dX10_days_18 : decode cX10_days 18 = .ok (.iload_n 1, 1) := by decide +kernel
theorem dX10_days_19 : decode cX10_days 19 = .ok (.sipush 9999, 3) := by decide +kernel
theorem dX10_days_22 : decode cX10_days 22 = .ok (.aload_n 0, 1) := by decide +kernel
theorem dX10_days_23 : decode cX10_days 23 = .ok (.getfield 10, 3) := by decide +kernel
theorem dX10_days_26 : decode cX10_days 26 = .ok (.getfield 116, 3) := by decide +kernel
theorem dX10_days_29 : decode cX10_days 29 = .ok (.isub, 1) := by decide +kernel
theorem dX10_days_30 : decode cX10_days 30 = .ok (.invokestatic 140, 3) := by decide +kernel
theorem dX10_days_33 : decode cX10_days 33 = .ok (.invokevirtual 194, 3) := by decide +kernel
theorem dX10_days_36 : decode cX10_days 36 = .ok (.ireturn, 1) := by decide +kernel
theorem dX10_behind_0 : decode cX10_behind 0 = .ok (.iload_n 1, 1) := by decide +kernel
theorem dX10_behind_1 : decode cX10_behind 1 = .ok (.ifCond .lt 18, 3) := by decide +kernel
theorem dX10_behind_4 : decode cX10_behind 4 = .ok (.iload_n 1, 1) := by decide +kernel
theorem dX10_behind_5 : decode cX10_behind 5 = .ok (.bipush 100, 2) := by decide +kernel
theorem dX10_behind_7 : decode cX10_behind 7 = .ok (.if_icmp .gt 12, 3) := by decide +kernel
theorem dX10_behind_10 : decode cX10_behind 10 = .ok (.iload_n 2, 1) := by decide +kernel
theorem dX10_behind_11 : decode cX10_behind 11 = .ok (.ifCond .lt 8, 3) := by decide +kernel
theorem dX10_behind_14 : decode cX10_behind 14 = .ok (.iload_n 2, 1) := by decide +kernel
theorem dX10_behind_15 : decode cX10_behind 15 = .ok (.iconst 3, 1) := by decide +kernel
theorem dX10_behind_16 : decode cX10_behind 16 = .ok (.if_icmp .le 6, 3) := by decide +kernel
theorem dX10_behind_19 : decode cX10_behind 19 = .ok (.ldc 84, 2) := by decide +kernel
theorem dX10_behind_21 : decode cX10_behind 21 = .ok (.ireturn, 1) := by decide +kernel
theorem dX10_behind_22 : decode cX10_behind 22 = .ok (.aload_n 0, 1) := by decide +kernel
theorem dX10_behind_23 : decode cX10_behind 23 = .ok (.getfield 26, 3) := by decide +kernel
theorem dX10_behind_26 : decode cX10_behind 26 = .ok (.aload_n 0, 1) := by decide +kernel
theorem dX10_behind_27 : decode cX10_behind 27 = .ok (.getfield 10, 3) := by decide +kernel
theorem dX10_behind_30 : decode cX10_behind 30 = .ok (.invokevirtual 197, 3) := by decide +kernel
theorem dX10_behind_33 : decode cX10_behind 33 = .ok (.astore_n 3, 1) := by decide +kernel
theorem dX10_behind_34 : decode cX10_behind 34 = .ok (.aload_n 3, 1) := by decide +kernel
theorem dX10_behind_35 : decode cX10_behind 35 = .ok (.iload_n 1, 1) := by decide +kernel
theorem dX10_behind_36 : decode cX10_behind 36 = .ok (.invokevirtual 194, 3) := by decide +kernel
theorem dX10_behind_39 : decode cX10_behind 39 = .ok (.pop, 1) := by decide +kernel
theorem dX10_behind_40 : decode cX10_behind 40 = .ok (.iload_n 2, 1) := by decide +kernel
theorem dX10_behind_41 : decode cX10_behind 41 = .ok (.tableswitch 51 0 2 #[27, 35, 43], 27) := by decide +kernel
theorem dX10_behind_68 : decode cX10_behind 68 = .ok (.aload_n 3, 1) := by decide +kernel
theorem dX10_behind_69 : decode cX10_behind 69 = .ok (.getfield 126, 3) := by decide +kernel
theorem dX10_behind_72 : decode cX10_behind 72 = .ok (.getfield 163, 3) := by decide +kernel
theorem dX10_behind_75 : decode cX10_behind 75 = .ok (.ireturn, 1) := by decide +kernel
theorem dX10_behind_76 : decode cX10_behind 76 = .ok (.aload_n 3, 1) := by decide +kernel
theorem dX10_behind_77 : decode cX10_behind 77 = .ok (.getfield 126, 3) := by decide +kernel
theorem dX10_behind_80 : decode cX10_behind 80 = .ok (.getfield 160, 3) := by decide +kernel
theorem dX10_behind_83 : decode cX10_behind 83 = .ok (.ireturn, 1) := by decide +kernel
theorem dX10_behind_84 : decode cX10_behind 84 = .ok (.aload_n 3, 1) := by decide +kernel
theorem dX10_behind_85 : decode cX10_behind 85 = .ok (.getfield 85, 3) := by decide +kernel
theorem dX10_behind_88 : decode cX10_behind 88 = .ok (.invokevirtual 201, 3) := by decide +kernel
theorem dX10_behind_91 : decode cX10_behind 91 = .ok (.ireturn, 1) := by decide +kernel
theorem dX10_behind_92 : decode cX10_behind 92 = .ok (.aload_n 3, 1) := by decide +kernel
theorem dX10_behind_93 : decode cX10_behind 93 = .ok (.getfield 126, 3) := by decide +kernel
theorem dX10_behind_96 : decode cX10_behind 96 = .ok (.getfield 170, 3) := by decide +kernel
theorem dX10_behind_99 : decode cX10_behind 99 = .ok (.ireturn, 1) := by decide +kernel
theorem dX10_gone_0 : decode cX10_gone 0 = .ok (.aload_n 0, 1) := by decide +kernel
theorem dX10_gone_1 : decode cX10_gone 1 = .ok (.getfield 26, 3) := by decide +kernel
theorem dX10_gone_4 : decode cX10_gone 4 = .ok (.aload_n 0, 1) := by decide +kernel
theorem dX10_gone_5 : decode cX10_gone 5 = .ok (.getfield 10, 3) := by decide +kernel
theorem dX10_gone_8 : decode cX10_gone 8 = .ok (.invokevirtual 197, 3) := by decide +kernel
theorem dX10_gone_11 : decode cX10_gone 11 = .ok (.astore_n 1, 1) := by decide +kernel
theorem dX10_gone_12 : decode cX10_gone 12 = .ok (.iconst 0, 1) := by decide +kernel
theorem dX10_gone_13 : decode cX10_gone 13 = .ok (.istore_n 2, 1) := by decide +kernel
theorem dX10_gone_14 : decode cX10_gone 14 = .ok (.iload_n 2, 1) := by decide +kernel
theorem dX10_gone_15 : decode cX10_gone 15 = .ok (.sipush 300, 3) := by decide +kernel
theorem dX10_gone_18 : decode cX10_gone 18 = .ok (.if_icmp .ge 26, 3) := by decide +kernel
theorem dX10_gone_21 : decode cX10_gone 21 = .ok (.aload_n 1, 1) := by decide +kernel
theorem dX10_gone_22 : decode cX10_gone 22 = .ok (.getfield 126, 3) := by decide +kernel
theorem dX10_gone_25 : decode cX10_gone 25 = .ok (.getfield 163, 3) := by decide +kernel
theorem dX10_gone_28 : decode cX10_gone 28 = .ok (.ifCond .ne 5, 3) := by decide +kernel
theorem dX10_gone_31 : decode cX10_gone 31 = .ok (.iload_n 2, 1) := by decide +kernel
theorem dX10_gone_32 : decode cX10_gone 32 = .ok (.ireturn, 1) := by decide +kernel
theorem dX10_gone_33 : decode cX10_gone 33 = .ok (.aload_n 1, 1) := by decide +kernel
theorem dX10_gone_34 : decode cX10_gone 34 = .ok (.invokevirtual 204, 3) := by decide +kernel
theorem dX10_gone_37 : decode cX10_gone 37 = .ok (.pop, 1) := by decide +kernel
theorem dX10_gone_38 : decode cX10_gone 38 = .ok (.iinc 2 1, 3) := by decide +kernel
theorem dX10_gone_41 : decode cX10_gone 41 = .ok (.goto (-27), 3) := by decide +kernel
theorem dX10_gone_44 : decode cX10_gone 44 = .ok (.aload_n 1, 1) := by decide +kernel
theorem dX10_gone_45 : decode cX10_gone 45 = .ok (.getfield 126, 3) := by decide +kernel
theorem dX10_gone_48 : decode cX10_gone 48 = .ok (.getfield 163, 3) := by decide +kernel
theorem dX10_gone_51 : decode cX10_gone 51 = .ok (.ifCond .ne 9, 3) := by decide +kernel
theorem dX10_gone_54 : decode cX10_gone 54 = .ok (.sipush 300, 3) := by decide +kernel
theorem dX10_gone_57 : decode cX10_gone 57 = .ok (.goto 5, 3) := by decide +kernel
theorem dX10_gone_60 : decode cX10_gone 60 = .ok (.ldc 193, 2) := by decide +kernel
theorem dX10_gone_62 : decode cX10_gone 62 = .ok (.ireturn, 1) := by decide +kernel
theorem dX10_way_0 : decode cX10_way 0 = .ok (.iload_n 1, 1) := by decide +kernel
theorem dX10_way_1 : decode cX10_way 1 = .ok (.iconst 1, 1) := by decide +kernel
theorem dX10_way_2 : decode cX10_way 2 = .ok (.if_icmp .lt 17, 3) := by decide +kernel
theorem dX10_way_5 : decode cX10_way 5 = .ok (.iload_n 1, 1) := by decide +kernel
theorem dX10_way_6 : decode cX10_way 6 = .ok (.iconst 5, 1) := by decide +kernel
theorem dX10_way_7 : decode cX10_way 7 = .ok (.if_icmp .gt 12, 3) := by decide +kernel
theorem dX10_way_10 : decode cX10_way 10 = .ok (.iload_n 2, 1) := by decide +kernel
theorem dX10_way_11 : decode cX10_way 11 = .ok (.ifCond .lt 8, 3) := by decide +kernel
theorem dX10_way_14 : decode cX10_way 14 = .ok (.iload_n 2, 1) := by decide +kernel
theorem dX10_way_15 : decode cX10_way 15 = .ok (.iconst 2, 1) := by decide +kernel
theorem dX10_way_16 : decode cX10_way 16 = .ok (.if_icmp .le 6, 3) := by decide +kernel
theorem dX10_way_19 : decode cX10_way 19 = .ok (.ldc 84, 2) := by decide +kernel
theorem dX10_way_21 : decode cX10_way 21 = .ok (.ireturn, 1) := by decide +kernel
theorem dX10_way_22 : decode cX10_way 22 = .ok (.aload_n 0, 1) := by decide +kernel
theorem dX10_way_23 : decode cX10_way 23 = .ok (.getfield 10, 3) := by decide +kernel
theorem dX10_way_26 : decode cX10_way 26 = .ok (.getfield 85, 3) := by decide +kernel
theorem dX10_way_29 : decode cX10_way 29 = .ok (.getfield 89, 3) := by decide +kernel
theorem dX10_way_32 : decode cX10_way 32 = .ok (.ifCond .ne 6, 3) := by decide +kernel
theorem dX10_way_35 : decode cX10_way 35 = .ok (.ldc 193, 2) := by decide +kernel
theorem dX10_way_37 : decode cX10_way 37 = .ok (.ireturn, 1) := by decide +kernel
theorem dX10_way_38 : decode cX10_way 38 = .ok (.aload_n 0, 1) := by decide +kernel
theorem dX10_way_39 : decode cX10_way 39 = .ok (.getfield 26, 3) := by decide +kernel
theorem dX10_way_42 : decode cX10_way 42 = .ok (.aload_n 0, 1) := by decide +kernel
theorem dX10_way_43 : decode cX10_way 43 = .ok (.getfield 10, 3) := by decide +kernel
theorem dX10_way_46 : decode cX10_way 46 = .ok (.iload_n 1, 1) := by decide +kernel
theorem dX10_way_47 : decode cX10_way 47 = .ok (.invokevirtual 207, 3) := by decide +kernel
theorem dX10_way_50 : decode cX10_way 50 = .ok (.iload_n 2, 1) := by decide +kernel
theorem dX10_way_51 : decode cX10_way 51 = .ok (.lookupswitch 41 #[(0, 25), (1, 33)], 25) := by decide +kernel
theorem dX10_way_76 : decode cX10_way 76 = .ok (.aload_n 0, 1) := by decide +kernel
theorem dX10_way_77 : decode cX10_way 77 = .ok (.getfield 26, 3) := by decide +kernel
theorem dX10_way_80 : decode cX10_way 80 = .ok (.getfield 211, 3) := by decide +kernel
theorem dX10_way_83 : decode cX10_way 83 = .ok (.ireturn, 1) := by decide +kernel
theorem dX10_way_84 : decode cX10_way 84 = .ok (.aload_n 0, 1) := by decide +kernel
theorem dX10_way_85 : decode cX10_way 85 = .ok (.getfield 26, 3) := by decide +kernel
theorem dX10_way_88 : decode cX10_way 88 = .ok (.getfield 214, 3) := by decide +kernel
theorem dX10_way_91 : decode cX10_way 91 = .ok (.ireturn, 1) := by decide +kernel
theorem dX10_way_92 : decode cX10_way 92 = .ok (.aload_n 0, 1) := by decide +kernel
theorem dX10_way_93 : decode cX10_way 93 = .ok (.getfield 26, 3) := by decide +kernel
theorem dX10_way_96 : decode cX10_way 96 = .ok (.getfield 217, 3) := by decide +kernel
theorem dX10_way_99 : decode cX10_way 99 = .ok (.ireturn, 1) := by decide +kernel
theorem dX10_most_0 : decode cX10_most 0 = .ok (.aload_n 0, 1) := by decide +kernel
theorem dX10_most_1 : decode cX10_most 1 = .ok (.getfield 10, 3) := by decide +kernel
theorem dX10_most_4 : decode cX10_most 4 = .ok (.getfield 126, 3) := by decide +kernel
theorem dX10_most_7 : decode cX10_most 7 = .ok (.getfield 170, 3) := by decide +kernel
theorem dX10_most_10 : decode cX10_most 10 = .ok (.ifCond .ne 6, 3) := by decide +kernel
theorem dX10_most_13 : decode cX10_most 13 = .ok (.ldc 193, 2) := by decide +kernel
theorem dX10_most_15 : decode cX10_most 15 = .ok (.ireturn, 1) := by decide +kernel
theorem dX10_most_16 : decode cX10_most 16 = .ok (.iconst 0, 1) := by decide +kernel
theorem dX10_most_17 : decode cX10_most 17 = .ok (.istore_n 1, 1) := by decide +kernel
theorem dX10_most_18 : decode cX10_most 18 = .ok (.iconst 1, 1) := by decide +kernel
theorem dX10_most_19 : decode cX10_most 19 = .ok (.istore_n 2, 1) := by decide +kernel
theorem dX10_most_20 : decode cX10_most 20 = .ok (.iload_n 2, 1) := by decide +kernel
theorem dX10_most_21 : decode cX10_most 21 = .ok (.aload_n 0, 1) := by decide +kernel
theorem dX10_most_22 : decode cX10_most 22 = .ok (.getfield 10, 3) := by decide +kernel
theorem dX10_most_25 : decode cX10_most 25 = .ok (.getfield 85, 3) := by decide +kernel
theorem dX10_most_28 : decode cX10_most 28 = .ok (.getfield 89, 3) := by decide +kernel
theorem dX10_most_31 : decode cX10_most 31 = .ok (.if_icmp .ge 36, 3) := by decide +kernel
theorem dX10_most_34 : decode cX10_most 34 = .ok (.aload_n 0, 1) := by decide +kernel
theorem dX10_most_35 : decode cX10_most 35 = .ok (.getfield 10, 3) := by decide +kernel
theorem dX10_most_38 : decode cX10_most 38 = .ok (.getfield 126, 3) := by decide +kernel
theorem dX10_most_41 : decode cX10_most 41 = .ok (.iload_n 2, 1) := by decide +kernel
theorem dX10_most_42 : decode cX10_most 42 = .ok (.invokevirtual 130, 3) := by decide +kernel
theorem dX10_most_45 : decode cX10_most 45 = .ok (.aload_n 0, 1) := by decide +kernel
theorem dX10_most_46 : decode cX10_most 46 = .ok (.getfield 10, 3) := by decide +kernel
theorem dX10_most_49 : decode cX10_most 49 = .ok (.getfield 126, 3) := by decide +kernel
theorem dX10_most_52 : decode cX10_most 52 = .ok (.iload_n 1, 1) := by decide +kernel
theorem dX10_most_53 : decode cX10_most 53 = .ok (.invokevirtual 130, 3) := by decide +kernel
theorem dX10_most_56 : decode cX10_most 56 = .ok (.if_icmp .le 5, 3) := by decide +kernel
theorem dX10_most_59 : decode cX10_most 59 = .ok (.iload_n 2, 1) := by decide +kernel
theorem dX10_most_60 : decode cX10_most 60 = .ok (.istore_n 1, 1) := by decide +kernel
theorem dX10_most_61 : decode cX10_most 61 = .ok (.iinc 2 1, 3) := by decide +kernel
theorem dX10_most_64 : decode cX10_most 64 = .ok (.goto (-44), 3) := by decide +kernel
theorem dX10_most_67 : decode cX10_most 67 = .ok (.iload_n 1, 1) := by decide +kernel
theorem dX10_most_68 : decode cX10_most 68 = .ok (.ireturn, 1) := by decide +kernel
theorem dX10_warmed_0 : decode cX10_warmed 0 = .ok (.iload_n 1, 1) := by decide +kernel
theorem dX10_warmed_1 : decode cX10_warmed 1 = .ok (.invokestatic 220, 3) := by decide +kernel
theorem dX10_warmed_4 : decode cX10_warmed 4 = .ok (.ifCond .eq 12, 3) := by decide +kernel
theorem dX10_warmed_7 : decode cX10_warmed 7 = .ok (.iload_n 2, 1) := by decide +kernel
theorem dX10_warmed_8 : decode cX10_warmed 8 = .ok (.ifCond .lt 8, 3) := by decide +kernel
theorem dX10_warmed_11 : decode cX10_warmed 11 = .ok (.iload_n 2, 1) := by decide +kernel
theorem dX10_warmed_12 : decode cX10_warmed 12 = .ok (.iconst 1, 1) := by decide +kernel
theorem dX10_warmed_13 : decode cX10_warmed 13 = .ok (.if_icmp .le 6, 3) := by decide +kernel
theorem dX10_warmed_16 : decode cX10_warmed 16 = .ok (.ldc 84, 2) := by decide +kernel
theorem dX10_warmed_18 : decode cX10_warmed 18 = .ok (.ireturn, 1) := by decide +kernel
theorem dX10_warmed_19 : decode cX10_warmed 19 = .ok (.aload_n 0, 1) := by decide +kernel
theorem dX10_warmed_20 : decode cX10_warmed 20 = .ok (.getfield 52, 3) := by decide +kernel
theorem dX10_warmed_23 : decode cX10_warmed 23 = .ok (.iload_n 1, 1) := by decide +kernel
theorem dX10_warmed_24 : decode cX10_warmed 24 = .ok (.aaload, 1) := by decide +kernel
theorem dX10_warmed_25 : decode cX10_warmed 25 = .ok (.getfield 223, 3) := by decide +kernel
theorem dX10_warmed_28 : decode cX10_warmed 28 = .ok (.iconst (-1), 1) := by decide +kernel
theorem dX10_warmed_29 : decode cX10_warmed 29 = .ok (.if_icmp .ne 6, 3) := by decide +kernel
theorem dX10_warmed_32 : decode cX10_warmed 32 = .ok (.ldc 226, 2) := by decide +kernel
theorem dX10_warmed_34 : decode cX10_warmed 34 = .ok (.ireturn, 1) := by decide +kernel
theorem dX10_warmed_35 : decode cX10_warmed 35 = .ok (.iconst 0, 1) := by decide +kernel
theorem dX10_warmed_36 : decode cX10_warmed 36 = .ok (.istore_n 3, 1) := by decide +kernel
theorem dX10_warmed_37 : decode cX10_warmed 37 = .ok (.aload_n 0, 1) := by decide +kernel
theorem dX10_warmed_38 : decode cX10_warmed 38 = .ok (.aload_n 0, 1) := by decide +kernel
theorem dX10_warmed_39 : decode cX10_warmed 39 = .ok (.getfield 52, 3) := by decide +kernel
theorem dX10_warmed_42 : decode cX10_warmed 42 = .ok (.iload_n 1, 1) := by decide +kernel
theorem dX10_warmed_43 : decode cX10_warmed 43 = .ok (.aaload, 1) := by decide +kernel
theorem dX10_warmed_44 : decode cX10_warmed 44 = .ok (.iconst 0, 1) := by decide +kernel
theorem dX10_warmed_45 : decode cX10_warmed 45 = .ok (.invokevirtual 227, 3) := by decide +kernel
theorem dX10_warmed_48 : decode cX10_warmed 48 = .ok (.istore 4, 2) := by decide +kernel
theorem dX10_warmed_50 : decode cX10_warmed 50 = .ok (.iconst 1, 1) := by decide +kernel
theorem dX10_warmed_51 : decode cX10_warmed 51 = .ok (.istore 5, 2) := by decide +kernel
theorem dX10_warmed_53 : decode cX10_warmed 53 = .ok (.iload 5, 2) := by decide +kernel
theorem dX10_warmed_55 : decode cX10_warmed 55 = .ok (.bipush 20, 2) := by decide +kernel
theorem dX10_warmed_57 : decode cX10_warmed 57 = .ok (.if_icmp .gt 37, 3) := by decide +kernel
theorem dX10_warmed_60 : decode cX10_warmed 60 = .ok (.aload_n 0, 1) := by decide +kernel
theorem dX10_warmed_61 : decode cX10_warmed 61 = .ok (.aload_n 0, 1) := by decide +kernel
theorem dX10_warmed_62 : decode cX10_warmed 62 = .ok (.getfield 52, 3) := by decide +kernel
theorem dX10_warmed_65 : decode cX10_warmed 65 = .ok (.iload_n 1, 1) := by decide +kernel
theorem dX10_warmed_66 : decode cX10_warmed 66 = .ok (.aaload, 1) := by decide +kernel
theorem dX10_warmed_67 : decode cX10_warmed 67 = .ok (.iload 5, 2) := by decide +kernel
theorem dX10_warmed_69 : decode cX10_warmed 69 = .ok (.invokevirtual 227, 3) := by decide +kernel
theorem dX10_warmed_72 : decode cX10_warmed 72 = .ok (.istore 6, 2) := by decide +kernel
theorem dX10_warmed_74 : decode cX10_warmed 74 = .ok (.iload 6, 2) := by decide +kernel
theorem dX10_warmed_76 : decode cX10_warmed 76 = .ok (.iload 4, 2) := by decide +kernel
theorem dX10_warmed_78 : decode cX10_warmed 78 = .ok (.if_icmp .ge 10, 3) := by decide +kernel
theorem dX10_warmed_81 : decode cX10_warmed 81 = .ok (.iload 5, 2) := by decide +kernel
theorem dX10_warmed_83 : decode cX10_warmed 83 = .ok (.istore_n 3, 1) := by decide +kernel
theorem dX10_warmed_84 : decode cX10_warmed 84 = .ok (.iload 6, 2) := by decide +kernel
theorem dX10_warmed_86 : decode cX10_warmed 86 = .ok (.istore 4, 2) := by decide +kernel
theorem dX10_warmed_88 : decode cX10_warmed 88 = .ok (.iinc 5 1, 3) := by decide +kernel
theorem dX10_warmed_91 : decode cX10_warmed 91 = .ok (.goto (-38), 3) := by decide +kernel
theorem dX10_warmed_94 : decode cX10_warmed 94 = .ok (.iload_n 2, 1) := by decide +kernel
theorem dX10_warmed_95 : decode cX10_warmed 95 = .ok (.ifCond .ne 7, 3) := by decide +kernel
theorem dX10_warmed_98 : decode cX10_warmed 98 = .ok (.iload_n 3, 1) := by decide +kernel
theorem dX10_warmed_99 : decode cX10_warmed 99 = .ok (.goto 5, 3) := by decide +kernel
theorem dX10_warmed_102 : decode cX10_warmed 102 = .ok (.iload 4, 2) := by decide +kernel
theorem dX10_warmed_104 : decode cX10_warmed 104 = .ok (.ireturn, 1) := by decide +kernel
theorem dX10_fine_0 : decode cX10_fine 0 = .ok (.aload_n 0, 1) := by decide +kernel
theorem dX10_fine_1 : decode cX10_fine 1 = .ok (.getfield 10, 3) := by decide +kernel
theorem dX10_fine_4 : decode cX10_fine 4 = .ok (.getfield 85, 3) := by decide +kernel
theorem dX10_fine_7 : decode cX10_fine 7 = .ok (.iload_n 1, 1) := by decide +kernel
theorem dX10_fine_8 : decode cX10_fine 8 = .ok (.invokevirtual 99, 3) := by decide +kernel
theorem dX10_fine_11 : decode cX10_fine 11 = .ok (.ifCond .eq 14, 3) := by decide +kernel
theorem dX10_fine_14 : decode cX10_fine 14 = .ok (.aload_n 0, 1) := by decide +kernel
theorem dX10_fine_15 : decode cX10_fine 15 = .ok (.getfield 10, 3) := by decide +kernel
theorem dX10_fine_18 : decode cX10_fine 18 = .ok (.iload_n 1, 1) := by decide +kernel
theorem dX10_fine_19 : decode cX10_fine 19 = .ok (.invokevirtual 231, 3) := by decide +kernel
theorem dX10_fine_22 : decode cX10_fine 22 = .ok (.goto 5, 3) := by decide +kernel
theorem dX10_fine_25 : decode cX10_fine 25 = .ok (.ldc 84, 2) := by decide +kernel
theorem dX10_fine_27 : decode cX10_fine 27 = .ok (.ireturn, 1) := by decide +kernel
theorem dX10_feed_0 : decode cX10_feed 0 = .ok (.aload_n 0, 1) := by decide +kernel
theorem dX10_feed_1 : decode cX10_feed 1 = .ok (.getfield 33, 3) := by decide +kernel
theorem dX10_feed_4 : decode cX10_feed 4 = .ok (.getfield 234, 3) := by decide +kernel
theorem dX10_feed_7 : decode cX10_feed 7 = .ok (.bipush 12, 2) := by decide +kernel
theorem dX10_feed_9 : decode cX10_feed 9 = .ok (.iadd, 1) := by decide +kernel
theorem dX10_feed_10 : decode cX10_feed 10 = .ok (.bipush 96, 2) := by decide +kernel
theorem dX10_feed_12 : decode cX10_feed 12 = .ok (.if_icmp .le 6, 3) := by decide +kernel
theorem dX10_feed_15 : decode cX10_feed 15 = .ok (.ldc 94, 2) := by decide +kernel
theorem dX10_feed_17 : decode cX10_feed 17 = .ok (.ireturn, 1) := by decide +kernel
theorem dX10_feed_18 : decode cX10_feed 18 = .ok (.aload_n 0, 1) := by decide +kernel
theorem dX10_feed_19 : decode cX10_feed 19 = .ok (.getfield 33, 3) := by decide +kernel
theorem dX10_feed_22 : decode cX10_feed 22 = .ok (.iload_n 1, 1) := by decide +kernel
theorem dX10_feed_23 : decode cX10_feed 23 = .ok (.invokevirtual 237, 3) := by decide +kernel
theorem dX10_feed_26 : decode cX10_feed 26 = .ok (.aload_n 0, 1) := by decide +kernel
theorem dX10_feed_27 : decode cX10_feed 27 = .ok (.getfield 33, 3) := by decide +kernel
theorem dX10_feed_30 : decode cX10_feed 30 = .ok (.iload_n 2, 1) := by decide +kernel
theorem dX10_feed_31 : decode cX10_feed 31 = .ok (.invokevirtual 237, 3) := by decide +kernel
theorem dX10_feed_34 : decode cX10_feed 34 = .ok (.aload_n 0, 1) := by decide +kernel
theorem dX10_feed_35 : decode cX10_feed 35 = .ok (.getfield 33, 3) := by decide +kernel
theorem dX10_feed_38 : decode cX10_feed 38 = .ok (.iload_n 3, 1) := by decide +kernel
theorem dX10_feed_39 : decode cX10_feed 39 = .ok (.invokevirtual 237, 3) := by decide +kernel
theorem dX10_feed_42 : decode cX10_feed 42 = .ok (.aload_n 0, 1) := by decide +kernel
theorem dX10_feed_43 : decode cX10_feed 43 = .ok (.getfield 33, 3) := by decide +kernel
theorem dX10_feed_46 : decode cX10_feed 46 = .ok (.getfield 234, 3) := by decide +kernel
theorem dX10_feed_49 : decode cX10_feed 49 = .ok (.ireturn, 1) := by decide +kernel
theorem dX10_trim_0 : decode cX10_trim 0 = .ok (.iload_n 1, 1) := by decide +kernel
theorem dX10_trim_1 : decode cX10_trim 1 = .ok (.ifCond .lt 14, 3) := by decide +kernel
theorem dX10_trim_4 : decode cX10_trim 4 = .ok (.iload_n 1, 1) := by decide +kernel
theorem dX10_trim_5 : decode cX10_trim 5 = .ok (.aload_n 0, 1) := by decide +kernel
theorem dX10_trim_6 : decode cX10_trim 6 = .ok (.getfield 33, 3) := by decide +kernel
theorem dX10_trim_9 : decode cX10_trim 9 = .ok (.getfield 234, 3) := by decide +kernel
theorem dX10_trim_12 : decode cX10_trim 12 = .ok (.if_icmp .le 6, 3) := by decide +kernel
theorem dX10_trim_15 : decode cX10_trim 15 = .ok (.ldc 84, 2) := by decide +kernel
theorem dX10_trim_17 : decode cX10_trim 17 = .ok (.ireturn, 1) := by decide +kernel
theorem dX10_trim_18 : decode cX10_trim 18 = .ok (.aload_n 0, 1) := by decide +kernel
theorem dX10_trim_19 : decode cX10_trim 19 = .ok (.getfield 33, 3) := by decide +kernel
theorem dX10_trim_22 : decode cX10_trim 22 = .ok (.iload_n 1, 1) := by decide +kernel
theorem dX10_trim_23 : decode cX10_trim 23 = .ok (.putfield 234, 3) := by decide +kernel
theorem dX10_trim_26 : decode cX10_trim 26 = .ok (.iload_n 1, 1) := by decide +kernel
theorem dX10_trim_27 : decode cX10_trim 27 = .ok (.ireturn, 1) := by decide +kernel
theorem dX10_text_0 : decode cX10_text 0 = .ok (.aload_n 0, 1) := by decide +kernel
theorem dX10_text_1 : decode cX10_text 1 = .ok (.getfield 40, 3) := by decide +kernel
theorem dX10_text_4 : decode cX10_text 4 = .ok (.aload_n 0, 1) := by decide +kernel
theorem dX10_text_5 : decode cX10_text 5 = .ok (.getfield 33, 3) := by decide +kernel
theorem dX10_text_8 : decode cX10_text 8 = .ok (.invokevirtual 241, 3) := by decide +kernel
theorem dX10_text_11 : decode cX10_text 11 = .ok (.istore_n 1, 1) := by decide +kernel
theorem dX10_text_12 : decode cX10_text 12 = .ok (.aload_n 0, 1) := by decide +kernel
theorem dX10_text_13 : decode cX10_text 13 = .ok (.getfield 33, 3) := by decide +kernel
theorem dX10_text_16 : decode cX10_text 16 = .ok (.iconst 0, 1) := by decide +kernel
theorem dX10_text_17 : decode cX10_text 17 = .ok (.putfield 234, 3) := by decide +kernel
theorem dX10_text_20 : decode cX10_text 20 = .ok (.iload_n 1, 1) := by decide +kernel
theorem dX10_text_21 : decode cX10_text 21 = .ok (.ifCond .lt 8, 3) := by decide +kernel
theorem dX10_text_24 : decode cX10_text 24 = .ok (.bipush (-100), 2) := by decide +kernel
theorem dX10_text_26 : decode cX10_text 26 = .ok (.iload_n 1, 1) := by decide +kernel
theorem dX10_text_27 : decode cX10_text 27 = .ok (.isub, 1) := by decide +kernel
theorem dX10_text_28 : decode cX10_text 28 = .ok (.ireturn, 1) := by decide +kernel
theorem dX10_text_29 : decode cX10_text 29 = .ok (.aload_n 0, 1) := by decide +kernel
theorem dX10_text_30 : decode cX10_text 30 = .ok (.getfield 10, 3) := by decide +kernel
theorem dX10_text_33 : decode cX10_text 33 = .ok (.getfield 245, 3) := by decide +kernel
theorem dX10_text_36 : decode cX10_text 36 = .ok (.bipush 14, 2) := by decide +kernel
theorem dX10_text_38 : decode cX10_text 38 = .ok (.if_icmp .lt 6, 3) := by decide +kernel
theorem dX10_text_41 : decode cX10_text 41 = .ok (.ldc 94, 2) := by decide +kernel
theorem dX10_text_43 : decode cX10_text 43 = .ok (.ireturn, 1) := by decide +kernel
theorem dX10_text_44 : decode cX10_text 44 = .ok (.aload_n 0, 1) := by decide +kernel
theorem dX10_text_45 : decode cX10_text 45 = .ok (.getfield 10, 3) := by decide +kernel
theorem dX10_text_48 : decode cX10_text 48 = .ok (.getfield 245, 3) := by decide +kernel
theorem dX10_text_51 : decode cX10_text 51 = .ok (.istore_n 2, 1) := by decide +kernel
theorem dX10_text_52 : decode cX10_text 52 = .ok (.aload_n 0, 1) := by decide +kernel
theorem dX10_text_53 : decode cX10_text 53 = .ok (.getfield 46, 3) := by decide +kernel
theorem dX10_text_56 : decode cX10_text 56 = .ok (.iload_n 2, 1) := by decide +kernel
theorem dX10_text_57 : decode cX10_text 57 = .ok (.aload_n 0, 1) := by decide +kernel
theorem dX10_text_58 : decode cX10_text 58 = .ok (.getfield 40, 3) := by decide +kernel
theorem dX10_text_61 : decode cX10_text 61 = .ok (.iload_n 2, 1) := by decide +kernel
theorem dX10_text_62 : decode cX10_text 62 = .ok (.invokevirtual 248, 3) := by decide +kernel
theorem dX10_text_65 : decode cX10_text 65 = .ok (.aastore, 1) := by decide +kernel
theorem dX10_text_66 : decode cX10_text 66 = .ok (.aload_n 0, 1) := by decide +kernel
theorem dX10_text_67 : decode cX10_text 67 = .ok (.getfield 10, 3) := by decide +kernel
theorem dX10_text_70 : decode cX10_text 70 = .ok (.aload_n 0, 1) := by decide +kernel
theorem dX10_text_71 : decode cX10_text 71 = .ok (.getfield 46, 3) := by decide +kernel
theorem dX10_text_74 : decode cX10_text 74 = .ok (.iload_n 2, 1) := by decide +kernel
theorem dX10_text_75 : decode cX10_text 75 = .ok (.aaload, 1) := by decide +kernel
theorem dX10_text_76 : decode cX10_text 76 = .ok (.invokevirtual 252, 3) := by decide +kernel
theorem dX10_text_79 : decode cX10_text 79 = .ok (.iload_n 2, 1) := by decide +kernel
theorem dX10_text_80 : decode cX10_text 80 = .ok (.ireturn, 1) := by decide +kernel
theorem dX10_textTold_0 : decode cX10_textTold 0 = .ok (.iload_n 1, 1) := by decide +kernel
theorem dX10_textTold_1 : decode cX10_textTold 1 = .ok (.ifCond .lt 23, 3) := by decide +kernel
theorem dX10_textTold_4 : decode cX10_textTold 4 = .ok (.iload_n 1, 1) := by decide +kernel
theorem dX10_textTold_5 : decode cX10_textTold 5 = .ok (.aload_n 0, 1) := by decide +kernel
theorem dX10_textTold_6 : decode cX10_textTold 6 = .ok (.getfield 10, 3) := by decide +kernel
theorem dX10_textTold_9 : decode cX10_textTold 9 = .ok (.getfield 245, 3) := by decide +kernel
theorem dX10_textTold_12 : decode cX10_textTold 12 = .ok (.if_icmp .ge 12, 3) := by decide +kernel
theorem dX10_textTold_15 : decode cX10_textTold 15 = .ok (.iload_n 2, 1) := by decide +kernel
theorem dX10_textTold_16 : decode cX10_textTold 16 = .ok (.ifCond .lt 8, 3) := by decide +kernel
theorem dX10_textTold_19 : decode cX10_textTold 19 = .ok (.iload_n 2, 1) := by decide +kernel
theorem dX10_textTold_20 : decode cX10_textTold 20 = .ok (.iconst 1, 1) := by decide +kernel
theorem dX10_textTold_21 : decode cX10_textTold 21 = .ok (.if_icmp .le 6, 3) := by decide +kernel
theorem dX10_textTold_24 : decode cX10_textTold 24 = .ok (.ldc 84, 2) := by decide +kernel
theorem dX10_textTold_26 : decode cX10_textTold 26 = .ok (.ireturn, 1) := by decide +kernel
theorem dX10_textTold_27 : decode cX10_textTold 27 = .ok (.aload_n 0, 1) := by decide +kernel
theorem dX10_textTold_28 : decode cX10_textTold 28 = .ok (.getfield 46, 3) := by decide +kernel
theorem dX10_textTold_31 : decode cX10_textTold 31 = .ok (.iload_n 1, 1) := by decide +kernel
theorem dX10_textTold_32 : decode cX10_textTold 32 = .ok (.aaload, 1) := by decide +kernel
theorem dX10_textTold_33 : decode cX10_textTold 33 = .ok (.astore_n 3, 1) := by decide +kernel
theorem dX10_textTold_34 : decode cX10_textTold 34 = .ok (.aload_n 3, 1) := by decide +kernel
theorem dX10_textTold_35 : decode cX10_textTold 35 = .ok (.ifnonnull 6, 3) := by decide +kernel
theorem dX10_textTold_38 : decode cX10_textTold 38 = .ok (.ldc 84, 2) := by decide +kernel
theorem dX10_textTold_40 : decode cX10_textTold 40 = .ok (.ireturn, 1) := by decide +kernel
theorem dX10_textTold_41 : decode cX10_textTold 41 = .ok (.iload_n 2, 1) := by decide +kernel
theorem dX10_textTold_42 : decode cX10_textTold 42 = .ok (.ifCond .ne 10, 3) := by decide +kernel
theorem dX10_textTold_45 : decode cX10_textTold 45 = .ok (.aload_n 3, 1) := by decide +kernel
theorem dX10_textTold_46 : decode cX10_textTold 46 = .ok (.getfield 256, 3) := by decide +kernel
theorem dX10_textTold_49 : decode cX10_textTold 49 = .ok (.goto 7, 3) := by decide +kernel
theorem dX10_textTold_52 : decode cX10_textTold 52 = .ok (.aload_n 3, 1) := by decide +kernel
theorem dX10_textTold_53 : decode cX10_textTold 53 = .ok (.getfield 259, 3) := by decide +kernel
theorem dX10_textTold_56 : decode cX10_textTold 56 = .ok (.ireturn, 1) := by decide +kernel
theorem dX10_why_0 : decode cX10_why 0 = .ok (.iload_n 1, 1) := by decide +kernel
theorem dX10_why_1 : decode cX10_why 1 = .ok (.ifCond .lt 8, 3) := by decide +kernel
theorem dX10_why_4 : decode cX10_why 4 = .ok (.iload_n 1, 1) := by decide +kernel
theorem dX10_why_5 : decode cX10_why 5 = .ok (.iconst 3, 1) := by decide +kernel
theorem dX10_why_6 : decode cX10_why 6 = .ok (.if_icmp .lt 6, 3) := by decide +kernel
theorem dX10_why_9 : decode cX10_why 9 = .ok (.ldc 84, 2) := by decide +kernel
theorem dX10_why_11 : decode cX10_why 11 = .ok (.ireturn, 1) := by decide +kernel
theorem dX10_why_12 : decode cX10_why 12 = .ok (.aload_n 0, 1) := by decide +kernel
theorem dX10_why_13 : decode cX10_why 13 = .ok (.getfield 10, 3) := by decide +kernel
theorem dX10_why_16 : decode cX10_why 16 = .ok (.getfield 262, 3) := by decide +kernel
theorem dX10_why_19 : decode cX10_why 19 = .ok (.iload_n 1, 1) := by decide +kernel
theorem dX10_why_20 : decode cX10_why 20 = .ok (.aaload, 1) := by decide +kernel
theorem dX10_why_21 : decode cX10_why 21 = .ok (.astore_n 2, 1) := by decide +kernel
theorem dX10_why_22 : decode cX10_why 22 = .ok (.aload_n 2, 1) := by decide +kernel
theorem dX10_why_23 : decode cX10_why 23 = .ok (.ifnonnull 8, 3) := by decide +kernel
theorem dX10_why_26 : decode cX10_why 26 = .ok (.ldc 193, 2) := by decide +kernel
theorem dX10_why_28 : decode cX10_why 28 = .ok (.goto 7, 3) := by decide +kernel
theorem dX10_why_31 : decode cX10_why 31 = .ok (.aload_n 2, 1) := by decide +kernel
theorem dX10_why_32 : decode cX10_why 32 = .ok (.getfield 265, 3) := by decide +kernel
theorem dX10_why_35 : decode cX10_why 35 = .ok (.ireturn, 1) := by decide +kernel
theorem dX10_sheet_0 : decode cX10_sheet 0 = .ok (.iload_n 1, 1) := by decide +kernel
theorem dX10_sheet_1 : decode cX10_sheet 1 = .ok (.invokestatic 220, 3) := by decide +kernel
theorem dX10_sheet_4 : decode cX10_sheet 4 = .ok (.ifCond .eq 13, 3) := by decide +kernel
theorem dX10_sheet_7 : decode cX10_sheet 7 = .ok (.iload_n 2, 1) := by decide +kernel
theorem dX10_sheet_8 : decode cX10_sheet 8 = .ok (.iconst (-1), 1) := by decide +kernel
theorem dX10_sheet_9 : decode cX10_sheet 9 = .ok (.if_icmp .lt 8, 3) := by decide +kernel
theorem dX10_sheet_12 : decode cX10_sheet 12 = .ok (.iload_n 2, 1) := by decide +kernel
theorem dX10_sheet_13 : decode cX10_sheet 13 = .ok (.iconst 1, 1) := by decide +kernel
theorem dX10_sheet_14 : decode cX10_sheet 14 = .ok (.if_icmp .le 6, 3) := by decide +kernel
theorem dX10_sheet_17 : decode cX10_sheet 17 = .ok (.ldc 84, 2) := by decide +kernel
theorem dX10_sheet_19 : decode cX10_sheet 19 = .ok (.ireturn, 1) := by decide +kernel
theorem dX10_sheet_20 : decode cX10_sheet 20 = .ok (.iload_n 2, 1) := by decide +kernel
theorem dX10_sheet_21 : decode cX10_sheet 21 = .ok (.iconst (-1), 1) := by decide +kernel
theorem dX10_sheet_22 : decode cX10_sheet 22 = .ok (.if_icmp .ne 16, 3) := by decide +kernel
theorem dX10_sheet_25 : decode cX10_sheet 25 = .ok (.aload_n 0, 1) := by decide +kernel
theorem dX10_sheet_26 : decode cX10_sheet 26 = .ok (.getfield 52, 3) := by decide +kernel
theorem dX10_sheet_29 : decode cX10_sheet 29 = .ok (.iload_n 1, 1) := by decide +kernel
theorem dX10_sheet_30 : decode cX10_sheet 30 = .ok (.aaload, 1) := by decide +kernel
theorem dX10_sheet_31 : decode cX10_sheet 31 = .ok (.iconst (-1), 1) := by decide +kernel
theorem dX10_sheet_32 : decode cX10_sheet 32 = .ok (.iconst 0, 1) := by decide +kernel
theorem dX10_sheet_33 : decode cX10_sheet 33 = .ok (.invokevirtual 268, 3) := by decide +kernel
theorem dX10_sheet_36 : decode cX10_sheet 36 = .ok (.iconst 0, 1) := by decide +kernel
theorem dX10_sheet_37 : decode cX10_sheet 37 = .ok (.ireturn, 1) := by decide +kernel
theorem dX10_sheet_38 : decode cX10_sheet 38 = .ok (.iload_n 3, 1) := by decide +kernel
theorem dX10_sheet_39 : decode cX10_sheet 39 = .ok (.bipush 24, 2) := by decide +kernel
theorem dX10_sheet_41 : decode cX10_sheet 41 = .ok (.if_icmp .le 6, 3) := by decide +kernel
theorem dX10_sheet_44 : decode cX10_sheet 44 = .ok (.ldc 84, 2) := by decide +kernel
theorem dX10_sheet_46 : decode cX10_sheet 46 = .ok (.ireturn, 1) := by decide +kernel
theorem dX10_sheet_47 : decode cX10_sheet 47 = .ok (.iload_n 3, 1) := by decide +kernel
theorem dX10_sheet_48 : decode cX10_sheet 48 = .ok (.ifCond .ge 7, 3) := by decide +kernel
theorem dX10_sheet_51 : decode cX10_sheet 51 = .ok (.ldc_w 271, 3) := by decide +kernel
theorem dX10_sheet_54 : decode cX10_sheet 54 = .ok (.ireturn, 1) := by decide +kernel
theorem dX10_sheet_55 : decode cX10_sheet 55 = .ok (.aload_n 0, 1) := by decide +kernel
theorem dX10_sheet_56 : decode cX10_sheet 56 = .ok (.getfield 52, 3) := by decide +kernel
theorem dX10_sheet_59 : decode cX10_sheet 59 = .ok (.iload_n 1, 1) := by decide +kernel
theorem dX10_sheet_60 : decode cX10_sheet 60 = .ok (.aaload, 1) := by decide +kernel
theorem dX10_sheet_61 : decode cX10_sheet 61 = .ok (.iload_n 2, 1) := by decide +kernel
theorem dX10_sheet_62 : decode cX10_sheet 62 = .ok (.iload_n 3, 1) := by decide +kernel
theorem dX10_sheet_63 : decode cX10_sheet 63 = .ok (.invokevirtual 268, 3) := by decide +kernel
theorem dX10_sheet_66 : decode cX10_sheet 66 = .ok (.iload_n 3, 1) := by decide +kernel
theorem dX10_sheet_67 : decode cX10_sheet 67 = .ok (.ireturn, 1) := by decide +kernel
theorem dX10_mark_0 : decode cX10_mark 0 = .ok (.iload_n 1, 1) := by decide +kernel
theorem dX10_mark_1 : decode cX10_mark 1 = .ok (.invokestatic 220, 3) := by decide +kernel
theorem dX10_mark_4 : decode cX10_mark 4 = .ok (.ifCond .ne 6, 3) := by decide +kernel
theorem dX10_mark_7 : decode cX10_mark 7 = .ok (.ldc 84, 2) := by decide +kernel
theorem dX10_mark_9 : decode cX10_mark 9 = .ok (.ireturn, 1) := by decide +kernel
theorem dX10_mark_10 : decode cX10_mark 10 = .ok (.aload_n 0, 1) := by decide +kernel
theorem dX10_mark_11 : decode cX10_mark 11 = .ok (.getfield 52, 3) := by decide +kernel
theorem dX10_mark_14 : decode cX10_mark 14 = .ok (.iload_n 1, 1) := by decide +kernel
theorem dX10_mark_15 : decode cX10_mark 15 = .ok (.aaload, 1) := by decide +kernel
theorem dX10_mark_16 : decode cX10_mark 16 = .ok (.astore 4, 2) := by decide +kernel
theorem dX10_mark_18 : decode cX10_mark 18 = .ok (.aload 4, 2) := by decide +kernel
theorem dX10_mark_20 : decode cX10_mark 20 = .ok (.getfield 223, 3) := by decide +kernel
theorem dX10_mark_23 : decode cX10_mark 23 = .ok (.iconst (-1), 1) := by decide +kernel
theorem dX10_mark_24 : decode cX10_mark 24 = .ok (.if_icmp .ne 6, 3) := by decide +kernel
theorem dX10_mark_27 : decode cX10_mark 27 = .ok (.ldc 226, 2) := by decide +kernel
theorem dX10_mark_29 : decode cX10_mark 29 = .ok (.ireturn, 1) := by decide +kernel
theorem dX10_mark_30 : decode cX10_mark 30 = .ok (.aload 4, 2) := by decide +kernel
theorem dX10_mark_32 : decode cX10_mark 32 = .ok (.iload_n 2, 1) := by decide +kernel
theorem dX10_mark_33 : decode cX10_mark 33 = .ok (.invokevirtual 272, 3) := by decide +kernel
theorem dX10_mark_36 : decode cX10_mark 36 = .ok (.ifCond .ne 7, 3) := by decide +kernel
theorem dX10_mark_39 : decode cX10_mark 39 = .ok (.ldc_w 273, 3) := by decide +kernel
theorem dX10_mark_42 : decode cX10_mark 42 = .ok (.ireturn, 1) := by decide +kernel
theorem dX10_mark_43 : decode cX10_mark 43 = .ok (.aload 4, 2) := by decide +kernel
theorem dX10_mark_45 : decode cX10_mark 45 = .ok (.getfield 223, 3) := by decide +kernel
theorem dX10_mark_48 : decode cX10_mark 48 = .ok (.ifCond .ne 23, 3) := by decide +kernel
theorem dX10_mark_51 : decode cX10_mark 51 = .ok (.iload_n 3, 1) := by decide +kernel
theorem dX10_mark_52 : decode cX10_mark 52 = .ok (.ldc 193, 2) := by decide +kernel
theorem dX10_mark_54 : decode cX10_mark 54 = .ok (.if_icmp .ne 6, 3) := by decide +kernel
theorem dX10_mark_57 : decode cX10_mark 57 = .ok (.ldc 139, 2) := by decide +kernel
theorem dX10_mark_59 : decode cX10_mark 59 = .ok (.ireturn, 1) := by decide +kernel
theorem dX10_mark_60 : decode cX10_mark 60 = .ok (.aload 4, 2) := by decide +kernel
theorem dX10_mark_62 : decode cX10_mark 62 = .ok (.getfield 274, 3) := by decide +kernel
theorem dX10_mark_65 : decode cX10_mark 65 = .ok (.iload_n 2, 1) := by decide +kernel
theorem dX10_mark_66 : decode cX10_mark 66 = .ok (.iload_n 3, 1) := by decide +kernel
theorem dX10_mark_67 : decode cX10_mark 67 = .ok (.i2s, 1) := by decide +kernel
theorem dX10_mark_68 : decode cX10_mark 68 = .ok (.iastore, 1) := by decide +kernel
theorem dX10_mark_69 : decode cX10_mark 69 = .ok (.iconst 1, 1) := by decide +kernel
theorem dX10_mark_70 : decode cX10_mark 70 = .ok (.ireturn, 1) := by decide +kernel
theorem dX10_mark_71 : decode cX10_mark 71 = .ok (.iload_n 3, 1) := by decide +kernel
theorem dX10_mark_72 : decode cX10_mark 72 = .ok (.ldc 193, 2) := by decide +kernel
theorem dX10_mark_74 : decode cX10_mark 74 = .ok (.if_icmp .eq 20, 3) := by decide +kernel
theorem dX10_mark_77 : decode cX10_mark 77 = .ok (.iload_n 3, 1) := by decide +kernel
theorem dX10_mark_78 : decode cX10_mark 78 = .ok (.ldc_w 277, 3) := by decide +kernel
theorem dX10_mark_81 : decode cX10_mark 81 = .ok (.if_icmp .lt 10, 3) := by decide +kernel
theorem dX10_mark_84 : decode cX10_mark 84 = .ok (.iload_n 3, 1) := by decide +kernel
theorem dX10_mark_85 : decode cX10_mark 85 = .ok (.ldc_w 278, 3) := by decide +kernel
theorem dX10_mark_88 : decode cX10_mark 88 = .ok (.if_icmp .le 6, 3) := by decide +kernel
theorem dX10_mark_91 : decode cX10_mark 91 = .ok (.ldc 84, 2) := by decide +kernel
theorem dX10_mark_93 : decode cX10_mark 93 = .ok (.ireturn, 1) := by decide +kernel
theorem dX10_mark_94 : decode cX10_mark 94 = .ok (.aload 4, 2) := by decide +kernel
theorem dX10_mark_96 : decode cX10_mark 96 = .ok (.getfield 274, 3) := by decide +kernel
theorem dX10_mark_99 : decode cX10_mark 99 = .ok (.iload_n 2, 1) := by decide +kernel
theorem dX10_mark_100 : decode cX10_mark 100 = .ok (.iload_n 3, 1) := by decide +kernel
theorem dX10_mark_101 : decode cX10_mark 101 = .ok (.iastore, 1) := by decide +kernel
theorem dX10_mark_102 : decode cX10_mark 102 = .ok (.iconst 1, 1) := by decide +kernel
theorem dX10_mark_103 : decode cX10_mark 103 = .ok (.ireturn, 1) := by decide +kernel
theorem dX10_pour_0 : decode cX10_pour 0 = .ok (.iload_n 1, 1) := by decide +kernel
theorem dX10_pour_1 : decode cX10_pour 1 = .ok (.invokestatic 220, 3) := by decide +kernel
theorem dX10_pour_4 : decode cX10_pour 4 = .ok (.ifCond .ne 6, 3) := by decide +kernel
theorem dX10_pour_7 : decode cX10_pour 7 = .ok (.ldc 84, 2) := by decide +kernel
theorem dX10_pour_9 : decode cX10_pour 9 = .ok (.ireturn, 1) := by decide +kernel
theorem dX10_pour_10 : decode cX10_pour 10 = .ok (.aload_n 0, 1) := by decide +kernel
theorem dX10_pour_11 : decode cX10_pour 11 = .ok (.getfield 52, 3) := by decide +kernel
theorem dX10_pour_14 : decode cX10_pour 14 = .ok (.iload_n 1, 1) := by decide +kernel
theorem dX10_pour_15 : decode cX10_pour 15 = .ok (.aaload, 1) := by decide +kernel
theorem dX10_pour_16 : decode cX10_pour 16 = .ok (.astore_n 2, 1) := by decide +kernel
theorem dX10_pour_17 : decode cX10_pour 17 = .ok (.aload_n 2, 1) := by decide +kernel
theorem dX10_pour_18 : decode cX10_pour 18 = .ok (.getfield 223, 3) := by decide +kernel
theorem dX10_pour_21 : decode cX10_pour 21 = .ok (.iconst (-1), 1) := by decide +kernel
theorem dX10_pour_22 : decode cX10_pour 22 = .ok (.if_icmp .ne 6, 3) := by decide +kernel
theorem dX10_pour_25 : decode cX10_pour 25 = .ok (.ldc 226, 2) := by decide +kernel
theorem dX10_pour_27 : decode cX10_pour 27 = .ok (.ireturn, 1) := by decide +kernel
theorem dX10_pour_28 : decode cX10_pour 28 = .ok (.iconst 0, 1) := by decide +kernel
theorem dX10_pour_29 : decode cX10_pour 29 = .ok (.istore_n 3, 1) := by decide +kernel
theorem dX10_pour_30 : decode cX10_pour 30 = .ok (.iconst 0, 1) := by decide +kernel
theorem dX10_pour_31 : decode cX10_pour 31 = .ok (.istore 4, 2) := by decide +kernel
theorem dX10_pour_33 : decode cX10_pour 33 = .ok (.iload 4, 2) := by decide +kernel
theorem dX10_pour_35 : decode cX10_pour 35 = .ok (.aload_n 2, 1) := by decide +kernel
theorem dX10_pour_36 : decode cX10_pour 36 = .ok (.getfield 279, 3) := by decide +kernel
theorem dX10_pour_39 : decode cX10_pour 39 = .ok (.if_icmp .ge 87, 3) := by decide +kernel
theorem dX10_pour_42 : decode cX10_pour 42 = .ok (.iload 4, 2) := by decide +kernel
theorem dX10_pour_44 : decode cX10_pour 44 = .ok (.aload_n 0, 1) := by decide +kernel
theorem dX10_pour_45 : decode cX10_pour 45 = .ok (.getfield 10, 3) := by decide +kernel
theorem dX10_pour_48 : decode cX10_pour 48 = .ok (.getfield 85, 3) := by decide +kernel
theorem dX10_pour_51 : decode cX10_pour 51 = .ok (.getfield 89, 3) := by decide +kernel
theorem dX10_pour_54 : decode cX10_pour 54 = .ok (.if_icmp .ge 72, 3) := by decide +kernel
theorem dX10_pour_57 : decode cX10_pour 57 = .ok (.aload_n 2, 1) := by decide +kernel
theorem dX10_pour_58 : decode cX10_pour 58 = .ok (.getfield 274, 3) := by decide +kernel
theorem dX10_pour_61 : decode cX10_pour 61 = .ok (.iload 4, 2) := by decide +kernel
theorem dX10_pour_63 : decode cX10_pour 63 = .ok (.iaload, 1) := by decide +kernel
theorem dX10_pour_64 : decode cX10_pour 64 = .ok (.sipush 999, 3) := by decide +kernel
theorem dX10_pour_67 : decode cX10_pour 67 = .ok (.invokestatic 282, 3) := by decide +kernel
theorem dX10_pour_70 : decode cX10_pour 70 = .ok (.istore 5, 2) := by decide +kernel
theorem dX10_pour_72 : decode cX10_pour 72 = .ok (.aload_n 2, 1) := by decide +kernel
theorem dX10_pour_73 : decode cX10_pour 73 = .ok (.getfield 274, 3) := by decide +kernel
theorem dX10_pour_76 : decode cX10_pour 76 = .ok (.iload 4, 2) := by decide +kernel
theorem dX10_pour_78 : decode cX10_pour 78 = .ok (.iaload, 1) := by decide +kernel
theorem dX10_pour_79 : decode cX10_pour 79 = .ok (.ldc 193, 2) := by decide +kernel
theorem dX10_pour_81 : decode cX10_pour 81 = .ok (.if_icmp .eq 39, 3) := by decide +kernel
theorem dX10_pour_84 : decode cX10_pour 84 = .ok (.iload 5, 2) := by decide +kernel
theorem dX10_pour_86 : decode cX10_pour 86 = .ok (.aload_n 0, 1) := by decide +kernel
theorem dX10_pour_87 : decode cX10_pour 87 = .ok (.getfield 10, 3) := by decide +kernel
theorem dX10_pour_90 : decode cX10_pour 90 = .ok (.getfield 85, 3) := by decide +kernel
theorem dX10_pour_93 : decode cX10_pour 93 = .ok (.getfield 103, 3) := by decide +kernel
theorem dX10_pour_96 : decode cX10_pour 96 = .ok (.iload 4, 2) := by decide +kernel
theorem dX10_pour_98 : decode cX10_pour 98 = .ok (.iaload, 1) := by decide +kernel
theorem dX10_pour_99 : decode cX10_pour 99 = .ok (.if_icmp .eq 21, 3) := by decide +kernel
theorem dX10_pour_102 : decode cX10_pour 102 = .ok (.aload_n 0, 1) := by decide +kernel
theorem dX10_pour_103 : decode cX10_pour 103 = .ok (.getfield 10, 3) := by decide +kernel
theorem dX10_pour_106 : decode cX10_pour 106 = .ok (.getfield 85, 3) := by decide +kernel
theorem dX10_pour_109 : decode cX10_pour 109 = .ok (.getfield 103, 3) := by decide +kernel
theorem dX10_pour_112 : decode cX10_pour 112 = .ok (.iload 4, 2) := by decide +kernel
theorem dX10_pour_114 : decode cX10_pour 114 = .ok (.iload 5, 2) := by decide +kernel
theorem dX10_pour_116 : decode cX10_pour 116 = .ok (.iastore, 1) := by decide +kernel
theorem dX10_pour_117 : decode cX10_pour 117 = .ok (.iinc 3 1, 3) := by decide +kernel
theorem dX10_pour_120 : decode cX10_pour 120 = .ok (.iinc 4 1, 3) := by decide +kernel
theorem dX10_pour_123 : decode cX10_pour 123 = .ok (.goto (-90), 3) := by decide +kernel
theorem dX10_pour_126 : decode cX10_pour 126 = .ok (.iload_n 3, 1) := by decide +kernel
theorem dX10_pour_127 : decode cX10_pour 127 = .ok (.ireturn, 1) := by decide +kernel
theorem dX10_reads_0 : decode cX10_reads 0 = .ok (.iload_n 1, 1) := by decide +kernel
theorem dX10_reads_1 : decode cX10_reads 1 = .ok (.invokestatic 220, 3) := by decide +kernel
theorem dX10_reads_4 : decode cX10_reads 4 = .ok (.ifCond .ne 6, 3) := by decide +kernel
theorem dX10_reads_7 : decode cX10_reads 7 = .ok (.ldc 84, 2) := by decide +kernel
theorem dX10_reads_9 : decode cX10_reads 9 = .ok (.ireturn, 1) := by decide +kernel
theorem dX10_reads_10 : decode cX10_reads 10 = .ok (.aload_n 0, 1) := by decide +kernel
theorem dX10_reads_11 : decode cX10_reads 11 = .ok (.getfield 52, 3) := by decide +kernel
theorem dX10_reads_14 : decode cX10_reads 14 = .ok (.iload_n 1, 1) := by decide +kernel
theorem dX10_reads_15 : decode cX10_reads 15 = .ok (.aaload, 1) := by decide +kernel
theorem dX10_reads_16 : decode cX10_reads 16 = .ok (.astore_n 2, 1) := by decide +kernel
theorem dX10_reads_17 : decode cX10_reads 17 = .ok (.aload_n 2, 1) := by decide +kernel
theorem dX10_reads_18 : decode cX10_reads 18 = .ok (.getfield 223, 3) := by decide +kernel
theorem dX10_reads_21 : decode cX10_reads 21 = .ok (.iconst (-1), 1) := by decide +kernel
theorem dX10_reads_22 : decode cX10_reads 22 = .ok (.if_icmp .ne 6, 3) := by decide +kernel
theorem dX10_reads_25 : decode cX10_reads 25 = .ok (.ldc 226, 2) := by decide +kernel
theorem dX10_reads_27 : decode cX10_reads 27 = .ok (.ireturn, 1) := by decide +kernel
theorem dX10_reads_28 : decode cX10_reads 28 = .ok (.iconst 0, 1) := by decide +kernel
theorem dX10_reads_29 : decode cX10_reads 29 = .ok (.istore_n 3, 1) := by decide +kernel
theorem dX10_reads_30 : decode cX10_reads 30 = .ok (.iload_n 3, 1) := by decide +kernel
theorem dX10_reads_31 : decode cX10_reads 31 = .ok (.aload_n 2, 1) := by decide +kernel
theorem dX10_reads_32 : decode cX10_reads 32 = .ok (.getfield 279, 3) := by decide +kernel
theorem dX10_reads_35 : decode cX10_reads 35 = .ok (.if_icmp .ge 69, 3) := by decide +kernel
theorem dX10_reads_38 : decode cX10_reads 38 = .ok (.iload_n 3, 1) := by decide +kernel
theorem dX10_reads_39 : decode cX10_reads 39 = .ok (.aload_n 0, 1) := by decide +kernel
theorem dX10_reads_40 : decode cX10_reads 40 = .ok (.getfield 10, 3) := by decide +kernel
theorem dX10_reads_43 : decode cX10_reads 43 = .ok (.getfield 126, 3) := by decide +kernel
theorem dX10_reads_46 : decode cX10_reads 46 = .ok (.getfield 170, 3) := by decide +kernel
theorem dX10_reads_49 : decode cX10_reads 49 = .ok (.if_icmp .ge 28, 3) := by decide +kernel
theorem dX10_reads_52 : decode cX10_reads 52 = .ok (.aload_n 2, 1) := by decide +kernel
theorem dX10_reads_53 : decode cX10_reads 53 = .ok (.getfield 274, 3) := by decide +kernel
theorem dX10_reads_56 : decode cX10_reads 56 = .ok (.iload_n 3, 1) := by decide +kernel
theorem dX10_reads_57 : decode cX10_reads 57 = .ok (.iaload, 1) := by decide +kernel
theorem dX10_reads_58 : decode cX10_reads 58 = .ok (.aload_n 0, 1) := by decide +kernel
theorem dX10_reads_59 : decode cX10_reads 59 = .ok (.getfield 10, 3) := by decide +kernel
theorem dX10_reads_62 : decode cX10_reads 62 = .ok (.getfield 126, 3) := by decide +kernel
theorem dX10_reads_65 : decode cX10_reads 65 = .ok (.getfield 179, 3) := by decide +kernel
theorem dX10_reads_68 : decode cX10_reads 68 = .ok (.iload_n 3, 1) := by decide +kernel
theorem dX10_reads_69 : decode cX10_reads 69 = .ok (.iaload, 1) := by decide +kernel
theorem dX10_reads_70 : decode cX10_reads 70 = .ok (.if_icmp .ne 7, 3) := by decide +kernel
theorem dX10_reads_73 : decode cX10_reads 73 = .ok (.iconst 1, 1) := by decide +kernel
theorem dX10_reads_74 : decode cX10_reads 74 = .ok (.goto 4, 3) := by decide +kernel
theorem dX10_reads_77 : decode cX10_reads 77 = .ok (.iconst 0, 1) := by decide +kernel
theorem dX10_reads_78 : decode cX10_reads 78 = .ok (.istore 4, 2) := by decide +kernel
theorem dX10_reads_80 : decode cX10_reads 80 = .ok (.aload_n 2, 1) := by decide +kernel
theorem dX10_reads_81 : decode cX10_reads 81 = .ok (.getfield 274, 3) := by decide +kernel
theorem dX10_reads_84 : decode cX10_reads 84 = .ok (.iload_n 3, 1) := by decide +kernel
theorem dX10_reads_85 : decode cX10_reads 85 = .ok (.iaload, 1) := by decide +kernel
theorem dX10_reads_86 : decode cX10_reads 86 = .ok (.ldc 193, 2) := by decide +kernel
theorem dX10_reads_88 : decode cX10_reads 88 = .ok (.if_icmp .eq 10, 3) := by decide +kernel
theorem dX10_reads_91 : decode cX10_reads 91 = .ok (.iload 4, 2) := by decide +kernel
theorem dX10_reads_93 : decode cX10_reads 93 = .ok (.ifCond .ne 5, 3) := by decide +kernel
theorem dX10_reads_96 : decode cX10_reads 96 = .ok (.iload_n 3, 1) := by decide +kernel
theorem dX10_reads_97 : decode cX10_reads 97 = .ok (.ireturn, 1) := by decide +kernel
theorem dX10_reads_98 : decode cX10_reads 98 = .ok (.iinc 3 1, 3) := by decide +kernel
theorem dX10_reads_101 : decode cX10_reads 101 = .ok (.goto (-71), 3) := by decide +kernel
theorem dX10_reads_104 : decode cX10_reads 104 = .ok (.ldc 193, 2) := by decide +kernel
theorem dX10_reads_106 : decode cX10_reads 106 = .ok (.ireturn, 1) := by decide +kernel
theorem dX10_copy_0 : decode cX10_copy 0 = .ok (.iload_n 1, 1) := by decide +kernel
theorem dX10_copy_1 : decode cX10_copy 1 = .ok (.invokestatic 220, 3) := by decide +kernel
theorem dX10_copy_4 : decode cX10_copy 4 = .ok (.ifCond .eq 10, 3) := by decide +kernel
theorem dX10_copy_7 : decode cX10_copy 7 = .ok (.iload_n 3, 1) := by decide +kernel
theorem dX10_copy_8 : decode cX10_copy 8 = .ok (.invokestatic 220, 3) := by decide +kernel
theorem dX10_copy_11 : decode cX10_copy 11 = .ok (.ifCond .ne 6, 3) := by decide +kernel
theorem dX10_copy_14 : decode cX10_copy 14 = .ok (.ldc 84, 2) := by decide +kernel
theorem dX10_copy_16 : decode cX10_copy 16 = .ok (.ireturn, 1) := by decide +kernel
theorem dX10_copy_17 : decode cX10_copy 17 = .ok (.aload_n 0, 1) := by decide +kernel
theorem dX10_copy_18 : decode cX10_copy 18 = .ok (.getfield 52, 3) := by decide +kernel
theorem dX10_copy_21 : decode cX10_copy 21 = .ok (.iload_n 1, 1) := by decide +kernel
theorem dX10_copy_22 : decode cX10_copy 22 = .ok (.aaload, 1) := by decide +kernel
theorem dX10_copy_23 : decode cX10_copy 23 = .ok (.astore 6, 2) := by decide +kernel
theorem dX10_copy_25 : decode cX10_copy 25 = .ok (.aload_n 0, 1) := by decide +kernel
theorem dX10_copy_26 : decode cX10_copy 26 = .ok (.getfield 52, 3) := by decide +kernel
theorem dX10_copy_29 : decode cX10_copy 29 = .ok (.iload_n 3, 1) := by decide +kernel
theorem dX10_copy_30 : decode cX10_copy 30 = .ok (.aaload, 1) := by decide +kernel
theorem dX10_copy_31 : decode cX10_copy 31 = .ok (.astore 7, 2) := by decide +kernel
theorem dX10_copy_33 : decode cX10_copy 33 = .ok (.aload 6, 2) := by decide +kernel
theorem dX10_copy_35 : decode cX10_copy 35 = .ok (.getfield 223, 3) := by decide +kernel
theorem dX10_copy_38 : decode cX10_copy 38 = .ok (.iconst (-1), 1) := by decide +kernel
theorem dX10_copy_39 : decode cX10_copy 39 = .ok (.if_icmp .eq 12, 3) := by decide +kernel
theorem dX10_copy_42 : decode cX10_copy 42 = .ok (.aload 7, 2) := by decide +kernel
theorem dX10_copy_44 : decode cX10_copy 44 = .ok (.getfield 223, 3) := by decide +kernel
theorem dX10_copy_47 : decode cX10_copy 47 = .ok (.iconst (-1), 1) := by decide +kernel
theorem dX10_copy_48 : decode cX10_copy 48 = .ok (.if_icmp .ne 6, 3) := by decide +kernel
theorem dX10_copy_51 : decode cX10_copy 51 = .ok (.ldc 226, 2) := by decide +kernel
theorem dX10_copy_53 : decode cX10_copy 53 = .ok (.ireturn, 1) := by decide +kernel
theorem dX10_copy_54 : decode cX10_copy 54 = .ok (.aload 6, 2) := by decide +kernel
theorem dX10_copy_56 : decode cX10_copy 56 = .ok (.getfield 223, 3) := by decide +kernel
theorem dX10_copy_59 : decode cX10_copy 59 = .ok (.aload 7, 2) := by decide +kernel
theorem dX10_copy_61 : decode cX10_copy 61 = .ok (.getfield 223, 3) := by decide +kernel
theorem dX10_copy_64 : decode cX10_copy 64 = .ok (.if_icmp .eq 6, 3) := by decide +kernel
theorem dX10_copy_67 : decode cX10_copy 67 = .ok (.ldc 139, 2) := by decide +kernel
theorem dX10_copy_69 : decode cX10_copy 69 = .ok (.ireturn, 1) := by decide +kernel
theorem dX10_copy_70 : decode cX10_copy 70 = .ok (.aload 6, 2) := by decide +kernel
theorem dX10_copy_72 : decode cX10_copy 72 = .ok (.iload_n 2, 1) := by decide +kernel
theorem dX10_copy_73 : decode cX10_copy 73 = .ok (.iload 5, 2) := by decide +kernel
theorem dX10_copy_75 : decode cX10_copy 75 = .ok (.invokevirtual 285, 3) := by decide +kernel
theorem dX10_copy_78 : decode cX10_copy 78 = .ok (.ifCond .eq 15, 3) := by decide +kernel
theorem dX10_copy_81 : decode cX10_copy 81 = .ok (.aload 7, 2) := by decide +kernel
theorem dX10_copy_83 : decode cX10_copy 83 = .ok (.iload 4, 2) := by decide +kernel
theorem dX10_copy_85 : decode cX10_copy 85 = .ok (.iload 5, 2) := by decide +kernel
theorem dX10_copy_87 : decode cX10_copy 87 = .ok (.invokevirtual 285, 3) := by decide +kernel
theorem dX10_copy_90 : decode cX10_copy 90 = .ok (.ifCond .ne 7, 3) := by decide +kernel
theorem dX10_copy_93 : decode cX10_copy 93 = .ok (.ldc_w 273, 3) := by decide +kernel
theorem dX10_copy_96 : decode cX10_copy 96 = .ok (.ireturn, 1) := by decide +kernel
theorem dX10_copy_97 : decode cX10_copy 97 = .ok (.aload 6, 2) := by decide +kernel
theorem dX10_copy_99 : decode cX10_copy 99 = .ok (.getfield 274, 3) := by decide +kernel
theorem dX10_copy_102 : decode cX10_copy 102 = .ok (.iload_n 2, 1) := by decide +kernel
theorem dX10_copy_103 : decode cX10_copy 103 = .ok (.aload 7, 2) := by decide +kernel
theorem dX10_copy_105 : decode cX10_copy 105 = .ok (.getfield 274, 3) := by decide +kernel
theorem dX10_copy_108 : decode cX10_copy 108 = .ok (.iload 4, 2) := by decide +kernel
theorem dX10_copy_110 : decode cX10_copy 110 = .ok (.iload 5, 2) := by decide +kernel
theorem dX10_copy_112 : decode cX10_copy 112 = .ok (.invokestatic 288, 3) := by decide +kernel
theorem dX10_copy_115 : decode cX10_copy 115 = .ok (.iload 5, 2) := by decide +kernel
theorem dX10_copy_117 : decode cX10_copy 117 = .ok (.ireturn, 1) := by decide +kernel
theorem dX10_lay_0 : decode cX10_lay 0 = .ok (.iload_n 1, 1) := by decide +kernel
theorem dX10_lay_1 : decode cX10_lay 1 = .ok (.invokestatic 294, 3) := by decide +kernel
theorem dX10_lay_4 : decode cX10_lay 4 = .ok (.ifCond .eq 12, 3) := by decide +kernel
theorem dX10_lay_7 : decode cX10_lay 7 = .ok (.iload_n 2, 1) := by decide +kernel
theorem dX10_lay_8 : decode cX10_lay 8 = .ok (.ifCond .lt 8, 3) := by decide +kernel
theorem dX10_lay_11 : decode cX10_lay 11 = .ok (.iload_n 2, 1) := by decide +kernel
theorem dX10_lay_12 : decode cX10_lay 12 = .ok (.iconst 3, 1) := by decide +kernel
theorem dX10_lay_13 : decode cX10_lay 13 = .ok (.if_icmp .le 6, 3) := by decide +kernel
theorem dX10_lay_16 : decode cX10_lay 16 = .ok (.ldc 84, 2) := by decide +kernel
theorem dX10_lay_18 : decode cX10_lay 18 = .ok (.ireturn, 1) := by decide +kernel
theorem dX10_lay_19 : decode cX10_lay 19 = .ok (.aload_n 0, 1) := by decide +kernel
theorem dX10_lay_20 : decode cX10_lay 20 = .ok (.getfield 58, 3) := by decide +kernel
theorem dX10_lay_23 : decode cX10_lay 23 = .ok (.iload_n 1, 1) := by decide +kernel
theorem dX10_lay_24 : decode cX10_lay 24 = .ok (.aaload, 1) := by decide +kernel
theorem dX10_lay_25 : decode cX10_lay 25 = .ok (.astore 4, 2) := by decide +kernel
theorem dX10_lay_27 : decode cX10_lay 27 = .ok (.aload 4, 2) := by decide +kernel
theorem dX10_lay_29 : decode cX10_lay 29 = .ok (.getfield 297, 3) := by decide +kernel
theorem dX10_lay_32 : decode cX10_lay 32 = .ok (.istore 5, 2) := by decide +kernel
theorem dX10_lay_34 : decode cX10_lay 34 = .ok (.iload_n 2, 1) := by decide +kernel
theorem dX10_lay_35 : decode cX10_lay 35 = .ok (.iconst 1, 1) := by decide +kernel
theorem dX10_lay_36 : decode cX10_lay 36 = .ok (.if_icmp .ne 36, 3) := by decide +kernel
theorem dX10_lay_39 : decode cX10_lay 39 = .ok (.aload_n 0, 1) := by decide +kernel
theorem dX10_lay_40 : decode cX10_lay 40 = .ok (.getfield 10, 3) := by decide +kernel
theorem dX10_lay_43 : decode cX10_lay 43 = .ok (.getfield 85, 3) := by decide +kernel
theorem dX10_lay_46 : decode cX10_lay 46 = .ok (.iload_n 3, 1) := by decide +kernel
theorem dX10_lay_47 : decode cX10_lay 47 = .ok (.invokevirtual 99, 3) := by decide +kernel
theorem dX10_lay_50 : decode cX10_lay 50 = .ok (.ifCond .ne 6, 3) := by decide +kernel
theorem dX10_lay_53 : decode cX10_lay 53 = .ok (.ldc 84, 2) := by decide +kernel
theorem dX10_lay_55 : decode cX10_lay 55 = .ok (.ireturn, 1) := by decide +kernel
theorem dX10_lay_56 : decode cX10_lay 56 = .ok (.aload 4, 2) := by decide +kernel
theorem dX10_lay_58 : decode cX10_lay 58 = .ok (.aload_n 0, 1) := by decide +kernel
theorem dX10_lay_59 : decode cX10_lay 59 = .ok (.getfield 10, 3) := by decide +kernel
theorem dX10_lay_62 : decode cX10_lay 62 = .ok (.getfield 85, 3) := by decide +kernel
theorem dX10_lay_65 : decode cX10_lay 65 = .ok (.iload_n 3, 1) := by decide +kernel
theorem dX10_lay_66 : decode cX10_lay 66 = .ok (.invokevirtual 300, 3) := by decide +kernel
theorem dX10_lay_69 : decode cX10_lay 69 = .ok (.goto 57, 3) := by decide +kernel
theorem dX10_lay_72 : decode cX10_lay 72 = .ok (.iload_n 2, 1) := by decide +kernel
theorem dX10_lay_73 : decode cX10_lay 73 = .ok (.iconst 2, 1) := by decide +kernel
theorem dX10_lay_74 : decode cX10_lay 74 = .ok (.if_icmp .ne 46, 3) := by decide +kernel
theorem dX10_lay_77 : decode cX10_lay 77 = .ok (.iload_n 3, 1) := by decide +kernel
theorem dX10_lay_78 : decode cX10_lay 78 = .ok (.invokestatic 220, 3) := by decide +kernel
theorem dX10_lay_81 : decode cX10_lay 81 = .ok (.ifCond .ne 6, 3) := by decide +kernel
theorem dX10_lay_84 : decode cX10_lay 84 = .ok (.ldc 84, 2) := by decide +kernel
theorem dX10_lay_86 : decode cX10_lay 86 = .ok (.ireturn, 1) := by decide +kernel
theorem dX10_lay_87 : decode cX10_lay 87 = .ok (.aload_n 0, 1) := by decide +kernel
theorem dX10_lay_88 : decode cX10_lay 88 = .ok (.getfield 52, 3) := by decide +kernel
theorem dX10_lay_91 : decode cX10_lay 91 = .ok (.iload_n 3, 1) := by decide +kernel
theorem dX10_lay_92 : decode cX10_lay 92 = .ok (.aaload, 1) := by decide +kernel
theorem dX10_lay_93 : decode cX10_lay 93 = .ok (.getfield 223, 3) := by decide +kernel
theorem dX10_lay_96 : decode cX10_lay 96 = .ok (.iconst (-1), 1) := by decide +kernel
theorem dX10_lay_97 : decode cX10_lay 97 = .ok (.if_icmp .ne 6, 3) := by decide +kernel
theorem dX10_lay_100 : decode cX10_lay 100 = .ok (.ldc 226, 2) := by decide +kernel
theorem dX10_lay_102 : decode cX10_lay 102 = .ok (.ireturn, 1) := by decide +kernel
theorem dX10_lay_103 : decode cX10_lay 103 = .ok (.aload 4, 2) := by decide +kernel
theorem dX10_lay_105 : decode cX10_lay 105 = .ok (.getfield 304, 3) := by decide +kernel
theorem dX10_lay_108 : decode cX10_lay 108 = .ok (.aload_n 0, 1) := by decide +kernel
theorem dX10_lay_109 : decode cX10_lay 109 = .ok (.getfield 52, 3) := by decide +kernel
theorem dX10_lay_112 : decode cX10_lay 112 = .ok (.iload_n 3, 1) := by decide +kernel
theorem dX10_lay_113 : decode cX10_lay 113 = .ok (.aaload, 1) := by decide +kernel
theorem dX10_lay_114 : decode cX10_lay 114 = .ok (.invokevirtual 308, 3) := by decide +kernel
theorem dX10_lay_117 : decode cX10_lay 117 = .ok (.goto 9, 3) := by decide +kernel
theorem dX10_lay_120 : decode cX10_lay 120 = .ok (.aload 4, 2) := by decide +kernel
theorem dX10_lay_122 : decode cX10_lay 122 = .ok (.iload_n 3, 1) := by decide +kernel
theorem dX10_lay_123 : decode cX10_lay 123 = .ok (.putfield 312, 3) := by decide +kernel
theorem dX10_lay_126 : decode cX10_lay 126 = .ok (.aload 4, 2) := by decide +kernel
theorem dX10_lay_128 : decode cX10_lay 128 = .ok (.iload_n 2, 1) := by decide +kernel
theorem dX10_lay_129 : decode cX10_lay 129 = .ok (.putfield 297, 3) := by decide +kernel
theorem dX10_lay_132 : decode cX10_lay 132 = .ok (.iload 5, 2) := by decide +kernel
theorem dX10_lay_134 : decode cX10_lay 134 = .ok (.ireturn, 1) := by decide +kernel
theorem dX10_ask_0 : decode cX10_ask 0 = .ok (.iload_n 1, 1) := by decide +kernel
theorem dX10_ask_1 : decode cX10_ask 1 = .ok (.invokestatic 294, 3) := by decide +kernel
theorem dX10_ask_4 : decode cX10_ask 4 = .ok (.ifCond .eq 10, 3) := by decide +kernel
theorem dX10_ask_7 : decode cX10_ask 7 = .ok (.iload_n 2, 1) := by decide +kernel
theorem dX10_ask_8 : decode cX10_ask 8 = .ok (.invokestatic 72, 3) := by decide +kernel
theorem dX10_ask_11 : decode cX10_ask 11 = .ok (.ifCond .ne 6, 3) := by decide +kernel
theorem dX10_ask_14 : decode cX10_ask 14 = .ok (.ldc 84, 2) := by decide +kernel
theorem dX10_ask_16 : decode cX10_ask 16 = .ok (.ireturn, 1) := by decide +kernel
theorem dX10_ask_17 : decode cX10_ask 17 = .ok (.aload_n 0, 1) := by decide +kernel
theorem dX10_ask_18 : decode cX10_ask 18 = .ok (.getfield 58, 3) := by decide +kernel
theorem dX10_ask_21 : decode cX10_ask 21 = .ok (.iload_n 1, 1) := by decide +kernel
theorem dX10_ask_22 : decode cX10_ask 22 = .ok (.aaload, 1) := by decide +kernel
theorem dX10_ask_23 : decode cX10_ask 23 = .ok (.astore_n 3, 1) := by decide +kernel
theorem dX10_ask_24 : decode cX10_ask 24 = .ok (.aload_n 3, 1) := by decide +kernel
theorem dX10_ask_25 : decode cX10_ask 25 = .ok (.getfield 297, 3) := by decide +kernel
theorem dX10_ask_28 : decode cX10_ask 28 = .ok (.ifCond .ne 6, 3) := by decide +kernel
theorem dX10_ask_31 : decode cX10_ask 31 = .ok (.ldc 226, 2) := by decide +kernel
theorem dX10_ask_33 : decode cX10_ask 33 = .ok (.ireturn, 1) := by decide +kernel
theorem dX10_ask_34 : decode cX10_ask 34 = .ok (.aload_n 3, 1) := by decide +kernel
theorem dX10_ask_35 : decode cX10_ask 35 = .ok (.getfield 297, 3) := by decide +kernel
theorem dX10_ask_38 : decode cX10_ask 38 = .ok (.iconst 1, 1) := by decide +kernel
theorem dX10_ask_39 : decode cX10_ask 39 = .ok (.if_icmp .ne 14, 3) := by decide +kernel
theorem dX10_ask_42 : decode cX10_ask 42 = .ok (.aload_n 3, 1) := by decide +kernel
theorem dX10_ask_43 : decode cX10_ask 43 = .ok (.getfield 313, 3) := by decide +kernel
theorem dX10_ask_46 : decode cX10_ask 46 = .ok (.iload_n 2, 1) := by decide +kernel
theorem dX10_ask_47 : decode cX10_ask 47 = .ok (.invokestatic 135, 3) := by decide +kernel
theorem dX10_ask_50 : decode cX10_ask 50 = .ok (.ifCond .ne 6, 3) := by decide +kernel
theorem dX10_ask_53 : decode cX10_ask 53 = .ok (.ldc 139, 2) := by decide +kernel
theorem dX10_ask_55 : decode cX10_ask 55 = .ok (.ireturn, 1) := by decide +kernel
theorem dX10_ask_56 : decode cX10_ask 56 = .ok (.aload_n 3, 1) := by decide +kernel
theorem dX10_ask_57 : decode cX10_ask 57 = .ok (.getfield 313, 3) := by decide +kernel
theorem dX10_ask_60 : decode cX10_ask 60 = .ok (.aload_n 3, 1) := by decide +kernel
theorem dX10_ask_61 : decode cX10_ask 61 = .ok (.getfield 316, 3) := by decide +kernel
theorem dX10_ask_64 : decode cX10_ask 64 = .ok (.aload_n 3, 1) := by decide +kernel
theorem dX10_ask_65 : decode cX10_ask 65 = .ok (.getfield 318, 3) := by decide +kernel
theorem dX10_ask_68 : decode cX10_ask 68 = .ok (.invokestatic 123, 3) := by decide +kernel
theorem dX10_ask_71 : decode cX10_ask 71 = .ok (.ireturn, 1) := by decide +kernel
theorem dX10_item_0 : decode cX10_item 0 = .ok (.iload_n 1, 1) := by decide +kernel
theorem dX10_item_1 : decode cX10_item 1 = .ok (.invokestatic 294, 3) := by decide +kernel
theorem dX10_item_4 : decode cX10_item 4 = .ok (.ifCond .ne 6, 3) := by decide +kernel
theorem dX10_item_7 : decode cX10_item 7 = .ok (.ldc 84, 2) := by decide +kernel
theorem dX10_item_9 : decode cX10_item 9 = .ok (.ireturn, 1) := by decide +kernel
theorem dX10_item_10 : decode cX10_item 10 = .ok (.aload_n 0, 1) := by decide +kernel
theorem dX10_item_11 : decode cX10_item 11 = .ok (.getfield 58, 3) := by decide +kernel
theorem dX10_item_14 : decode cX10_item 14 = .ok (.iload_n 1, 1) := by decide +kernel
theorem dX10_item_15 : decode cX10_item 15 = .ok (.aaload, 1) := by decide +kernel
theorem dX10_item_16 : decode cX10_item 16 = .ok (.astore_n 3, 1) := by decide +kernel
theorem dX10_item_17 : decode cX10_item 17 = .ok (.aload_n 3, 1) := by decide +kernel
theorem dX10_item_18 : decode cX10_item 18 = .ok (.getfield 297, 3) := by decide +kernel
theorem dX10_item_21 : decode cX10_item 21 = .ok (.ifCond .ne 6, 3) := by decide +kernel
theorem dX10_item_24 : decode cX10_item 24 = .ok (.ldc 226, 2) := by decide +kernel
theorem dX10_item_26 : decode cX10_item 26 = .ok (.ireturn, 1) := by decide +kernel
theorem dX10_item_27 : decode cX10_item 27 = .ok (.aload_n 3, 1) := by decide +kernel
theorem dX10_item_28 : decode cX10_item 28 = .ok (.getfield 297, 3) := by decide +kernel
theorem dX10_item_31 : decode cX10_item 31 = .ok (.iconst 2, 1) := by decide +kernel
theorem dX10_item_32 : decode cX10_item 32 = .ok (.if_icmp .eq 6, 3) := by decide +kernel
theorem dX10_item_35 : decode cX10_item 35 = .ok (.ldc 139, 2) := by decide +kernel
theorem dX10_item_37 : decode cX10_item 37 = .ok (.ireturn, 1) := by decide +kernel
theorem dX10_item_38 : decode cX10_item 38 = .ok (.aload_n 3, 1) := by decide +kernel
theorem dX10_item_39 : decode cX10_item 39 = .ok (.getfield 304, 3) := by decide +kernel
theorem dX10_item_42 : decode cX10_item 42 = .ok (.iload_n 2, 1) := by decide +kernel
theorem dX10_item_43 : decode cX10_item 43 = .ok (.invokevirtual 272, 3) := by decide +kernel
theorem dX10_item_46 : decode cX10_item 46 = .ok (.ifCond .ne 7, 3) := by decide +kernel
theorem dX10_item_49 : decode cX10_item 49 = .ok (.ldc_w 273, 3) := by decide +kernel
theorem dX10_item_52 : decode cX10_item 52 = .ok (.ireturn, 1) := by decide +kernel
theorem dX10_item_53 : decode cX10_item 53 = .ok (.aload_n 3, 1) := by decide +kernel
theorem dX10_item_54 : decode cX10_item 54 = .ok (.getfield 304, 3) := by decide +kernel
theorem dX10_item_57 : decode cX10_item 57 = .ok (.getfield 274, 3) := by decide +kernel
theorem dX10_item_60 : decode cX10_item 60 = .ok (.iload_n 2, 1) := by decide +kernel
theorem dX10_item_61 : decode cX10_item 61 = .ok (.iaload, 1) := by decide +kernel
theorem dX10_item_62 : decode cX10_item 62 = .ok (.istore 4, 2) := by decide +kernel
theorem dX10_item_64 : decode cX10_item 64 = .ok (.iload 4, 2) := by decide +kernel
theorem dX10_item_66 : decode cX10_item 66 = .ok (.ldc 193, 2) := by decide +kernel
theorem dX10_item_68 : decode cX10_item 68 = .ok (.if_icmp .ne 8, 3) := by decide +kernel
theorem dX10_item_71 : decode cX10_item 71 = .ok (.ldc 139, 2) := by decide +kernel
theorem dX10_item_73 : decode cX10_item 73 = .ok (.goto 5, 3) := by decide +kernel
theorem dX10_item_76 : decode cX10_item 76 = .ok (.iload 4, 2) := by decide +kernel
theorem dX10_item_78 : decode cX10_item 78 = .ok (.ireturn, 1) := by decide +kernel
theorem dX10_rest_0 : decode cX10_rest 0 = .ok (.iload_n 1, 1) := by decide +kernel
theorem dX10_rest_1 : decode cX10_rest 1 = .ok (.invokestatic 294, 3) := by decide +kernel
theorem dX10_rest_4 : decode cX10_rest 4 = .ok (.ifCond .ne 6, 3) := by decide +kernel
theorem dX10_rest_7 : decode cX10_rest 7 = .ok (.ldc 84, 2) := by decide +kernel
theorem dX10_rest_9 : decode cX10_rest 9 = .ok (.ireturn, 1) := by decide +kernel
theorem dX10_rest_10 : decode cX10_rest 10 = .ok (.aload_n 0, 1) := by decide +kernel
theorem dX10_rest_11 : decode cX10_rest 11 = .ok (.getfield 58, 3) := by decide +kernel
theorem dX10_rest_14 : decode cX10_rest 14 = .ok (.iload_n 1, 1) := by decide +kernel
theorem dX10_rest_15 : decode cX10_rest 15 = .ok (.aaload, 1) := by decide +kernel
theorem dX10_rest_16 : decode cX10_rest 16 = .ok (.astore_n 3, 1) := by decide +kernel
theorem dX10_rest_17 : decode cX10_rest 17 = .ok (.aload_n 3, 1) := by decide +kernel
theorem dX10_rest_18 : decode cX10_rest 18 = .ok (.getfield 297, 3) := by decide +kernel
theorem dX10_rest_21 : decode cX10_rest 21 = .ok (.ifCond .ne 6, 3) := by decide +kernel
theorem dX10_rest_24 : decode cX10_rest 24 = .ok (.ldc 226, 2) := by decide +kernel
theorem dX10_rest_26 : decode cX10_rest 26 = .ok (.ireturn, 1) := by decide +kernel
theorem dX10_rest_27 : decode cX10_rest 27 = .ok (.aload_n 3, 1) := by decide +kernel
theorem dX10_rest_28 : decode cX10_rest 28 = .ok (.getfield 297, 3) := by decide +kernel
theorem dX10_rest_31 : decode cX10_rest 31 = .ok (.iconst 3, 1) := by decide +kernel
theorem dX10_rest_32 : decode cX10_rest 32 = .ok (.if_icmp .eq 6, 3) := by decide +kernel
theorem dX10_rest_35 : decode cX10_rest 35 = .ok (.ldc 139, 2) := by decide +kernel
theorem dX10_rest_37 : decode cX10_rest 37 = .ok (.ireturn, 1) := by decide +kernel
theorem dX10_rest_38 : decode cX10_rest 38 = .ok (.iload_n 2, 1) := by decide +kernel
theorem dX10_rest_39 : decode cX10_rest 39 = .ok (.ifCond .ne 8, 3) := by decide +kernel
theorem dX10_rest_42 : decode cX10_rest 42 = .ok (.ldc 189, 2) := by decide +kernel
theorem dX10_rest_44 : decode cX10_rest 44 = .ok (.goto 9, 3) := by decide +kernel
theorem dX10_rest_47 : decode cX10_rest 47 = .ok (.aload_n 3, 1) := by decide +kernel
theorem dX10_rest_48 : decode cX10_rest 48 = .ok (.getfield 312, 3) := by decide +kernel
theorem dX10_rest_51 : decode cX10_rest 51 = .ok (.iload_n 2, 1) := by decide +kernel
theorem dX10_rest_52 : decode cX10_rest 52 = .ok (.irem, 1) := by decide +kernel
theorem dX10_rest_53 : decode cX10_rest 53 = .ok (.ireturn, 1) := by decide +kernel
theorem dX10_tell_0 : decode cX10_tell 0 = .ok (.aload_n 0, 1) := by decide +kernel
theorem dX10_tell_1 : decode cX10_tell 1 = .ok (.getfield 66, 3) := by decide +kernel
theorem dX10_tell_4 : decode cX10_tell 4 = .ok (.bipush 60, 2) := by decide +kernel
theorem dX10_tell_6 : decode cX10_tell 6 = .ok (.if_icmp .lt 6, 3) := by decide +kernel
theorem dX10_tell_9 : decode cX10_tell 9 = .ok (.ldc 94, 2) := by decide +kernel
theorem dX10_tell_11 : decode cX10_tell 11 = .ok (.ireturn, 1) := by decide +kernel
theorem dX10_tell_12 : decode cX10_tell 12 = .ok (.aload_n 0, 1) := by decide +kernel
theorem dX10_tell_13 : decode cX10_tell 13 = .ok (.getfield 62, 3) := by decide +kernel
theorem dX10_tell_16 : decode cX10_tell 16 = .ok (.aload_n 0, 1) := by decide +kernel
theorem dX10_tell_17 : decode cX10_tell 17 = .ok (.getfield 66, 3) := by decide +kernel
theorem dX10_tell_20 : decode cX10_tell 20 = .ok (.iload_n 1, 1) := by decide +kernel
theorem dX10_tell_21 : decode cX10_tell 21 = .ok (.iastore, 1) := by decide +kernel
theorem dX10_tell_22 : decode cX10_tell 22 = .ok (.aload_n 0, 1) := by decide +kernel
theorem dX10_tell_23 : decode cX10_tell 23 = .ok (.dup, 1) := by decide +kernel
theorem dX10_tell_24 : decode cX10_tell 24 = .ok (.getfield 66, 3) := by decide +kernel
theorem dX10_tell_27 : decode cX10_tell 27 = .ok (.iconst 1, 1) := by decide +kernel
theorem dX10_tell_28 : decode cX10_tell 28 = .ok (.iadd, 1) := by decide +kernel
theorem dX10_tell_29 : decode cX10_tell 29 = .ok (.putfield 66, 3) := by decide +kernel
theorem dX10_tell_32 : decode cX10_tell 32 = .ok (.aload_n 0, 1) := by decide +kernel
theorem dX10_tell_33 : decode cX10_tell 33 = .ok (.getfield 66, 3) := by decide +kernel
theorem dX10_tell_36 : decode cX10_tell 36 = .ok (.ireturn, 1) := by decide +kernel
theorem dX10_check_0 : decode cX10_check 0 = .ok (.aload_n 0, 1) := by decide +kernel
theorem dX10_check_1 : decode cX10_check 1 = .ok (.getfield 66, 3) := by decide +kernel
theorem dX10_check_4 : decode cX10_check 4 = .ok (.istore_n 2, 1) := by decide +kernel
theorem dX10_check_5 : decode cX10_check 5 = .ok (.aload_n 0, 1) := by decide +kernel
theorem dX10_check_6 : decode cX10_check 6 = .ok (.iconst 0, 1) := by decide +kernel
theorem dX10_check_7 : decode cX10_check 7 = .ok (.putfield 66, 3) := by decide +kernel
theorem dX10_check_10 : decode cX10_check 10 = .ok (.iload_n 1, 1) := by decide +kernel
theorem dX10_check_11 : decode cX10_check 11 = .ok (.iconst 1, 1) := by decide +kernel
theorem dX10_check_12 : decode cX10_check 12 = .ok (.if_icmp .lt 9, 3) := by decide +kernel
theorem dX10_check_15 : decode cX10_check 15 = .ok (.iload_n 1, 1) := by decide +kernel
theorem dX10_check_16 : decode cX10_check 16 = .ok (.bipush 30, 2) := by decide +kernel
theorem dX10_check_18 : decode cX10_check 18 = .ok (.if_icmp .le 6, 3) := by decide +kernel
theorem dX10_check_21 : decode cX10_check 21 = .ok (.ldc 84, 2) := by decide +kernel
theorem dX10_check_23 : decode cX10_check 23 = .ok (.ireturn, 1) := by decide +kernel
theorem dX10_check_24 : decode cX10_check 24 = .ok (.aload_n 0, 1) := by decide +kernel
theorem dX10_check_25 : decode cX10_check 25 = .ok (.getfield 19, 3) := by decide +kernel
theorem dX10_check_28 : decode cX10_check 28 = .ok (.ifCond .ne 6, 3) := by decide +kernel
theorem dX10_check_31 : decode cX10_check 31 = .ok (.ldc 189, 2) := by decide +kernel
theorem dX10_check_33 : decode cX10_check 33 = .ok (.ireturn, 1) := by decide +kernel
theorem dX10_check_34 : decode cX10_check 34 = .ok (.aload_n 0, 1) := by decide +kernel
theorem dX10_check_35 : decode cX10_check 35 = .ok (.getfield 26, 3) := by decide +kernel
theorem dX10_check_38 : decode cX10_check 38 = .ok (.aload_n 0, 1) := by decide +kernel
theorem dX10_check_39 : decode cX10_check 39 = .ok (.getfield 16, 3) := by decide +kernel
theorem dX10_check_42 : decode cX10_check 42 = .ok (.invokevirtual 197, 3) := by decide +kernel
theorem dX10_check_45 : decode cX10_check 45 = .ok (.astore_n 3, 1) := by decide +kernel
theorem dX10_check_46 : decode cX10_check 46 = .ok (.iload_n 1, 1) := by decide +kernel
theorem dX10_check_47 : decode cX10_check 47 = .ok (.sipush 9999, 3) := by decide +kernel
theorem dX10_check_50 : decode cX10_check 50 = .ok (.aload_n 0, 1) := by decide +kernel
theorem dX10_check_51 : decode cX10_check 51 = .ok (.getfield 16, 3) := by decide +kernel
theorem dX10_check_54 : decode cX10_check 54 = .ok (.getfield 116, 3) := by decide +kernel
theorem dX10_check_57 : decode cX10_check 57 = .ok (.isub, 1) := by decide +kernel
theorem dX10_check_58 : decode cX10_check 58 = .ok (.invokestatic 140, 3) := by decide +kernel
theorem dX10_check_61 : decode cX10_check 61 = .ok (.istore 4, 2) := by decide +kernel
theorem dX10_check_63 : decode cX10_check 63 = .ok (.iconst 0, 1) := by decide +kernel
theorem dX10_check_64 : decode cX10_check 64 = .ok (.istore 5, 2) := by decide +kernel
theorem dX10_check_66 : decode cX10_check 66 = .ok (.iconst 0, 1) := by decide +kernel
theorem dX10_check_67 : decode cX10_check 67 = .ok (.istore 6, 2) := by decide +kernel
theorem dX10_check_69 : decode cX10_check 69 = .ok (.iload 6, 2) := by decide +kernel
theorem dX10_check_71 : decode cX10_check 71 = .ok (.iload 4, 2) := by decide +kernel
theorem dX10_check_73 : decode cX10_check 73 = .ok (.if_icmp .ge 64, 3) := by decide +kernel
theorem dX10_check_76 : decode cX10_check 76 = .ok (.aload_n 3, 1) := by decide +kernel
theorem dX10_check_77 : decode cX10_check 77 = .ok (.invokevirtual 204, 3) := by decide +kernel
theorem dX10_check_80 : decode cX10_check 80 = .ok (.pop, 1) := by decide +kernel
theorem dX10_check_81 : decode cX10_check 81 = .ok (.aload_n 0, 1) := by decide +kernel
theorem dX10_check_82 : decode cX10_check 82 = .ok (.iload 5, 2) := by decide +kernel
theorem dX10_check_84 : decode cX10_check 84 = .ok (.iload_n 2, 1) := by decide +kernel
theorem dX10_check_85 : decode cX10_check 85 = .ok (.aload_n 3, 1) := by decide +kernel
theorem dX10_check_86 : decode cX10_check 86 = .ok (.getfield 126, 3) := by decide +kernel
theorem dX10_check_89 : decode cX10_check 89 = .ok (.getfield 163, 3) := by decide +kernel
theorem dX10_check_92 : decode cX10_check 92 = .ok (.invokevirtual 321, 3) := by decide +kernel
theorem dX10_check_95 : decode cX10_check 95 = .ok (.ifCond .ne 8, 3) := by decide +kernel
theorem dX10_check_98 : decode cX10_check 98 = .ok (.iconst 1, 1) := by decide +kernel
theorem dX10_check_99 : decode cX10_check 99 = .ok (.iload 5, 2) := by decide +kernel
theorem dX10_check_101 : decode cX10_check 101 = .ok (.iadd, 1) := by decide +kernel
theorem dX10_check_102 : decode cX10_check 102 = .ok (.ireturn, 1) := by decide +kernel
theorem dX10_check_103 : decode cX10_check 103 = .ok (.iinc 5 1, 3) := by decide +kernel
theorem dX10_check_106 : decode cX10_check 106 = .ok (.aload_n 0, 1) := by decide +kernel
theorem dX10_check_107 : decode cX10_check 107 = .ok (.iload 5, 2) := by decide +kernel
theorem dX10_check_109 : decode cX10_check 109 = .ok (.iload_n 2, 1) := by decide +kernel
theorem dX10_check_110 : decode cX10_check 110 = .ok (.aload_n 3, 1) := by decide +kernel
theorem dX10_check_111 : decode cX10_check 111 = .ok (.getfield 126, 3) := by decide +kernel
theorem dX10_check_114 : decode cX10_check 114 = .ok (.getfield 160, 3) := by decide +kernel
theorem dX10_check_117 : decode cX10_check 117 = .ok (.invokevirtual 321, 3) := by decide +kernel
theorem dX10_check_120 : decode cX10_check 120 = .ok (.ifCond .ne 8, 3) := by decide +kernel
theorem dX10_check_123 : decode cX10_check 123 = .ok (.iconst 1, 1) := by decide +kernel
theorem dX10_check_124 : decode cX10_check 124 = .ok (.iload 5, 2) := by decide +kernel
theorem dX10_check_126 : decode cX10_check 126 = .ok (.iadd, 1) := by decide +kernel
theorem dX10_check_127 : decode cX10_check 127 = .ok (.ireturn, 1) := by decide +kernel
theorem dX10_check_128 : decode cX10_check 128 = .ok (.iinc 5 1, 3) := by decide +kernel
theorem dX10_check_131 : decode cX10_check 131 = .ok (.iinc 6 1, 3) := by decide +kernel
theorem dX10_check_134 : decode cX10_check 134 = .ok (.goto (-65), 3) := by decide +kernel
theorem dX10_check_137 : decode cX10_check 137 = .ok (.iload_n 2, 1) := by decide +kernel
theorem dX10_check_138 : decode cX10_check 138 = .ok (.iload 5, 2) := by decide +kernel
theorem dX10_check_140 : decode cX10_check 140 = .ok (.if_icmp .le 10, 3) := by decide +kernel
theorem dX10_check_143 : decode cX10_check 143 = .ok (.iconst 1, 1) := by decide +kernel
theorem dX10_check_144 : decode cX10_check 144 = .ok (.iload 5, 2) := by decide +kernel
theorem dX10_check_146 : decode cX10_check 146 = .ok (.iadd, 1) := by decide +kernel
theorem dX10_check_147 : decode cX10_check 147 = .ok (.goto 4, 3) := by decide +kernel
theorem dX10_check_150 : decode cX10_check 150 = .ok (.iconst 0, 1) := by decide +kernel
theorem dX10_check_151 : decode cX10_check 151 = .ok (.ireturn, 1) := by decide +kernel
theorem dX10_keep_0 : decode cX10_keep 0 = .ok (.aload_n 0, 1) := by decide +kernel
theorem dX10_keep_1 : decode cX10_keep 1 = .ok (.getfield 16, 3) := by decide +kernel
theorem dX10_keep_4 : decode cX10_keep 4 = .ok (.aload_n 0, 1) := by decide +kernel
theorem dX10_keep_5 : decode cX10_keep 5 = .ok (.getfield 10, 3) := by decide +kernel
theorem dX10_keep_8 : decode cX10_keep 8 = .ok (.invokevirtual 325, 3) := by decide +kernel
theorem dX10_keep_11 : decode cX10_keep 11 = .ok (.aload_n 0, 1) := by decide +kernel
theorem dX10_keep_12 : decode cX10_keep 12 = .ok (.iconst 1, 1) := by decide +kernel
theorem dX10_keep_13 : decode cX10_keep 13 = .ok (.putfield 19, 3) := by decide +kernel
theorem dX10_keep_16 : decode cX10_keep 16 = .ok (.aload_n 0, 1) := by decide +kernel
theorem dX10_keep_17 : decode cX10_keep 17 = .ok (.getfield 10, 3) := by decide +kernel
theorem dX10_keep_20 : decode cX10_keep 20 = .ok (.getfield 85, 3) := by decide +kernel
theorem dX10_keep_23 : decode cX10_keep 23 = .ok (.getfield 89, 3) := by decide +kernel
theorem dX10_keep_26 : decode cX10_keep 26 = .ok (.ireturn, 1) := by decide +kernel
theorem dX10_back_0 : decode cX10_back 0 = .ok (.aload_n 0, 1) := by decide +kernel
theorem dX10_back_1 : decode cX10_back 1 = .ok (.getfield 19, 3) := by decide +kernel
theorem dX10_back_4 : decode cX10_back 4 = .ok (.ifCond .ne 6, 3) := by decide +kernel
theorem dX10_back_7 : decode cX10_back 7 = .ok (.ldc 189, 2) := by decide +kernel
theorem dX10_back_9 : decode cX10_back 9 = .ok (.ireturn, 1) := by decide +kernel
theorem dX10_back_10 : decode cX10_back 10 = .ok (.aload_n 0, 1) := by decide +kernel
theorem dX10_back_11 : decode cX10_back 11 = .ok (.getfield 10, 3) := by decide +kernel
theorem dX10_back_14 : decode cX10_back 14 = .ok (.aload_n 0, 1) := by decide +kernel
theorem dX10_back_15 : decode cX10_back 15 = .ok (.getfield 16, 3) := by decide +kernel
theorem dX10_back_18 : decode cX10_back 18 = .ok (.invokevirtual 325, 3) := by decide +kernel
theorem dX10_back_21 : decode cX10_back 21 = .ok (.aload_n 0, 1) := by decide +kernel
theorem dX10_back_22 : decode cX10_back 22 = .ok (.getfield 10, 3) := by decide +kernel
theorem dX10_back_25 : decode cX10_back 25 = .ok (.getfield 85, 3) := by decide +kernel
theorem dX10_back_28 : decode cX10_back 28 = .ok (.getfield 89, 3) := by decide +kernel
theorem dX10_back_31 : decode cX10_back 31 = .ok (.ireturn, 1) := by decide +kernel
theorem dX10_count_0 : decode cX10_count 0 = .ok (.iload_n 1, 1) := by decide +kernel
theorem dX10_count_1 : decode cX10_count 1 = .ok (.tableswitch 153 0 10 #[59, 70, 78, 86, 94, 102, 113, 124, 132, 137, 145], 59) := by decide +kernel
theorem dX10_count_60 : decode cX10_count 60 = .ok (.aload_n 0, 1) := by decide +kernel
theorem dX10_count_61 : decode cX10_count 61 = .ok (.getfield 10, 3) := by decide +kernel
theorem dX10_count_64 : decode cX10_count 64 = .ok (.getfield 85, 3) := by decide +kernel
theorem dX10_count_67 : decode cX10_count 67 = .ok (.getfield 89, 3) := by decide +kernel
theorem dX10_count_70 : decode cX10_count 70 = .ok (.ireturn, 1) := by decide +kernel
theorem dX10_count_71 : decode cX10_count 71 = .ok (.aload_n 0, 1) := by decide +kernel
theorem dX10_count_72 : decode cX10_count 72 = .ok (.getfield 10, 3) := by decide +kernel
theorem dX10_count_75 : decode cX10_count 75 = .ok (.getfield 116, 3) := by decide +kernel
theorem dX10_count_78 : decode cX10_count 78 = .ok (.ireturn, 1) := by decide +kernel
theorem dX10_count_79 : decode cX10_count 79 = .ok (.aload_n 0, 1) := by decide +kernel
theorem dX10_count_80 : decode cX10_count 80 = .ok (.getfield 10, 3) := by decide +kernel
theorem dX10_count_83 : decode cX10_count 83 = .ok (.getfield 151, 3) := by decide +kernel
theorem dX10_count_86 : decode cX10_count 86 = .ok (.ireturn, 1) := by decide +kernel
theorem dX10_count_87 : decode cX10_count 87 = .ok (.aload_n 0, 1) := by decide +kernel
theorem dX10_count_88 : decode cX10_count 88 = .ok (.getfield 10, 3) := by decide +kernel
theorem dX10_count_91 : decode cX10_count 91 = .ok (.getfield 154, 3) := by decide +kernel
theorem dX10_count_94 : decode cX10_count 94 = .ok (.ireturn, 1) := by decide +kernel
theorem dX10_count_95 : decode cX10_count 95 = .ok (.aload_n 0, 1) := by decide +kernel
theorem dX10_count_96 : decode cX10_count 96 = .ok (.getfield 10, 3) := by decide +kernel
theorem dX10_count_99 : decode cX10_count 99 = .ok (.getfield 157, 3) := by decide +kernel
theorem dX10_count_102 : decode cX10_count 102 = .ok (.ireturn, 1) := by decide +kernel
theorem dX10_count_103 : decode cX10_count 103 = .ok (.aload_n 0, 1) := by decide +kernel
theorem dX10_count_104 : decode cX10_count 104 = .ok (.getfield 10, 3) := by decide +kernel
theorem dX10_count_107 : decode cX10_count 107 = .ok (.getfield 85, 3) := by decide +kernel
theorem dX10_count_110 : decode cX10_count 110 = .ok (.invokevirtual 201, 3) := by decide +kernel
theorem dX10_count_113 : decode cX10_count 113 = .ok (.ireturn, 1) := by decide +kernel
theorem dX10_count_114 : decode cX10_count 114 = .ok (.aload_n 0, 1) := by decide +kernel
theorem dX10_count_115 : decode cX10_count 115 = .ok (.getfield 10, 3) := by decide +kernel
theorem dX10_count_118 : decode cX10_count 118 = .ok (.getfield 85, 3) := by decide +kernel
theorem dX10_count_121 : decode cX10_count 121 = .ok (.invokevirtual 328, 3) := by decide +kernel
theorem dX10_count_124 : decode cX10_count 124 = .ok (.ireturn, 1) := by decide +kernel
theorem dX10_count_125 : decode cX10_count 125 = .ok (.aload_n 0, 1) := by decide +kernel
theorem dX10_count_126 : decode cX10_count 126 = .ok (.getfield 10, 3) := by decide +kernel
theorem dX10_count_129 : decode cX10_count 129 = .ok (.getfield 245, 3) := by decide +kernel
theorem dX10_count_132 : decode cX10_count 132 = .ok (.ireturn, 1) := by decide +kernel
theorem dX10_count_133 : decode cX10_count 133 = .ok (.aload_n 0, 1) := by decide +kernel
theorem dX10_count_134 : decode cX10_count 134 = .ok (.getfield 66, 3) := by decide +kernel
theorem dX10_count_137 : decode cX10_count 137 = .ok (.ireturn, 1) := by decide +kernel
theorem dX10_count_138 : decode cX10_count 138 = .ok (.aload_n 0, 1) := by decide +kernel
theorem dX10_count_139 : decode cX10_count 139 = .ok (.getfield 33, 3) := by decide +kernel
theorem dX10_count_142 : decode cX10_count 142 = .ok (.getfield 234, 3) := by decide +kernel
theorem dX10_count_145 : decode cX10_count 145 = .ok (.ireturn, 1) := by decide +kernel
theorem dX10_count_146 : decode cX10_count 146 = .ok (.aload_n 0, 1) := by decide +kernel
theorem dX10_count_147 : decode cX10_count 147 = .ok (.getfield 10, 3) := by decide +kernel
theorem dX10_count_150 : decode cX10_count 150 = .ok (.getfield 148, 3) := by decide +kernel
theorem dX10_count_153 : decode cX10_count 153 = .ok (.ireturn, 1) := by decide +kernel
theorem dX10_count_154 : decode cX10_count 154 = .ok (.ldc 84, 2) := by decide +kernel
theorem dX10_count_156 : decode cX10_count 156 = .ok (.ireturn, 1) := by decide +kernel
theorem dX10_isSnow_0 : decode cX10_isSnow 0 = .ok (.iload_n 0, 1) := by decide +kernel
theorem dX10_isSnow_1 : decode cX10_isSnow 1 = .ok (.ifCond .lt 14, 3) := by decide +kernel
theorem dX10_isSnow_4 : decode cX10_isSnow 4 = .ok (.iload_n 0, 1) := by decide +kernel
theorem dX10_isSnow_5 : decode cX10_isSnow 5 = .ok (.sipush 999, 3) := by decide +kernel
theorem dX10_isSnow_8 : decode cX10_isSnow 8 = .ok (.if_icmp .gt 7, 3) := by decide +kernel
theorem dX10_isSnow_11 : decode cX10_isSnow 11 = .ok (.iconst 1, 1) := by decide +kernel
theorem dX10_isSnow_12 : decode cX10_isSnow 12 = .ok (.goto 4, 3) := by decide +kernel
theorem dX10_isSnow_15 : decode cX10_isSnow 15 = .ok (.iconst 0, 1) := by decide +kernel
theorem dX10_isSnow_16 : decode cX10_isSnow 16 = .ok (.ireturn, 1) := by decide +kernel
theorem dX10_isGate_0 : decode cX10_isGate 0 = .ok (.iload_n 0, 1) := by decide +kernel
theorem dX10_isGate_1 : decode cX10_isGate 1 = .ok (.iconst 1, 1) := by decide +kernel
theorem dX10_isGate_2 : decode cX10_isGate 2 = .ok (.if_icmp .lt 14, 3) := by decide +kernel
theorem dX10_isGate_5 : decode cX10_isGate 5 = .ok (.iload_n 0, 1) := by decide +kernel
theorem dX10_isGate_6 : decode cX10_isGate 6 = .ok (.sipush 999, 3) := by decide +kernel
theorem dX10_isGate_9 : decode cX10_isGate 9 = .ok (.if_icmp .gt 7, 3) := by decide +kernel
theorem dX10_isGate_12 : decode cX10_isGate 12 = .ok (.iconst 1, 1) := by decide +kernel
theorem dX10_isGate_13 : decode cX10_isGate 13 = .ok (.goto 4, 3) := by decide +kernel
theorem dX10_isGate_16 : decode cX10_isGate 16 = .ok (.iconst 0, 1) := by decide +kernel
theorem dX10_isGate_17 : decode cX10_isGate 17 = .ok (.ireturn, 1) := by decide +kernel
theorem dX10_isThing_0 : decode cX10_isThing 0 = .ok (.iload_n 0, 1) := by decide +kernel
theorem dX10_isThing_1 : decode cX10_isThing 1 = .ok (.ifCond .lt 13, 3) := by decide +kernel
theorem dX10_isThing_4 : decode cX10_isThing 4 = .ok (.iload_n 0, 1) := by decide +kernel
theorem dX10_isThing_5 : decode cX10_isThing 5 = .ok (.bipush 6, 2) := by decide +kernel
theorem dX10_isThing_7 : decode cX10_isThing 7 = .ok (.if_icmp .ge 7, 3) := by decide +kernel
theorem dX10_isThing_10 : decode cX10_isThing 10 = .ok (.iconst 1, 1) := by decide +kernel
theorem dX10_isThing_11 : decode cX10_isThing 11 = .ok (.goto 4, 3) := by decide +kernel
theorem dX10_isThing_14 : decode cX10_isThing 14 = .ok (.iconst 0, 1) := by decide +kernel
theorem dX10_isThing_15 : decode cX10_isThing 15 = .ok (.ireturn, 1) := by decide +kernel
theorem dX10_isSheet_0 : decode cX10_isSheet 0 = .ok (.iload_n 0, 1) := by decide +kernel
theorem dX10_isSheet_1 : decode cX10_isSheet 1 = .ok (.ifCond .lt 12, 3) := by decide +kernel
theorem dX10_isSheet_4 : decode cX10_isSheet 4 = .ok (.iload_n 0, 1) := by decide +kernel
theorem dX10_isSheet_5 : decode cX10_isSheet 5 = .ok (.iconst 4, 1) := by decide +kernel
theorem dX10_isSheet_6 : decode cX10_isSheet 6 = .ok (.if_icmp .ge 7, 3) := by decide +kernel
theorem dX10_isSheet_9 : decode cX10_isSheet 9 = .ok (.iconst 1, 1) := by decide +kernel
theorem dX10_isSheet_10 : decode cX10_isSheet 10 = .ok (.goto 4, 3) := by decide +kernel
theorem dX10_isSheet_13 : decode cX10_isSheet 13 = .ok (.iconst 0, 1) := by decide +kernel
theorem dX10_isSheet_14 : decode cX10_isSheet 14 = .ok (.ireturn, 1) := by decide +kernel
theorem dX10_isSlot_0 : decode cX10_isSlot 0 = .ok (.iload_n 0, 1) := by decide +kernel
theorem dX10_isSlot_1 : decode cX10_isSlot 1 = .ok (.ifCond .lt 12, 3) := by decide +kernel
theorem dX10_isSlot_4 : decode cX10_isSlot 4 = .ok (.iload_n 0, 1) := by decide +kernel
theorem dX10_isSlot_5 : decode cX10_isSlot 5 = .ok (.iconst 5, 1) := by decide +kernel
theorem dX10_isSlot_6 : decode cX10_isSlot 6 = .ok (.if_icmp .ge 7, 3) := by decide +kernel
theorem dX10_isSlot_9 : decode cX10_isSlot 9 = .ok (.iconst 1, 1) := by decide +kernel
theorem dX10_isSlot_10 : decode cX10_isSlot 10 = .ok (.goto 4, 3) := by decide +kernel
theorem dX10_isSlot_13 : decode cX10_isSlot 13 = .ok (.iconst 0, 1) := by decide +kernel
theorem dX10_isSlot_14 : decode cX10_isSlot 14 = .ok (.ireturn, 1) := by decide +kernel
theorem dX10_held_0 : decode cX10_held 0 = .ok (.iconst 0, 1) := by decide +kernel
theorem dX10_held_1 : decode cX10_held 1 = .ok (.iload_n 1, 1) := by decide +kernel
theorem dX10_held_2 : decode cX10_held 2 = .ok (.iload_n 0, 1) := by decide +kernel
theorem dX10_held_3 : decode cX10_held 3 = .ok (.invokestatic 140, 3) := by decide +kernel
theorem dX10_held_6 : decode cX10_held 6 = .ok (.invokestatic 331, 3) := by decide +kernel
theorem dX10_held_9 : decode cX10_held 9 = .ok (.ireturn, 1) := by decide +kernel
theorem dX10_differences_0 : decode cX10_differences 0 = .ok (.aload_n 0, 1) := by decide +kernel
theorem dX10_differences_1 : decode cX10_differences 1 = .ok (.getfield 26, 3) := by decide +kernel
theorem dX10_differences_4 : decode cX10_differences 4 = .ok (.aload_n 0, 1) := by decide +kernel
theorem dX10_differences_5 : decode cX10_differences 5 = .ok (.getfield 10, 3) := by decide +kernel
theorem dX10_differences_8 : decode cX10_differences 8 = .ok (.invokevirtual 197, 3) := by decide +kernel
theorem dX10_differences_11 : decode cX10_differences 11 = .ok (.astore_n 3, 1) := by decide +kernel
theorem dX10_differences_12 : decode cX10_differences 12 = .ok (.aload_n 3, 1) := by decide +kernel
theorem dX10_differences_13 : decode cX10_differences 13 = .ok (.iload_n 2, 1) := by decide +kernel
theorem dX10_differences_14 : decode cX10_differences 14 = .ok (.putfield 151, 3) := by decide +kernel
theorem dX10_differences_17 : decode cX10_differences 17 = .ok (.iconst 0, 1) := by decide +kernel
theorem dX10_differences_18 : decode cX10_differences 18 = .ok (.istore 4, 2) := by decide +kernel
theorem dX10_differences_20 : decode cX10_differences 20 = .ok (.iconst 0, 1) := by decide +kernel
theorem dX10_differences_21 : decode cX10_differences 21 = .ok (.istore 5, 2) := by decide +kernel
theorem dX10_differences_23 : decode cX10_differences 23 = .ok (.iload 5, 2) := by decide +kernel
theorem dX10_differences_25 : decode cX10_differences 25 = .ok (.aload_n 1, 1) := by decide +kernel
theorem dX10_differences_26 : decode cX10_differences 26 = .ok (.getfield 279, 3) := by decide +kernel
theorem dX10_differences_29 : decode cX10_differences 29 = .ok (.if_icmp .ge 59, 3) := by decide +kernel
theorem dX10_differences_32 : decode cX10_differences 32 = .ok (.aload_n 3, 1) := by decide +kernel
theorem dX10_differences_33 : decode cX10_differences 33 = .ok (.iload 5, 2) := by decide +kernel
theorem dX10_differences_35 : decode cX10_differences 35 = .ok (.ifCond .ne 7, 3) := by decide +kernel
theorem dX10_differences_38 : decode cX10_differences 38 = .ok (.iconst 0, 1) := by decide +kernel
theorem dX10_differences_39 : decode cX10_differences 39 = .ok (.goto 4, 3) := by decide +kernel
theorem dX10_differences_42 : decode cX10_differences 42 = .ok (.iconst 1, 1) := by decide +kernel
theorem dX10_differences_43 : decode cX10_differences 43 = .ok (.invokevirtual 194, 3) := by decide +kernel
theorem dX10_differences_46 : decode cX10_differences 46 = .ok (.pop, 1) := by decide +kernel
theorem dX10_differences_47 : decode cX10_differences 47 = .ok (.aload_n 1, 1) := by decide +kernel
theorem dX10_differences_48 : decode cX10_differences 48 = .ok (.getfield 274, 3) := by decide +kernel
theorem dX10_differences_51 : decode cX10_differences 51 = .ok (.iload 5, 2) := by decide +kernel
theorem dX10_differences_53 : decode cX10_differences 53 = .ok (.iaload, 1) := by decide +kernel
theorem dX10_differences_54 : decode cX10_differences 54 = .ok (.ldc 193, 2) := by decide +kernel
theorem dX10_differences_56 : decode cX10_differences 56 = .ok (.if_icmp .eq 26, 3) := by decide +kernel
theorem dX10_differences_59 : decode cX10_differences 59 = .ok (.iload 4, 2) := by decide +kernel
theorem dX10_differences_61 : decode cX10_differences 61 = .ok (.aload_n 3, 1) := by decide +kernel
theorem dX10_differences_62 : decode cX10_differences 62 = .ok (.getfield 126, 3) := by decide +kernel
theorem dX10_differences_65 : decode cX10_differences 65 = .ok (.getfield 163, 3) := by decide +kernel
theorem dX10_differences_68 : decode cX10_differences 68 = .ok (.aload_n 1, 1) := by decide +kernel
theorem dX10_differences_69 : decode cX10_differences 69 = .ok (.getfield 274, 3) := by decide +kernel
theorem dX10_differences_72 : decode cX10_differences 72 = .ok (.iload 5, 2) := by decide +kernel
theorem dX10_differences_74 : decode cX10_differences 74 = .ok (.iaload, 1) := by decide +kernel
theorem dX10_differences_75 : decode cX10_differences 75 = .ok (.isub, 1) := by decide +kernel
theorem dX10_differences_76 : decode cX10_differences 76 = .ok (.invokestatic 334, 3) := by decide +kernel
theorem dX10_differences_79 : decode cX10_differences 79 = .ok (.iadd, 1) := by decide +kernel
theorem dX10_differences_80 : decode cX10_differences 80 = .ok (.istore 4, 2) := by decide +kernel
theorem dX10_differences_82 : decode cX10_differences 82 = .ok (.iinc 5 1, 3) := by decide +kernel
theorem dX10_differences_85 : decode cX10_differences 85 = .ok (.goto (-62), 3) := by decide +kernel
theorem dX10_differences_88 : decode cX10_differences 88 = .ok (.iload 4, 2) := by decide +kernel
theorem dX10_differences_90 : decode cX10_differences 90 = .ok (.ireturn, 1) := by decide +kernel
theorem dX10_waitsAt_0 : decode cX10_waitsAt 0 = .ok (.iload_n 1, 1) := by decide +kernel
theorem dX10_waitsAt_1 : decode cX10_waitsAt 1 = .ok (.iload_n 2, 1) := by decide +kernel
theorem dX10_waitsAt_2 : decode cX10_waitsAt 2 = .ok (.if_icmp .ge 23, 3) := by decide +kernel
theorem dX10_waitsAt_5 : decode cX10_waitsAt 5 = .ok (.iload_n 1, 1) := by decide +kernel
theorem dX10_waitsAt_6 : decode cX10_waitsAt 6 = .ok (.bipush 60, 2) := by decide +kernel
theorem dX10_waitsAt_8 : decode cX10_waitsAt 8 = .ok (.if_icmp .ge 17, 3) := by decide +kernel
theorem dX10_waitsAt_11 : decode cX10_waitsAt 11 = .ok (.aload_n 0, 1) := by decide +kernel
theorem dX10_waitsAt_12 : decode cX10_waitsAt 12 = .ok (.getfield 62, 3) := by decide +kernel
theorem dX10_waitsAt_15 : decode cX10_waitsAt 15 = .ok (.iload_n 1, 1) := by decide +kernel
theorem dX10_waitsAt_16 : decode cX10_waitsAt 16 = .ok (.iaload, 1) := by decide +kernel
theorem dX10_waitsAt_17 : decode cX10_waitsAt 17 = .ok (.iload_n 3, 1) := by decide +kernel
theorem dX10_waitsAt_18 : decode cX10_waitsAt 18 = .ok (.if_icmp .ne 7, 3) := by decide +kernel
theorem dX10_waitsAt_21 : decode cX10_waitsAt 21 = .ok (.iconst 1, 1) := by decide +kernel
theorem dX10_waitsAt_22 : decode cX10_waitsAt 22 = .ok (.goto 4, 3) := by decide +kernel
theorem dX10_waitsAt_25 : decode cX10_waitsAt 25 = .ok (.iconst 0, 1) := by decide +kernel
theorem dX10_waitsAt_26 : decode cX10_waitsAt 26 = .ok (.ireturn, 1) := by decide +kernel
theorem dX11_init_0 : decode cX11_init 0 = .ok (.aload_n 0, 1) := by decide +kernel
theorem dX11_init_1 : decode cX11_init 1 = .ok (.invokespecial 1, 3) := by decide +kernel
theorem dX11_init_4 : decode cX11_init 4 = .ok (.aload_n 0, 1) := by decide +kernel
theorem dX11_init_5 : decode cX11_init 5 = .ok (.sipush 1488, 3) := by decide +kernel
theorem dX11_init_8 : decode cX11_init 8 = .ok (.newarray .int, 2) := by decide +kernel
theorem dX11_init_10 : decode cX11_init 10 = .ok (.putfield 9, 3) := by decide +kernel
theorem dX11_init_13 : decode cX11_init 13 = .ok (.aload_n 0, 1) := by decide +kernel
theorem dX11_init_14 : decode cX11_init 14 = .ok (.sipush 1488, 3) := by decide +kernel
theorem dX11_init_17 : decode cX11_init 17 = .ok (.newarray .int, 2) := by decide +kernel
theorem dX11_init_19 : decode cX11_init 19 = .ok (.putfield 13, 3) := by decide +kernel
theorem dX11_init_22 : decode cX11_init 22 = .ok (.aload_n 0, 1) := by decide +kernel
theorem dX11_init_23 : decode cX11_init 23 = .ok (.sipush 1488, 3) := by decide +kernel
theorem dX11_init_26 : decode cX11_init 26 = .ok (.newarray .int, 2) := by decide +kernel
theorem dX11_init_28 : decode cX11_init 28 = .ok (.putfield 16, 3) := by decide +kernel
theorem dX11_init_31 : decode cX11_init 31 = .ok (.aload_n 0, 1) := by decide +kernel
theorem dX11_init_32 : decode cX11_init 32 = .ok (.bipush 116, 2) := by decide +kernel
theorem dX11_init_34 : decode cX11_init 34 = .ok (.newarray .int, 2) := by decide +kernel
theorem dX11_init_36 : decode cX11_init 36 = .ok (.putfield 19, 3) := by decide +kernel
theorem dX11_init_39 : decode cX11_init 39 = .ok (.aload_n 0, 1) := by decide +kernel
theorem dX11_init_40 : decode cX11_init 40 = .ok (.iconst 3, 1) := by decide +kernel
theorem dX11_init_41 : decode cX11_init 41 = .ok (.newarray .int, 2) := by decide +kernel
theorem dX11_init_43 : decode cX11_init 43 = .ok (.putfield 22, 3) := by decide +kernel
theorem dX11_init_46 : decode cX11_init 46 = .ok (.aload_n 0, 1) := by decide +kernel
theorem dX11_init_47 : decode cX11_init 47 = .ok (.bipush 96, 2) := by decide +kernel
theorem dX11_init_49 : decode cX11_init 49 = .ok (.newarray .int, 2) := by decide +kernel
theorem dX11_init_51 : decode cX11_init 51 = .ok (.putfield 25, 3) := by decide +kernel
theorem dX11_init_54 : decode cX11_init 54 = .ok (.aload_n 0, 1) := by decide +kernel
theorem dX11_init_55 : decode cX11_init 55 = .ok (.bipush 12, 2) := by decide +kernel
theorem dX11_init_57 : decode cX11_init 57 = .ok (.newarray .char, 2) := by decide +kernel
theorem dX11_init_59 : decode cX11_init 59 = .ok (.dup, 1) := by decide +kernel
theorem dX11_init_60 : decode cX11_init 60 = .ok (.iconst 0, 1) := by decide +kernel
theorem dX11_init_61 : decode cX11_init 61 = .ok (.bipush 115, 2) := by decide +kernel
theorem dX11_init_63 : decode cX11_init 63 = .ok (.castore, 1) := by decide +kernel
theorem dX11_init_64 : decode cX11_init 64 = .ok (.dup, 1) := by decide +kernel
theorem dX11_init_65 : decode cX11_init 65 = .ok (.iconst 1, 1) := by decide +kernel
theorem dX11_init_66 : decode cX11_init 66 = .ok (.bipush 105, 2) := by decide +kernel
theorem dX11_init_68 : decode cX11_init 68 = .ok (.castore, 1) := by decide +kernel
theorem dX11_init_69 : decode cX11_init 69 = .ok (.dup, 1) := by decide +kernel
theorem dX11_init_70 : decode cX11_init 70 = .ok (.iconst 2, 1) := by decide +kernel
theorem dX11_init_71 : decode cX11_init 71 = .ok (.bipush 122, 2) := by decide +kernel
theorem dX11_init_73 : decode cX11_init 73 = .ok (.castore, 1) := by decide +kernel
theorem dX11_init_74 : decode cX11_init 74 = .ok (.dup, 1) := by decide +kernel
theorem dX11_init_75 : decode cX11_init 75 = .ok (.iconst 3, 1) := by decide +kernel
theorem dX11_init_76 : decode cX11_init 76 = .ok (.bipush 101, 2) := by decide +kernel
theorem dX11_init_78 : decode cX11_init 78 = .ok (.castore, 1) := by decide +kernel
theorem dX11_init_79 : decode cX11_init 79 = .ok (.dup, 1) := by decide +kernel
theorem dX11_init_80 : decode cX11_init 80 = .ok (.iconst 4, 1) := by decide +kernel
theorem dX11_init_81 : decode cX11_init 81 = .ok (.bipush 103, 2) := by decide +kernel
theorem dX11_init_83 : decode cX11_init 83 = .ok (.castore, 1) := by decide +kernel
theorem dX11_init_84 : decode cX11_init 84 = .ok (.dup, 1) := by decide +kernel
theorem dX11_init_85 : decode cX11_init 85 = .ok (.iconst 5, 1) := by decide +kernel
theorem dX11_init_86 : decode cX11_init 86 = .ok (.bipush 105, 2) := by decide +kernel
theorem dX11_init_88 : decode cX11_init 88 = .ok (.castore, 1) := by decide +kernel
theorem dX11_init_89 : decode cX11_init 89 = .ok (.dup, 1) := by decide +kernel
theorem dX11_init_90 : decode cX11_init 90 = .ok (.bipush 6, 2) := by decide +kernel
theorem dX11_init_92 : decode cX11_init 92 = .ok (.bipush 118, 2) := by decide +kernel
theorem dX11_init_94 : decode cX11_init 94 = .ok (.castore, 1) := by decide +kernel
theorem dX11_init_95 : decode cX11_init 95 = .ok (.dup, 1) := by decide +kernel
theorem dX11_init_96 : decode cX11_init 96 = .ok (.bipush 7, 2) := by decide +kernel
theorem dX11_init_98 : decode cX11_init 98 = .ok (.bipush 101, 2) := by decide +kernel
theorem dX11_init_100 : decode cX11_init 100 = .ok (.castore, 1) := by decide +kernel
theorem dX11_init_101 : decode cX11_init 101 = .ok (.dup, 1) := by decide +kernel
theorem dX11_init_102 : decode cX11_init 102 = .ok (.bipush 8, 2) := by decide +kernel
theorem dX11_init_104 : decode cX11_init 104 = .ok (.bipush 102, 2) := by decide +kernel
theorem dX11_init_106 : decode cX11_init 106 = .ok (.castore, 1) := by decide +kernel
theorem dX11_init_107 : decode cX11_init 107 = .ok (.dup, 1) := by decide +kernel
theorem dX11_init_108 : decode cX11_init 108 = .ok (.bipush 9, 2) := by decide +kernel
theorem dX11_init_110 : decode cX11_init 110 = .ok (.bipush 105, 2) := by decide +kernel
theorem dX11_init_112 : decode cX11_init 112 = .ok (.castore, 1) := by decide +kernel
theorem dX11_init_113 : decode cX11_init 113 = .ok (.dup, 1) := by decide +kernel
theorem dX11_init_114 : decode cX11_init 114 = .ok (.bipush 10, 2) := by decide +kernel
theorem dX11_init_116 : decode cX11_init 116 = .ok (.bipush 110, 2) := by decide +kernel
theorem dX11_init_118 : decode cX11_init 118 = .ok (.castore, 1) := by decide +kernel
theorem dX11_init_119 : decode cX11_init 119 = .ok (.dup, 1) := by decide +kernel
theorem dX11_init_120 : decode cX11_init 120 = .ok (.bipush 11, 2) := by decide +kernel
theorem dX11_init_122 : decode cX11_init 122 = .ok (.bipush 101, 2) := by decide +kernel
theorem dX11_init_124 : decode cX11_init 124 = .ok (.castore, 1) := by decide +kernel
theorem dX11_init_125 : decode cX11_init 125 = .ok (.putfield 28, 3) := by decide +kernel
theorem dX11_init_128 : decode cX11_init 128 = .ok (.aload_n 0, 1) := by decide +kernel
theorem dX11_init_129 : decode cX11_init 129 = .ok (.iconst 4, 1) := by decide +kernel
theorem dX11_init_130 : decode cX11_init 130 = .ok (.newarray .int, 2) := by decide +kernel
theorem dX11_init_132 : decode cX11_init 132 = .ok (.dup, 1) := by decide +kernel
theorem dX11_init_133 : decode cX11_init 133 = .ok (.iconst 0, 1) := by decide +kernel
theorem dX11_init_134 : decode cX11_init 134 = .ok (.iconst 0, 1) := by decide +kernel
theorem dX11_init_135 : decode cX11_init 135 = .ok (.iastore, 1) := by decide +kernel
theorem dX11_init_136 : decode cX11_init 136 = .ok (.dup, 1) := by decide +kernel
theorem dX11_init_137 : decode cX11_init 137 = .ok (.iconst 1, 1) := by decide +kernel
theorem dX11_init_138 : decode cX11_init 138 = .ok (.iconst 4, 1) := by decide +kernel
theorem dX11_init_139 : decode cX11_init 139 = .ok (.iastore, 1) := by decide +kernel
theorem dX11_init_140 : decode cX11_init 140 = .ok (.dup, 1) := by decide +kernel
theorem dX11_init_141 : decode cX11_init 141 = .ok (.iconst 2, 1) := by decide +kernel
theorem dX11_init_142 : decode cX11_init 142 = .ok (.bipush 8, 2) := by decide +kernel
theorem dX11_init_144 : decode cX11_init 144 = .ok (.iastore, 1) := by decide +kernel
theorem dX11_init_145 : decode cX11_init 145 = .ok (.dup, 1) := by decide +kernel
theorem dX11_init_146 : decode cX11_init 146 = .ok (.iconst 3, 1) := by decide +kernel
theorem dX11_init_147 : decode cX11_init 147 = .ok (.bipush 12, 2) := by decide +kernel
theorem dX11_init_149 : decode cX11_init 149 = .ok (.iastore, 1) := by decide +kernel
theorem dX11_init_150 : decode cX11_init 150 = .ok (.putfield 32, 3) := by decide +kernel
theorem dX11_init_153 : decode cX11_init 153 = .ok (.aload_n 0, 1) := by decide +kernel
theorem dX11_init_154 : decode cX11_init 154 = .ok (.bipush 96, 2) := by decide +kernel
theorem dX11_init_156 : decode cX11_init 156 = .ok (.newarray .int, 2) := by decide +kernel
theorem dX11_init_158 : decode cX11_init 158 = .ok (.putfield 35, 3) := by decide +kernel
theorem dX11_init_161 : decode cX11_init 161 = .ok (.aload_n 0, 1) := by decide +kernel
theorem dX11_init_162 : decode cX11_init 162 = .ok (.bipush 96, 2) := by decide +kernel
theorem dX11_init_164 : decode cX11_init 164 = .ok (.newarray .int, 2) := by decide +kernel
theorem dX11_init_166 : decode cX11_init 166 = .ok (.putfield 38, 3) := by decide +kernel
theorem dX11_init_169 : decode cX11_init 169 = .ok (.aload_n 0, 1) := by decide +kernel
theorem dX11_init_170 : decode cX11_init 170 = .ok (.bipush 10, 2) := by decide +kernel
theorem dX11_init_172 : decode cX11_init 172 = .ok (.newarray .boolean, 2) := by decide +kernel
theorem dX11_init_174 : decode cX11_init 174 = .ok (.putfield 41, 3) := by decide +kernel
theorem dX11_init_177 : decode cX11_init 177 = .ok (.aload_n 0, 1) := by decide +kernel
theorem dX11_init_178 : decode cX11_init 178 = .ok (.bipush 96, 2) := by decide +kernel
theorem dX11_init_180 : decode cX11_init 180 = .ok (.newarray .int, 2) := by decide +kernel
theorem dX11_init_182 : decode cX11_init 182 = .ok (.putfield 45, 3) := by decide +kernel
theorem dX11_init_185 : decode cX11_init 185 = .ok (.aload_n 0, 1) := by decide +kernel
theorem dX11_init_186 : decode cX11_init 186 = .ok (.iconst 4, 1) := by decide +kernel
theorem dX11_init_187 : decode cX11_init 187 = .ok (.newarray .int, 2) := by decide +kernel
theorem dX11_init_189 : decode cX11_init 189 = .ok (.putfield 48, 3) := by decide +kernel
theorem dX11_init_192 : decode cX11_init 192 = .ok (.aload_n 0, 1) := by decide +kernel
theorem dX11_init_193 : decode cX11_init 193 = .ok (.iconst 4, 1) := by decide +kernel
theorem dX11_init_194 : decode cX11_init 194 = .ok (.newarray .int, 2) := by decide +kernel
theorem dX11_init_196 : decode cX11_init 196 = .ok (.dup, 1) := by decide +kernel
theorem dX11_init_197 : decode cX11_init 197 = .ok (.iconst 0, 1) := by decide +kernel
theorem dX11_init_198 : decode cX11_init 198 = .ok (.iconst (-1), 1) := by decide +kernel
theorem dX11_init_199 : decode cX11_init 199 = .ok (.iastore, 1) := by decide +kernel
theorem dX11_init_200 : decode cX11_init 200 = .ok (.dup, 1) := by decide +kernel
theorem dX11_init_201 : decode cX11_init 201 = .ok (.iconst 1, 1) := by decide +kernel
theorem dX11_init_202 : decode cX11_init 202 = .ok (.iconst (-1), 1) := by decide +kernel
theorem dX11_init_203 : decode cX11_init 203 = .ok (.iastore, 1) := by decide +kernel
theorem dX11_init_204 : decode cX11_init 204 = .ok (.dup, 1) := by decide +kernel
theorem dX11_init_205 : decode cX11_init 205 = .ok (.iconst 2, 1) := by decide +kernel
theorem dX11_init_206 : decode cX11_init 206 = .ok (.iconst (-1), 1) := by decide +kernel
theorem dX11_init_207 : decode cX11_init 207 = .ok (.iastore, 1) := by decide +kernel
theorem dX11_init_208 : decode cX11_init 208 = .ok (.dup, 1) := by decide +kernel
theorem dX11_init_209 : decode cX11_init 209 = .ok (.iconst 3, 1) := by decide +kernel
theorem dX11_init_210 : decode cX11_init 210 = .ok (.iconst (-1), 1) := by decide +kernel
theorem dX11_init_211 : decode cX11_init 211 = .ok (.iastore, 1) := by decide +kernel
theorem dX11_init_212 : decode cX11_init 212 = .ok (.putfield 51, 3) := by decide +kernel
theorem dX11_init_215 : decode cX11_init 215 = .ok (.aload_n 0, 1) := by decide +kernel
theorem dX11_init_216 : decode cX11_init 216 = .ok (.iconst 4, 1) := by decide +kernel
theorem dX11_init_217 : decode cX11_init 217 = .ok (.newarray .int, 2) := by decide +kernel
theorem dX11_init_219 : decode cX11_init 219 = .ok (.putfield 54, 3) := by decide +kernel
theorem dX11_init_222 : decode cX11_init 222 = .ok (.aload_n 0, 1) := by decide +kernel
theorem dX11_init_223 : decode cX11_init 223 = .ok (.bipush 96, 2) := by decide +kernel
theorem dX11_init_225 : decode cX11_init 225 = .ok (.newarray .int, 2) := by decide +kernel
theorem dX11_init_227 : decode cX11_init 227 = .ok (.putfield 57, 3) := by decide +kernel
theorem dX11_init_230 : decode cX11_init 230 = .ok (.aload_n 0, 1) := by decide +kernel
theorem dX11_init_231 : decode cX11_init 231 = .ok (.iconst 5, 1) := by decide +kernel
theorem dX11_init_232 : decode cX11_init 232 = .ok (.newarray .int, 2) := by decide +kernel
theorem dX11_init_234 : decode cX11_init 234 = .ok (.putfield 60, 3) := by decide +kernel
theorem dX11_init_237 : decode cX11_init 237 = .ok (.aload_n 0, 1) := by decide +kernel
theorem dX11_init_238 : decode cX11_init 238 = .ok (.iconst 5, 1) := by decide +kernel
theorem dX11_init_239 : decode cX11_init 239 = .ok (.newarray .int, 2) := by decide +kernel
theorem dX11_init_241 : decode cX11_init 241 = .ok (.putfield 63, 3) := by decide +kernel
theorem dX11_init_244 : decode cX11_init 244 = .ok (.aload_n 0, 1) := by decide +kernel
theorem dX11_init_245 : decode cX11_init 245 = .ok (.iconst 5, 1) := by decide +kernel
theorem dX11_init_246 : decode cX11_init 246 = .ok (.newarray .int, 2) := by decide +kernel
theorem dX11_init_248 : decode cX11_init 248 = .ok (.putfield 66, 3) := by decide +kernel
theorem dX11_init_251 : decode cX11_init 251 = .ok (.aload_n 0, 1) := by decide +kernel
theorem dX11_init_252 : decode cX11_init 252 = .ok (.bipush 120, 2) := by decide +kernel
theorem dX11_init_254 : decode cX11_init 254 = .ok (.newarray .int, 2) := by decide +kernel
theorem dX11_init_256 : decode cX11_init 256 = .ok (.putfield 69, 3) := by decide +kernel
theorem dX11_init_259 : decode cX11_init 259 = .ok (.aload_n 0, 1) := by decide +kernel
theorem dX11_init_260 : decode cX11_init 260 = .ok (.bipush 24, 2) := by decide +kernel
theorem dX11_init_262 : decode cX11_init 262 = .ok (.newarray .int, 2) := by decide +kernel
theorem dX11_init_264 : decode cX11_init 264 = .ok (.putfield 72, 3) := by decide +kernel
theorem dX11_init_267 : decode cX11_init 267 = .ok (.aload_n 0, 1) := by decide +kernel
theorem dX11_init_268 : decode cX11_init 268 = .ok (.bipush 60, 2) := by decide +kernel
theorem dX11_init_270 : decode cX11_init 270 = .ok (.newarray .int, 2) := by decide +kernel
theorem dX11_init_272 : decode cX11_init 272 = .ok (.putfield 75, 3) := by decide +kernel
theorem dX11_init_275 : decode cX11_init 275 = .ok (.aload_n 0, 1) := by decide +kernel
theorem dX11_init_276 : decode cX11_init 276 = .ok (.getfield 9, 3) := by decide +kernel
theorem dX11_init_279 : decode cX11_init 279 = .ok (.iconst 0, 1) := by decide +kernel
theorem dX11_init_280 : decode cX11_init 280 = .ok (.iconst 1, 1) := by decide +kernel
theorem dX11_init_281 : decode cX11_init 281 = .ok (.iastore, 1) := by decide +kernel
theorem dX11_init_282 : decode cX11_init 282 = .ok (.aload_n 0, 1) := by decide +kernel
theorem dX11_init_283 : decode cX11_init 283 = .ok (.getfield 9, 3) := by decide +kernel
theorem dX11_init_286 : decode cX11_init 286 = .ok (.iconst 3, 1) := by decide +kernel
theorem dX11_init_287 : decode cX11_init 287 = .ok (.iconst 5, 1) := by decide +kernel
theorem dX11_init_288 : decode cX11_init 288 = .ok (.iastore, 1) := by decide +kernel
theorem dX11_init_289 : decode cX11_init 289 = .ok (.aload_n 0, 1) := by decide +kernel
theorem dX11_init_290 : decode cX11_init 290 = .ok (.getfield 9, 3) := by decide +kernel
theorem dX11_init_293 : decode cX11_init 293 = .ok (.iconst 4, 1) := by decide +kernel
theorem dX11_init_294 : decode cX11_init 294 = .ok (.iconst 3, 1) := by decide +kernel
theorem dX11_init_295 : decode cX11_init 295 = .ok (.iastore, 1) := by decide +kernel
theorem dX11_init_296 : decode cX11_init 296 = .ok (.iconst 0, 1) := by decide +kernel
theorem dX11_init_297 : decode cX11_init 297 = .ok (.istore_n 1, 1) := by decide +kernel
theorem dX11_init_298 : decode cX11_init 298 = .ok (.iload_n 1, 1) := by decide +kernel
theorem dX11_init_299 : decode cX11_init 299 = .ok (.bipush 6, 2) := by decide +kernel
theorem dX11_init_301 : decode cX11_init 301 = .ok (.if_icmp .ge 19, 3) := by decide +kernel
theorem dX11_init_304 : decode cX11_init 304 = .ok (.aload_n 0, 1) := by decide +kernel
theorem dX11_init_305 : decode cX11_init 305 = .ok (.getfield 9, 3) := by decide +kernel
theorem dX11_init_308 : decode cX11_init 308 = .ok (.bipush 10, 2) := by decide +kernel
theorem dX11_init_310 : decode cX11_init 310 = .ok (.iload_n 1, 1) := by decide +kernel
theorem dX11_init_311 : decode cX11_init 311 = .ok (.iadd, 1) := by decide +kernel
theorem dX11_init_312 : decode cX11_init 312 = .ok (.iconst (-1), 1) := by decide +kernel
theorem dX11_init_313 : decode cX11_init 313 = .ok (.iastore, 1) := by decide +kernel
theorem dX11_init_314 : decode cX11_init 314 = .ok (.iinc 1 1, 3) := by decide +kernel
theorem dX11_init_317 : decode cX11_init 317 = .ok (.goto (-19), 3) := by decide +kernel
theorem dX11_init_320 : decode cX11_init 320 = .ok (.return_, 1) := by decide +kernel
theorem dX11_in_0 : decode cX11_in 0 = .ok (.iload_n 0, 1) := by decide +kernel
theorem dX11_in_1 : decode cX11_in 1 = .ok (.iload_n 1, 1) := by decide +kernel
theorem dX11_in_2 : decode cX11_in 2 = .ok (.if_icmp .lt 12, 3) := by decide +kernel
theorem dX11_in_5 : decode cX11_in 5 = .ok (.iload_n 0, 1) := by decide +kernel
theorem dX11_in_6 : decode cX11_in 6 = .ok (.iload_n 2, 1) := by decide +kernel
theorem dX11_in_7 : decode cX11_in 7 = .ok (.if_icmp .gt 7, 3) := by decide +kernel
theorem dX11_in_10 : decode cX11_in 10 = .ok (.iconst 1, 1) := by decide +kernel
theorem dX11_in_11 : decode cX11_in 11 = .ok (.goto 4, 3) := by decide +kernel
theorem dX11_in_14 : decode cX11_in 14 = .ok (.iconst 0, 1) := by decide +kernel
theorem dX11_in_15 : decode cX11_in 15 = .ok (.ireturn, 1) := by decide +kernel
theorem dX11_within_0 : decode cX11_within 0 = .ok (.iload_n 0, 1) := by decide +kernel
theorem dX11_within_1 : decode cX11_within 1 = .ok (.iload_n 1, 1) := by decide +kernel
theorem dX11_within_2 : decode cX11_within 2 = .ok (.if_icmp .ge 7, 3) := by decide +kernel
theorem dX11_within_5 : decode cX11_within 5 = .ok (.iload_n 1, 1) := by decide +kernel
theorem dX11_within_6 : decode cX11_within 6 = .ok (.goto 13, 3) := by decide +kernel
theorem dX11_within_9 : decode cX11_within 9 = .ok (.iload_n 0, 1) := by decide +kernel
theorem dX11_within_10 : decode cX11_within 10 = .ok (.iload_n 2, 1) := by decide +kernel
theorem dX11_within_11 : decode cX11_within 11 = .ok (.if_icmp .le 7, 3) := by decide +kernel
theorem dX11_within_14 : decode cX11_within 14 = .ok (.iload_n 2, 1) := by decide +kernel
theorem dX11_within_15 : decode cX11_within 15 = .ok (.goto 4, 3) := by decide +kernel
theorem dX11_within_18 : decode cX11_within 18 = .ok (.iload_n 0, 1) := by decide +kernel
theorem dX11_within_19 : decode cX11_within 19 = .ok (.ireturn, 1) := by decide +kernel
theorem dX11_copyAll_0 : decode cX11_copyAll 0 = .ok (.iconst 0, 1) := by decide +kernel
theorem dX11_copyAll_1 : decode cX11_copyAll 1 = .ok (.istore_n 2, 1) := by decide +kernel
theorem dX11_copyAll_2 : decode cX11_copyAll 2 = .ok (.iload_n 2, 1) := by decide +kernel
theorem dX11_copyAll_3 : decode cX11_copyAll 3 = .ok (.sipush 1488, 3) := by decide +kernel
theorem dX11_copyAll_6 : decode cX11_copyAll 6 = .ok (.if_icmp .ge 15, 3) := by decide +kernel
theorem dX11_copyAll_9 : decode cX11_copyAll 9 = .ok (.aload_n 1, 1) := by decide +kernel
theorem dX11_copyAll_10 : decode cX11_copyAll 10 = .ok (.iload_n 2, 1) := by decide +kernel
theorem dX11_copyAll_11 : decode cX11_copyAll 11 = .ok (.aload_n 0, 1) := by decide +kernel
theorem dX11_copyAll_12 : decode cX11_copyAll 12 = .ok (.iload_n 2, 1) := by decide +kernel
theorem dX11_copyAll_13 : decode cX11_copyAll 13 = .ok (.iaload, 1) := by decide +kernel
theorem dX11_copyAll_14 : decode cX11_copyAll 14 = .ok (.iastore, 1) := by decide +kernel
theorem dX11_copyAll_15 : decode cX11_copyAll 15 = .ok (.iinc 2 1, 3) := by decide +kernel
theorem dX11_copyAll_18 : decode cX11_copyAll 18 = .ok (.goto (-16), 3) := by decide +kernel
theorem dX11_copyAll_21 : decode cX11_copyAll 21 = .ok (.return_, 1) := by decide +kernel
theorem dX11_isYard_0 : decode cX11_isYard 0 = .ok (.iload_n 1, 1) := by decide +kernel
theorem dX11_isYard_1 : decode cX11_isYard 1 = .ok (.iconst 0, 1) := by decide +kernel
theorem dX11_isYard_2 : decode cX11_isYard 2 = .ok (.aload_n 0, 1) := by decide +kernel
theorem dX11_isYard_3 : decode cX11_isYard 3 = .ok (.getfield 9, 3) := by decide +kernel
theorem dX11_isYard_6 : decode cX11_isYard 6 = .ok (.iconst 1, 1) := by decide +kernel
theorem dX11_isYard_7 : decode cX11_isYard 7 = .ok (.iaload, 1) := by decide +kernel
theorem dX11_isYard_8 : decode cX11_isYard 8 = .ok (.iconst 1, 1) := by decide +kernel
theorem dX11_isYard_9 : decode cX11_isYard 9 = .ok (.isub, 1) := by decide +kernel
theorem dX11_isYard_10 : decode cX11_isYard 10 = .ok (.invokestatic 78, 3) := by decide +kernel
theorem dX11_isYard_13 : decode cX11_isYard 13 = .ok (.ireturn, 1) := by decide +kernel
theorem dX11_of_0 : decode cX11_of 0 = .ok (.aload_n 0, 1) := by decide +kernel
theorem dX11_of_1 : decode cX11_of 1 = .ok (.getfield 9, 3) := by decide +kernel
theorem dX11_of_4 : decode cX11_of 4 = .ok (.bipush 76, 2) := by decide +kernel
theorem dX11_of_6 : decode cX11_of 6 = .ok (.iconst 4, 1) := by decide +kernel
theorem dX11_of_7 : decode cX11_of 7 = .ok (.iload_n 1, 1) := by decide +kernel
theorem dX11_of_8 : decode cX11_of 8 = .ok (.imul, 1) := by decide +kernel
theorem dX11_of_9 : decode cX11_of 9 = .ok (.iadd, 1) := by decide +kernel
theorem dX11_of_10 : decode cX11_of 10 = .ok (.iload_n 2, 1) := by decide +kernel
theorem dX11_of_11 : decode cX11_of 11 = .ok (.iadd, 1) := by decide +kernel
theorem dX11_of_12 : decode cX11_of 12 = .ok (.iaload, 1) := by decide +kernel
theorem dX11_of_13 : decode cX11_of 13 = .ok (.ireturn, 1) := by decide +kernel
theorem dX11_put_0 : decode cX11_put 0 = .ok (.aload_n 0, 1) := by decide +kernel
theorem dX11_put_1 : decode cX11_put 1 = .ok (.getfield 9, 3) := by decide +kernel
theorem dX11_put_4 : decode cX11_put 4 = .ok (.bipush 76, 2) := by decide +kernel
theorem dX11_put_6 : decode cX11_put 6 = .ok (.iconst 4, 1) := by decide +kernel
theorem dX11_put_7 : decode cX11_put 7 = .ok (.iload_n 1, 1) := by decide +kernel
theorem dX11_put_8 : decode cX11_put 8 = .ok (.imul, 1) := by decide +kernel
theorem dX11_put_9 : decode cX11_put 9 = .ok (.iadd, 1) := by decide +kernel
theorem dX11_put_10 : decode cX11_put 10 = .ok (.iload_n 2, 1) := by decide +kernel
theorem dX11_put_11 : decode cX11_put 11 = .ok (.iadd, 1) := by decide +kernel
theorem dX11_put_12 : decode cX11_put 12 = .ok (.iload_n 3, 1) := by decide +kernel
theorem dX11_put_13 : decode cX11_put 13 = .ok (.iastore, 1) := by decide +kernel
theorem dX11_put_14 : decode cX11_put 14 = .ok (.return_, 1) := by decide +kernel
theorem dX11_becomes_0 : decode cX11_becomes 0 = .ok (.aload_n 0, 1) := by decide +kernel
theorem dX11_becomes_1 : decode cX11_becomes 1 = .ok (.getfield 9, 3) := by decide +kernel
theorem dX11_becomes_4 : decode cX11_becomes 4 = .ok (.iload_n 1, 1) := by decide +kernel
theorem dX11_becomes_5 : decode cX11_becomes 5 = .ok (.iaload, 1) := by decide +kernel
theorem dX11_becomes_6 : decode cX11_becomes 6 = .ok (.istore_n 3, 1) := by decide +kernel
theorem dX11_becomes_7 : decode cX11_becomes 7 = .ok (.aload_n 0, 1) := by decide +kernel
theorem dX11_becomes_8 : decode cX11_becomes 8 = .ok (.getfield 9, 3) := by decide +kernel
theorem dX11_becomes_11 : decode cX11_becomes 11 = .ok (.iload_n 1, 1) := by decide +kernel
theorem dX11_becomes_12 : decode cX11_becomes 12 = .ok (.iload_n 2, 1) := by decide +kernel
theorem dX11_becomes_13 : decode cX11_becomes 13 = .ok (.iastore, 1) := by decide +kernel
theorem dX11_becomes_14 : decode cX11_becomes 14 = .ok (.iload_n 3, 1) := by decide +kernel
theorem dX11_becomes_15 : decode cX11_becomes 15 = .ok (.ireturn, 1) := by decide +kernel
theorem dX11_comes_0 : decode cX11_comes 0 = .ok (.aload_n 0, 1) := by decide +kernel
theorem dX11_comes_1 : decode cX11_comes 1 = .ok (.getfield 9, 3) := by decide +kernel
theorem dX11_comes_4 : decode cX11_comes 4 = .ok (.iconst 1, 1) := by decide +kernel
theorem dX11_comes_5 : decode cX11_comes 5 = .ok (.iaload, 1) := by decide +kernel
theorem dX11_comes_6 : decode cX11_comes 6 = .ok (.istore 4, 2) := by decide +kernel
theorem dX11_comes_8 : decode cX11_comes 8 = .ok (.aload_n 0, 1) := by decide +kernel
theorem dX11_comes_9 : decode cX11_comes 9 = .ok (.iload 4, 2) := by decide +kernel
theorem dX11_comes_11 : decode cX11_comes 11 = .ok (.iconst 0, 1) := by decide +kernel
theorem dX11_comes_12 : decode cX11_comes 12 = .ok (.iload_n 1, 1) := by decide +kernel
theorem dX11_comes_13 : decode cX11_comes 13 = .ok (.invokevirtual 82, 3) := by decide +kernel
theorem dX11_comes_16 : decode cX11_comes 16 = .ok (.aload_n 0, 1) := by decide +kernel
theorem dX11_comes_17 : decode cX11_comes 17 = .ok (.iload 4, 2) := by decide +kernel
theorem dX11_comes_19 : decode cX11_comes 19 = .ok (.iconst 1, 1) := by decide +kernel
theorem dX11_comes_20 : decode cX11_comes 20 = .ok (.iload_n 2, 1) := by decide +kernel
theorem dX11_comes_21 : decode cX11_comes 21 = .ok (.invokevirtual 82, 3) := by decide +kernel
theorem dX11_comes_24 : decode cX11_comes 24 = .ok (.aload_n 0, 1) := by decide +kernel
theorem dX11_comes_25 : decode cX11_comes 25 = .ok (.iload 4, 2) := by decide +kernel
theorem dX11_comes_27 : decode cX11_comes 27 = .ok (.iconst 2, 1) := by decide +kernel
theorem dX11_comes_28 : decode cX11_comes 28 = .ok (.iload_n 3, 1) := by decide +kernel
theorem dX11_comes_29 : decode cX11_comes 29 = .ok (.invokevirtual 82, 3) := by decide +kernel
theorem dX11_comes_32 : decode cX11_comes 32 = .ok (.aload_n 0, 1) := by decide +kernel
theorem dX11_comes_33 : decode cX11_comes 33 = .ok (.iload 4, 2) := by decide +kernel
theorem dX11_comes_35 : decode cX11_comes 35 = .ok (.iconst 3, 1) := by decide +kernel
theorem dX11_comes_36 : decode cX11_comes 36 = .ok (.iconst 0, 1) := by decide +kernel
theorem dX11_comes_37 : decode cX11_comes 37 = .ok (.invokevirtual 82, 3) := by decide +kernel
theorem dX11_comes_40 : decode cX11_comes 40 = .ok (.aload_n 0, 1) := by decide +kernel
theorem dX11_comes_41 : decode cX11_comes 41 = .ok (.getfield 9, 3) := by decide +kernel
theorem dX11_comes_44 : decode cX11_comes 44 = .ok (.iconst 1, 1) := by decide +kernel
theorem dX11_comes_45 : decode cX11_comes 45 = .ok (.dup2, 1) := by decide +kernel
theorem dX11_comes_46 : decode cX11_comes 46 = .ok (.iaload, 1) := by decide +kernel
theorem dX11_comes_47 : decode cX11_comes 47 = .ok (.iconst 1, 1) := by decide +kernel
theorem dX11_comes_48 : decode cX11_comes 48 = .ok (.iadd, 1) := by decide +kernel
theorem dX11_comes_49 : decode cX11_comes 49 = .ok (.iastore, 1) := by decide +kernel
theorem dX11_comes_50 : decode cX11_comes 50 = .ok (.iload 4, 2) := by decide +kernel
theorem dX11_comes_52 : decode cX11_comes 52 = .ok (.ireturn, 1) := by decide +kernel
theorem dX11_isOf_0 : decode cX11_isOf 0 = .ok (.iload_n 1, 1) := by decide +kernel
theorem dX11_isOf_1 : decode cX11_isOf 1 = .ok (.iload_n 0, 1) := by decide +kernel
theorem dX11_isOf_2 : decode cX11_isOf 2 = .ok (.iconst 1, 1) := by decide +kernel
theorem dX11_isOf_3 : decode cX11_isOf 3 = .ok (.if_icmp .ne 7, 3) := by decide +kernel
theorem dX11_isOf_6 : decode cX11_isOf 6 = .ok (.iconst 0, 1) := by decide +kernel
theorem dX11_isOf_7 : decode cX11_isOf 7 = .ok (.goto 4, 3) := by decide +kernel
theorem dX11_isOf_10 : decode cX11_isOf 10 = .ok (.iconst 1, 1) := by decide +kernel
theorem dX11_isOf_11 : decode cX11_isOf 11 = .ok (.sipush 999, 3) := by decide +kernel
theorem dX11_isOf_14 : decode cX11_isOf 14 = .ok (.invokestatic 78, 3) := by decide +kernel
theorem dX11_isOf_17 : decode cX11_isOf 17 = .ok (.ireturn, 1) := by decide +kernel
theorem dX11_yard_0 : decode cX11_yard 0 = .ok (.iload_n 1, 1) := by decide +kernel
theorem dX11_yard_1 : decode cX11_yard 1 = .ok (.iconst 0, 1) := by decide +kernel
theorem dX11_yard_2 : decode cX11_yard 2 = .ok (.iconst 5, 1) := by decide +kernel
theorem dX11_yard_3 : decode cX11_yard 3 = .ok (.invokestatic 78, 3) := by decide +kernel
theorem dX11_yard_6 : decode cX11_yard 6 = .ok (.ifCond .eq 19, 3) := by decide +kernel
theorem dX11_yard_9 : decode cX11_yard 9 = .ok (.iconst 1, 1) := by decide +kernel
theorem dX11_yard_10 : decode cX11_yard 10 = .ok (.iload_n 2, 1) := by decide +kernel
theorem dX11_yard_11 : decode cX11_yard 11 = .ok (.invokestatic 86, 3) := by decide +kernel
theorem dX11_yard_14 : decode cX11_yard 14 = .ok (.ifCond .eq 11, 3) := by decide +kernel
theorem dX11_yard_17 : decode cX11_yard 17 = .ok (.iconst 2, 1) := by decide +kernel
theorem dX11_yard_18 : decode cX11_yard 18 = .ok (.iload_n 3, 1) := by decide +kernel
theorem dX11_yard_19 : decode cX11_yard 19 = .ok (.invokestatic 86, 3) := by decide +kernel
theorem dX11_yard_22 : decode cX11_yard 22 = .ok (.ifCond .ne 6, 3) := by decide +kernel
theorem dX11_yard_25 : decode cX11_yard 25 = .ok (.ldc 90, 2) := by decide +kernel
theorem dX11_yard_27 : decode cX11_yard 27 = .ok (.ireturn, 1) := by decide +kernel
theorem dX11_yard_28 : decode cX11_yard 28 = .ok (.aload_n 0, 1) := by decide +kernel
theorem dX11_yard_29 : decode cX11_yard 29 = .ok (.getfield 9, 3) := by decide +kernel
theorem dX11_yard_32 : decode cX11_yard 32 = .ok (.iconst 1, 1) := by decide +kernel
theorem dX11_yard_33 : decode cX11_yard 33 = .ok (.iaload, 1) := by decide +kernel
theorem dX11_yard_34 : decode cX11_yard 34 = .ok (.bipush 10, 2) := by decide +kernel
theorem dX11_yard_36 : decode cX11_yard 36 = .ok (.if_icmp .ne 8, 3) := by decide +kernel
theorem dX11_yard_39 : decode cX11_yard 39 = .ok (.ldc 91, 2) := by decide +kernel
theorem dX11_yard_41 : decode cX11_yard 41 = .ok (.goto 10, 3) := by decide +kernel
theorem dX11_yard_44 : decode cX11_yard 44 = .ok (.aload_n 0, 1) := by decide +kernel
theorem dX11_yard_45 : decode cX11_yard 45 = .ok (.iload_n 1, 1) := by decide +kernel
theorem dX11_yard_46 : decode cX11_yard 46 = .ok (.iload_n 2, 1) := by decide +kernel
theorem dX11_yard_47 : decode cX11_yard 47 = .ok (.iload_n 3, 1) := by decide +kernel
theorem dX11_yard_48 : decode cX11_yard 48 = .ok (.invokevirtual 92, 3) := by decide +kernel
theorem dX11_yard_51 : decode cX11_yard 51 = .ok (.ireturn, 1) := by decide +kernel
theorem dX11_weight_0 : decode cX11_weight 0 = .ok (.iconst 0, 1) := by decide +kernel
theorem dX11_weight_1 : decode cX11_weight 1 = .ok (.istore_n 1, 1) := by decide +kernel
theorem dX11_weight_2 : decode cX11_weight 2 = .ok (.iconst 0, 1) := by decide +kernel
theorem dX11_weight_3 : decode cX11_weight 3 = .ok (.istore_n 2, 1) := by decide +kernel
theorem dX11_weight_4 : decode cX11_weight 4 = .ok (.iload_n 2, 1) := by decide +kernel
theorem dX11_weight_5 : decode cX11_weight 5 = .ok (.aload_n 0, 1) := by decide +kernel
theorem dX11_weight_6 : decode cX11_weight 6 = .ok (.getfield 9, 3) := by decide +kernel
theorem dX11_weight_9 : decode cX11_weight 9 = .ok (.bipush 7, 2) := by decide +kernel
theorem dX11_weight_11 : decode cX11_weight 11 = .ok (.iaload, 1) := by decide +kernel
theorem dX11_weight_12 : decode cX11_weight 12 = .ok (.if_icmp .ge 25, 3) := by decide +kernel
theorem dX11_weight_15 : decode cX11_weight 15 = .ok (.iload_n 1, 1) := by decide +kernel
theorem dX11_weight_16 : decode cX11_weight 16 = .ok (.aload_n 0, 1) := by decide +kernel
theorem dX11_weight_17 : decode cX11_weight 17 = .ok (.getfield 9, 3) := by decide +kernel
theorem dX11_weight_20 : decode cX11_weight 20 = .ok (.bipush 16, 2) := by decide +kernel
theorem dX11_weight_22 : decode cX11_weight 22 = .ok (.iconst 2, 1) := by decide +kernel
theorem dX11_weight_23 : decode cX11_weight 23 = .ok (.iload_n 2, 1) := by decide +kernel
theorem dX11_weight_24 : decode cX11_weight 24 = .ok (.imul, 1) := by decide +kernel
theorem dX11_weight_25 : decode cX11_weight 25 = .ok (.iadd, 1) := by decide +kernel
theorem dX11_weight_26 : decode cX11_weight 26 = .ok (.iconst 1, 1) := by decide +kernel
theorem dX11_weight_27 : decode cX11_weight 27 = .ok (.iadd, 1) := by decide +kernel
theorem dX11_weight_28 : decode cX11_weight 28 = .ok (.iaload, 1) := by decide +kernel
theorem dX11_weight_29 : decode cX11_weight 29 = .ok (.iadd, 1) := by decide +kernel
theorem dX11_weight_30 : decode cX11_weight 30 = .ok (.istore_n 1, 1) := by decide +kernel
theorem dX11_weight_31 : decode cX11_weight 31 = .ok (.iinc 2 1, 3) := by decide +kernel
theorem dX11_weight_34 : decode cX11_weight 34 = .ok (.goto (-30), 3) := by decide +kernel
theorem dX11_weight_37 : decode cX11_weight 37 = .ok (.iload_n 1, 1) := by decide +kernel
theorem dX11_weight_38 : decode cX11_weight 38 = .ok (.ireturn, 1) := by decide +kernel
theorem dX11_wide_0 : decode cX11_wide 0 = .ok (.aload_n 0, 1) := by decide +kernel
theorem dX11_wide_1 : decode cX11_wide 1 = .ok (.iconst 0, 1) := by decide +kernel
theorem dX11_wide_2 : decode cX11_wide 2 = .ok (.invokevirtual 96, 3) := by decide +kernel
theorem dX11_wide_5 : decode cX11_wide 5 = .ok (.istore_n 1, 1) := by decide +kernel
theorem dX11_wide_6 : decode cX11_wide 6 = .ok (.aload_n 0, 1) := by decide +kernel
theorem dX11_wide_7 : decode cX11_wide 7 = .ok (.invokevirtual 100, 3) := by decide +kernel
theorem dX11_wide_10 : decode cX11_wide 10 = .ok (.istore_n 2, 1) := by decide +kernel
theorem dX11_wide_11 : decode cX11_wide 11 = .ok (.aload_n 0, 1) := by decide +kernel
theorem dX11_wide_12 : decode cX11_wide 12 = .ok (.getfield 48, 3) := by decide +kernel
theorem dX11_wide_15 : decode cX11_wide 15 = .ok (.iconst 0, 1) := by decide +kernel
theorem dX11_wide_16 : decode cX11_wide 16 = .ok (.iload_n 2, 1) := by decide +kernel
theorem dX11_wide_17 : decode cX11_wide 17 = .ok (.iastore, 1) := by decide +kernel
theorem dX11_wide_18 : decode cX11_wide 18 = .ok (.aload_n 0, 1) := by decide +kernel
theorem dX11_wide_19 : decode cX11_wide 19 = .ok (.getfield 48, 3) := by decide +kernel
theorem dX11_wide_22 : decode cX11_wide 22 = .ok (.iconst 1, 1) := by decide +kernel
theorem dX11_wide_23 : decode cX11_wide 23 = .ok (.aload_n 0, 1) := by decide +kernel
theorem dX11_wide_24 : decode cX11_wide 24 = .ok (.getfield 9, 3) := by decide +kernel
theorem dX11_wide_27 : decode cX11_wide 27 = .ok (.bipush 7, 2) := by decide +kernel
theorem dX11_wide_29 : decode cX11_wide 29 = .ok (.iaload, 1) := by decide +kernel
theorem dX11_wide_30 : decode cX11_wide 30 = .ok (.iastore, 1) := by decide +kernel
theorem dX11_wide_31 : decode cX11_wide 31 = .ok (.iload_n 1, 1) := by decide +kernel
theorem dX11_wide_32 : decode cX11_wide 32 = .ok (.ifCond .ge 10, 3) := by decide +kernel
theorem dX11_wide_35 : decode cX11_wide 35 = .ok (.iload_n 2, 1) := by decide +kernel
theorem dX11_wide_36 : decode cX11_wide 36 = .ok (.bipush 10, 2) := by decide +kernel
theorem dX11_wide_38 : decode cX11_wide 38 = .ok (.idiv, 1) := by decide +kernel
theorem dX11_wide_39 : decode cX11_wide 39 = .ok (.goto 8, 3) := by decide +kernel
theorem dX11_wide_42 : decode cX11_wide 42 = .ok (.aload_n 0, 1) := by decide +kernel
theorem dX11_wide_43 : decode cX11_wide 43 = .ok (.iload_n 1, 1) := by decide +kernel
theorem dX11_wide_44 : decode cX11_wide 44 = .ok (.invokevirtual 104, 3) := by decide +kernel
theorem dX11_wide_47 : decode cX11_wide 47 = .ok (.iconst 0, 1) := by decide +kernel
theorem dX11_wide_48 : decode cX11_wide 48 = .ok (.sipush 999, 3) := by decide +kernel
theorem dX11_wide_51 : decode cX11_wide 51 = .ok (.invokestatic 107, 3) := by decide +kernel
theorem dX11_wide_54 : decode cX11_wide 54 = .ok (.ireturn, 1) := by decide +kernel
theorem dX11_givesOf_0 : decode cX11_givesOf 0 = .ok (.aload_n 0, 1) := by decide +kernel
theorem dX11_givesOf_1 : decode cX11_givesOf 1 = .ok (.iload_n 1, 1) := by decide +kernel
theorem dX11_givesOf_2 : decode cX11_givesOf 2 = .ok (.iconst 1, 1) := by decide +kernel
theorem dX11_givesOf_3 : decode cX11_givesOf 3 = .ok (.invokevirtual 110, 3) := by decide +kernel
theorem dX11_givesOf_6 : decode cX11_givesOf 6 = .ok (.istore_n 2, 1) := by decide +kernel
theorem dX11_givesOf_7 : decode cX11_givesOf 7 = .ok (.aload_n 0, 1) := by decide +kernel
theorem dX11_givesOf_8 : decode cX11_givesOf 8 = .ok (.iconst 1, 1) := by decide +kernel
theorem dX11_givesOf_9 : decode cX11_givesOf 9 = .ok (.invokevirtual 96, 3) := by decide +kernel
theorem dX11_givesOf_12 : decode cX11_givesOf 12 = .ok (.istore_n 3, 1) := by decide +kernel
theorem dX11_givesOf_13 : decode cX11_givesOf 13 = .ok (.aload_n 0, 1) := by decide +kernel
theorem dX11_givesOf_14 : decode cX11_givesOf 14 = .ok (.getfield 48, 3) := by decide +kernel
theorem dX11_givesOf_17 : decode cX11_givesOf 17 = .ok (.iconst 0, 1) := by decide +kernel
theorem dX11_givesOf_18 : decode cX11_givesOf 18 = .ok (.iload_n 2, 1) := by decide +kernel
theorem dX11_givesOf_19 : decode cX11_givesOf 19 = .ok (.iastore, 1) := by decide +kernel
theorem dX11_givesOf_20 : decode cX11_givesOf 20 = .ok (.aload_n 0, 1) := by decide +kernel
theorem dX11_givesOf_21 : decode cX11_givesOf 21 = .ok (.getfield 48, 3) := by decide +kernel
theorem dX11_givesOf_24 : decode cX11_givesOf 24 = .ok (.iconst 1, 1) := by decide +kernel
theorem dX11_givesOf_25 : decode cX11_givesOf 25 = .ok (.aload_n 0, 1) := by decide +kernel
theorem dX11_givesOf_26 : decode cX11_givesOf 26 = .ok (.invokevirtual 100, 3) := by decide +kernel
theorem dX11_givesOf_29 : decode cX11_givesOf 29 = .ok (.iastore, 1) := by decide +kernel
theorem dX11_givesOf_30 : decode cX11_givesOf 30 = .ok (.aload_n 0, 1) := by decide +kernel
theorem dX11_givesOf_31 : decode cX11_givesOf 31 = .ok (.getfield 48, 3) := by decide +kernel
theorem dX11_givesOf_34 : decode cX11_givesOf 34 = .ok (.iconst 2, 1) := by decide +kernel
theorem dX11_givesOf_35 : decode cX11_givesOf 35 = .ok (.aload_n 0, 1) := by decide +kernel
theorem dX11_givesOf_36 : decode cX11_givesOf 36 = .ok (.getfield 9, 3) := by decide +kernel
theorem dX11_givesOf_39 : decode cX11_givesOf 39 = .ok (.iconst 2, 1) := by decide +kernel
theorem dX11_givesOf_40 : decode cX11_givesOf 40 = .ok (.iaload, 1) := by decide +kernel
theorem dX11_givesOf_41 : decode cX11_givesOf 41 = .ok (.iastore, 1) := by decide +kernel
theorem dX11_givesOf_42 : decode cX11_givesOf 42 = .ok (.iload_n 3, 1) := by decide +kernel
theorem dX11_givesOf_43 : decode cX11_givesOf 43 = .ok (.ifCond .ge 9, 3) := by decide +kernel
theorem dX11_givesOf_46 : decode cX11_givesOf 46 = .ok (.iload_n 2, 1) := by decide +kernel
theorem dX11_givesOf_47 : decode cX11_givesOf 47 = .ok (.iconst 2, 1) := by decide +kernel
theorem dX11_givesOf_48 : decode cX11_givesOf 48 = .ok (.idiv, 1) := by decide +kernel
theorem dX11_givesOf_49 : decode cX11_givesOf 49 = .ok (.goto 8, 3) := by decide +kernel
theorem dX11_givesOf_52 : decode cX11_givesOf 52 = .ok (.aload_n 0, 1) := by decide +kernel
theorem dX11_givesOf_53 : decode cX11_givesOf 53 = .ok (.iload_n 3, 1) := by decide +kernel
theorem dX11_givesOf_54 : decode cX11_givesOf 54 = .ok (.invokevirtual 104, 3) := by decide +kernel
theorem dX11_givesOf_57 : decode cX11_givesOf 57 = .ok (.iconst 0, 1) := by decide +kernel
theorem dX11_givesOf_58 : decode cX11_givesOf 58 = .ok (.iload_n 2, 1) := by decide +kernel
theorem dX11_givesOf_59 : decode cX11_givesOf 59 = .ok (.invokestatic 107, 3) := by decide +kernel
theorem dX11_givesOf_62 : decode cX11_givesOf 62 = .ok (.istore 4, 2) := by decide +kernel
theorem dX11_givesOf_64 : decode cX11_givesOf 64 = .ok (.iload 4, 2) := by decide +kernel
theorem dX11_givesOf_66 : decode cX11_givesOf 66 = .ok (.bipush 10, 2) := by decide +kernel
theorem dX11_givesOf_68 : decode cX11_givesOf 68 = .ok (.iadd, 1) := by decide +kernel
theorem dX11_givesOf_69 : decode cX11_givesOf 69 = .ok (.iconst 0, 1) := by decide +kernel
theorem dX11_givesOf_70 : decode cX11_givesOf 70 = .ok (.iload_n 2, 1) := by decide +kernel
theorem dX11_givesOf_71 : decode cX11_givesOf 71 = .ok (.invokestatic 107, 3) := by decide +kernel
theorem dX11_givesOf_74 : decode cX11_givesOf 74 = .ok (.istore 5, 2) := by decide +kernel
theorem dX11_givesOf_76 : decode cX11_givesOf 76 = .ok (.aload_n 0, 1) := by decide +kernel
theorem dX11_givesOf_77 : decode cX11_givesOf 77 = .ok (.iload_n 1, 1) := by decide +kernel
theorem dX11_givesOf_78 : decode cX11_givesOf 78 = .ok (.iconst 0, 1) := by decide +kernel
theorem dX11_givesOf_79 : decode cX11_givesOf 79 = .ok (.invokevirtual 110, 3) := by decide +kernel
theorem dX11_givesOf_82 : decode cX11_givesOf 82 = .ok (.tableswitch 54 1 5 #[34, 39, 34, 42, 52], 34) := by decide +kernel
theorem dX11_givesOf_116 : decode cX11_givesOf 116 = .ok (.iload 4, 2) := by decide +kernel
theorem dX11_givesOf_118 : decode cX11_givesOf 118 = .ok (.iconst 2, 1) := by decide +kernel
theorem dX11_givesOf_119 : decode cX11_givesOf 119 = .ok (.idiv, 1) := by decide +kernel
theorem dX11_givesOf_120 : decode cX11_givesOf 120 = .ok (.ireturn, 1) := by decide +kernel
theorem dX11_givesOf_121 : decode cX11_givesOf 121 = .ok (.iload 5, 2) := by decide +kernel
theorem dX11_givesOf_123 : decode cX11_givesOf 123 = .ok (.ireturn, 1) := by decide +kernel
theorem dX11_givesOf_124 : decode cX11_givesOf 124 = .ok (.iconst 2, 1) := by decide +kernel
theorem dX11_givesOf_125 : decode cX11_givesOf 125 = .ok (.iload 5, 2) := by decide +kernel
theorem dX11_givesOf_127 : decode cX11_givesOf 127 = .ok (.imul, 1) := by decide +kernel
theorem dX11_givesOf_128 : decode cX11_givesOf 128 = .ok (.iconst 0, 1) := by decide +kernel
theorem dX11_givesOf_129 : decode cX11_givesOf 129 = .ok (.iload_n 2, 1) := by decide +kernel
theorem dX11_givesOf_130 : decode cX11_givesOf 130 = .ok (.invokestatic 107, 3) := by decide +kernel
theorem dX11_givesOf_133 : decode cX11_givesOf 133 = .ok (.ireturn, 1) := by decide +kernel
theorem dX11_givesOf_134 : decode cX11_givesOf 134 = .ok (.iconst 0, 1) := by decide +kernel
theorem dX11_givesOf_135 : decode cX11_givesOf 135 = .ok (.ireturn, 1) := by decide +kernel
theorem dX11_givesOf_136 : decode cX11_givesOf 136 = .ok (.iload 4, 2) := by decide +kernel
theorem dX11_givesOf_138 : decode cX11_givesOf 138 = .ok (.ireturn, 1) := by decide +kernel
theorem dX11_goesOnBy_0 : decode cX11_goesOnBy 0 = .ok (.aload_n 0, 1) := by decide +kernel
theorem dX11_goesOnBy_1 : decode cX11_goesOnBy 1 = .ok (.iload_n 1, 1) := by decide +kernel
theorem dX11_goesOnBy_2 : decode cX11_goesOnBy 2 = .ok (.iconst 0, 1) := by decide +kernel
theorem dX11_goesOnBy_3 : decode cX11_goesOnBy 3 = .ok (.invokevirtual 110, 3) := by decide +kernel
theorem dX11_goesOnBy_6 : decode cX11_goesOnBy 6 = .ok (.istore_n 2, 1) := by decide +kernel
theorem dX11_goesOnBy_7 : decode cX11_goesOnBy 7 = .ok (.iload_n 2, 1) := by decide +kernel
theorem dX11_goesOnBy_8 : decode cX11_goesOnBy 8 = .ok (.iconst 3, 1) := by decide +kernel
theorem dX11_goesOnBy_9 : decode cX11_goesOnBy 9 = .ok (.if_icmp .ne 7, 3) := by decide +kernel
theorem dX11_goesOnBy_12 : decode cX11_goesOnBy 12 = .ok (.iconst 2, 1) := by decide +kernel
theorem dX11_goesOnBy_13 : decode cX11_goesOnBy 13 = .ok (.goto 24, 3) := by decide +kernel
theorem dX11_goesOnBy_16 : decode cX11_goesOnBy 16 = .ok (.iload_n 2, 1) := by decide +kernel
theorem dX11_goesOnBy_17 : decode cX11_goesOnBy 17 = .ok (.iconst 5, 1) := by decide +kernel
theorem dX11_goesOnBy_18 : decode cX11_goesOnBy 18 = .ok (.if_icmp .ne 18, 3) := by decide +kernel
theorem dX11_goesOnBy_21 : decode cX11_goesOnBy 21 = .ok (.aload_n 0, 1) := by decide +kernel
theorem dX11_goesOnBy_22 : decode cX11_goesOnBy 22 = .ok (.getfield 9, 3) := by decide +kernel
theorem dX11_goesOnBy_25 : decode cX11_goesOnBy 25 = .ok (.iconst 2, 1) := by decide +kernel
theorem dX11_goesOnBy_26 : decode cX11_goesOnBy 26 = .ok (.iaload, 1) := by decide +kernel
theorem dX11_goesOnBy_27 : decode cX11_goesOnBy 27 = .ok (.iconst 2, 1) := by decide +kernel
theorem dX11_goesOnBy_28 : decode cX11_goesOnBy 28 = .ok (.irem, 1) := by decide +kernel
theorem dX11_goesOnBy_29 : decode cX11_goesOnBy 29 = .ok (.ifCond .ne 7, 3) := by decide +kernel
theorem dX11_goesOnBy_32 : decode cX11_goesOnBy 32 = .ok (.iconst 0, 1) := by decide +kernel
theorem dX11_goesOnBy_33 : decode cX11_goesOnBy 33 = .ok (.goto 4, 3) := by decide +kernel
theorem dX11_goesOnBy_36 : decode cX11_goesOnBy 36 = .ok (.iconst 1, 1) := by decide +kernel
theorem dX11_goesOnBy_37 : decode cX11_goesOnBy 37 = .ok (.ireturn, 1) := by decide +kernel
theorem dX11_worthOf_0 : decode cX11_worthOf 0 = .ok (.aload_n 0, 1) := by decide +kernel
theorem dX11_worthOf_1 : decode cX11_worthOf 1 = .ok (.iload_n 1, 1) := by decide +kernel
theorem dX11_worthOf_2 : decode cX11_worthOf 2 = .ok (.iconst 1, 1) := by decide +kernel
theorem dX11_worthOf_3 : decode cX11_worthOf 3 = .ok (.invokevirtual 110, 3) := by decide +kernel
theorem dX11_worthOf_6 : decode cX11_worthOf 6 = .ok (.istore_n 2, 1) := by decide +kernel
theorem dX11_worthOf_7 : decode cX11_worthOf 7 = .ok (.aload_n 0, 1) := by decide +kernel
theorem dX11_worthOf_8 : decode cX11_worthOf 8 = .ok (.iload_n 1, 1) := by decide +kernel
theorem dX11_worthOf_9 : decode cX11_worthOf 9 = .ok (.iconst 0, 1) := by decide +kernel
theorem dX11_worthOf_10 : decode cX11_worthOf 10 = .ok (.invokevirtual 110, 3) := by decide +kernel
theorem dX11_worthOf_13 : decode cX11_worthOf 13 = .ok (.tableswitch 64 1 5 #[35, 39, 45, 51, 57], 35) := by decide +kernel
theorem dX11_worthOf_48 : decode cX11_worthOf 48 = .ok (.iload_n 2, 1) := by decide +kernel
theorem dX11_worthOf_49 : decode cX11_worthOf 49 = .ok (.iconst 5, 1) := by decide +kernel
theorem dX11_worthOf_50 : decode cX11_worthOf 50 = .ok (.iadd, 1) := by decide +kernel
theorem dX11_worthOf_51 : decode cX11_worthOf 51 = .ok (.ireturn, 1) := by decide +kernel
theorem dX11_worthOf_52 : decode cX11_worthOf 52 = .ok (.sipush 999, 3) := by decide +kernel
theorem dX11_worthOf_55 : decode cX11_worthOf 55 = .ok (.iload_n 2, 1) := by decide +kernel
theorem dX11_worthOf_56 : decode cX11_worthOf 56 = .ok (.isub, 1) := by decide +kernel
theorem dX11_worthOf_57 : decode cX11_worthOf 57 = .ok (.ireturn, 1) := by decide +kernel
theorem dX11_worthOf_58 : decode cX11_worthOf 58 = .ok (.iconst 2, 1) := by decide +kernel
theorem dX11_worthOf_59 : decode cX11_worthOf 59 = .ok (.iload_n 2, 1) := by decide +kernel
theorem dX11_worthOf_60 : decode cX11_worthOf 60 = .ok (.iconst 5, 1) := by decide +kernel
theorem dX11_worthOf_61 : decode cX11_worthOf 61 = .ok (.iadd, 1) := by decide +kernel
theorem dX11_worthOf_62 : decode cX11_worthOf 62 = .ok (.imul, 1) := by decide +kernel
theorem dX11_worthOf_63 : decode cX11_worthOf 63 = .ok (.ireturn, 1) := by decide +kernel
theorem dX11_worthOf_64 : decode cX11_worthOf 64 = .ok (.sipush 991, 3) := by decide +kernel
theorem dX11_worthOf_67 : decode cX11_worthOf 67 = .ok (.iload_n 2, 1) := by decide +kernel
theorem dX11_worthOf_68 : decode cX11_worthOf 68 = .ok (.isub, 1) := by decide +kernel
theorem dX11_worthOf_69 : decode cX11_worthOf 69 = .ok (.ireturn, 1) := by decide +kernel
theorem dX11_worthOf_70 : decode cX11_worthOf 70 = .ok (.aload_n 0, 1) := by decide +kernel
theorem dX11_worthOf_71 : decode cX11_worthOf 71 = .ok (.iload_n 1, 1) := by decide +kernel
theorem dX11_worthOf_72 : decode cX11_worthOf 72 = .ok (.iconst 2, 1) := by decide +kernel
theorem dX11_worthOf_73 : decode cX11_worthOf 73 = .ok (.invokevirtual 110, 3) := by decide +kernel
theorem dX11_worthOf_76 : decode cX11_worthOf 76 = .ok (.ireturn, 1) := by decide +kernel
theorem dX11_worthOf_77 : decode cX11_worthOf 77 = .ok (.iload_n 2, 1) := by decide +kernel
theorem dX11_worthOf_78 : decode cX11_worthOf 78 = .ok (.ireturn, 1) := by decide +kernel
theorem dX11_ledTo_0 : decode cX11_ledTo 0 = .ok (.iconst 0, 1) := by decide +kernel
theorem dX11_ledTo_1 : decode cX11_ledTo 1 = .ok (.istore_n 2, 1) := by decide +kernel
theorem dX11_ledTo_2 : decode cX11_ledTo 2 = .ok (.iconst 0, 1) := by decide +kernel
theorem dX11_ledTo_3 : decode cX11_ledTo 3 = .ok (.istore_n 3, 1) := by decide +kernel
theorem dX11_ledTo_4 : decode cX11_ledTo 4 = .ok (.iload_n 3, 1) := by decide +kernel
theorem dX11_ledTo_5 : decode cX11_ledTo 5 = .ok (.aload_n 0, 1) := by decide +kernel
theorem dX11_ledTo_6 : decode cX11_ledTo 6 = .ok (.getfield 9, 3) := by decide +kernel
theorem dX11_ledTo_9 : decode cX11_ledTo 9 = .ok (.bipush 7, 2) := by decide +kernel
theorem dX11_ledTo_11 : decode cX11_ledTo 11 = .ok (.iaload, 1) := by decide +kernel
theorem dX11_ledTo_12 : decode cX11_ledTo 12 = .ok (.if_icmp .ge 44, 3) := by decide +kernel
theorem dX11_ledTo_15 : decode cX11_ledTo 15 = .ok (.iload_n 2, 1) := by decide +kernel
theorem dX11_ledTo_16 : decode cX11_ledTo 16 = .ok (.aload_n 0, 1) := by decide +kernel
theorem dX11_ledTo_17 : decode cX11_ledTo 17 = .ok (.getfield 9, 3) := by decide +kernel
theorem dX11_ledTo_20 : decode cX11_ledTo 20 = .ok (.bipush 16, 2) := by decide +kernel
theorem dX11_ledTo_22 : decode cX11_ledTo 22 = .ok (.iconst 2, 1) := by decide +kernel
theorem dX11_ledTo_23 : decode cX11_ledTo 23 = .ok (.iload_n 3, 1) := by decide +kernel
theorem dX11_ledTo_24 : decode cX11_ledTo 24 = .ok (.imul, 1) := by decide +kernel
theorem dX11_ledTo_25 : decode cX11_ledTo 25 = .ok (.iadd, 1) := by decide +kernel
theorem dX11_ledTo_26 : decode cX11_ledTo 26 = .ok (.iaload, 1) := by decide +kernel
theorem dX11_ledTo_27 : decode cX11_ledTo 27 = .ok (.iload_n 1, 1) := by decide +kernel
theorem dX11_ledTo_28 : decode cX11_ledTo 28 = .ok (.if_icmp .ne 19, 3) := by decide +kernel
theorem dX11_ledTo_31 : decode cX11_ledTo 31 = .ok (.aload_n 0, 1) := by decide +kernel
theorem dX11_ledTo_32 : decode cX11_ledTo 32 = .ok (.getfield 9, 3) := by decide +kernel
theorem dX11_ledTo_35 : decode cX11_ledTo 35 = .ok (.bipush 16, 2) := by decide +kernel
theorem dX11_ledTo_37 : decode cX11_ledTo 37 = .ok (.iconst 2, 1) := by decide +kernel
theorem dX11_ledTo_38 : decode cX11_ledTo 38 = .ok (.iload_n 3, 1) := by decide +kernel
theorem dX11_ledTo_39 : decode cX11_ledTo 39 = .ok (.imul, 1) := by decide +kernel
theorem dX11_ledTo_40 : decode cX11_ledTo 40 = .ok (.iadd, 1) := by decide +kernel
theorem dX11_ledTo_41 : decode cX11_ledTo 41 = .ok (.iconst 1, 1) := by decide +kernel
theorem dX11_ledTo_42 : decode cX11_ledTo 42 = .ok (.iadd, 1) := by decide +kernel
theorem dX11_ledTo_43 : decode cX11_ledTo 43 = .ok (.iaload, 1) := by decide +kernel
theorem dX11_ledTo_44 : decode cX11_ledTo 44 = .ok (.goto 4, 3) := by decide +kernel
theorem dX11_ledTo_47 : decode cX11_ledTo 47 = .ok (.iconst 0, 1) := by decide +kernel
theorem dX11_ledTo_48 : decode cX11_ledTo 48 = .ok (.iadd, 1) := by decide +kernel
theorem dX11_ledTo_49 : decode cX11_ledTo 49 = .ok (.istore_n 2, 1) := by decide +kernel
theorem dX11_ledTo_50 : decode cX11_ledTo 50 = .ok (.iinc 3 1, 3) := by decide +kernel
theorem dX11_ledTo_53 : decode cX11_ledTo 53 = .ok (.goto (-49), 3) := by decide +kernel
theorem dX11_ledTo_56 : decode cX11_ledTo 56 = .ok (.iload_n 2, 1) := by decide +kernel
theorem dX11_ledTo_57 : decode cX11_ledTo 57 = .ok (.ireturn, 1) := by decide +kernel
theorem dX11_told_0 : decode cX11_told 0 = .ok (.aload_n 0, 1) := by decide +kernel
theorem dX11_told_1 : decode cX11_told 1 = .ok (.iload_n 1, 1) := by decide +kernel
theorem dX11_told_2 : decode cX11_told 2 = .ok (.invokevirtual 114, 3) := by decide +kernel
theorem dX11_told_5 : decode cX11_told 5 = .ok (.ifCond .ne 6, 3) := by decide +kernel
theorem dX11_told_8 : decode cX11_told 8 = .ok (.ldc 90, 2) := by decide +kernel
theorem dX11_told_10 : decode cX11_told 10 = .ok (.ireturn, 1) := by decide +kernel
theorem dX11_told_11 : decode cX11_told 11 = .ok (.iload_n 2, 1) := by decide +kernel
theorem dX11_told_12 : decode cX11_told 12 = .ok (.tableswitch 79 0 7 #[48, 48, 48, 48, 55, 61, 67, 73], 48) := by decide +kernel
theorem dX11_told_60 : decode cX11_told 60 = .ok (.aload_n 0, 1) := by decide +kernel
theorem dX11_told_61 : decode cX11_told 61 = .ok (.iload_n 1, 1) := by decide +kernel
theorem dX11_told_62 : decode cX11_told 62 = .ok (.iload_n 2, 1) := by decide +kernel
theorem dX11_told_63 : decode cX11_told 63 = .ok (.invokevirtual 110, 3) := by decide +kernel
theorem dX11_told_66 : decode cX11_told 66 = .ok (.ireturn, 1) := by decide +kernel
theorem dX11_told_67 : decode cX11_told 67 = .ok (.aload_n 0, 1) := by decide +kernel
theorem dX11_told_68 : decode cX11_told 68 = .ok (.iload_n 1, 1) := by decide +kernel
theorem dX11_told_69 : decode cX11_told 69 = .ok (.invokevirtual 118, 3) := by decide +kernel
theorem dX11_told_72 : decode cX11_told 72 = .ok (.ireturn, 1) := by decide +kernel
theorem dX11_told_73 : decode cX11_told 73 = .ok (.aload_n 0, 1) := by decide +kernel
theorem dX11_told_74 : decode cX11_told 74 = .ok (.iload_n 1, 1) := by decide +kernel
theorem dX11_told_75 : decode cX11_told 75 = .ok (.invokevirtual 121, 3) := by decide +kernel
theorem dX11_told_78 : decode cX11_told 78 = .ok (.ireturn, 1) := by decide +kernel
theorem dX11_told_79 : decode cX11_told 79 = .ok (.aload_n 0, 1) := by decide +kernel
theorem dX11_told_80 : decode cX11_told 80 = .ok (.iload_n 1, 1) := by decide +kernel
theorem dX11_told_81 : decode cX11_told 81 = .ok (.invokevirtual 124, 3) := by decide +kernel
theorem dX11_told_84 : decode cX11_told 84 = .ok (.ireturn, 1) := by decide +kernel
theorem dX11_told_85 : decode cX11_told 85 = .ok (.aload_n 0, 1) := by decide +kernel
theorem dX11_told_86 : decode cX11_told 86 = .ok (.iload_n 1, 1) := by decide +kernel
theorem dX11_told_87 : decode cX11_told 87 = .ok (.invokevirtual 127, 3) := by decide +kernel
theorem dX11_told_90 : decode cX11_told 90 = .ok (.ireturn, 1) := by decide +kernel
theorem dX11_told_91 : decode cX11_told 91 = .ok (.ldc 90, 2) := by decide +kernel
theorem dX11_told_93 : decode cX11_told 93 = .ok (.ireturn, 1) := by decide +kernel
theorem dX11_isUnder_0 : decode cX11_isUnder 0 = .ok (.iload_n 1, 1) := by decide +kernel
theorem dX11_isUnder_1 : decode cX11_isUnder 1 = .ok (.ifCond .eq 28, 3) := by decide +kernel
theorem dX11_isUnder_4 : decode cX11_isUnder 4 = .ok (.iload_n 0, 1) := by decide +kernel
theorem dX11_isUnder_5 : decode cX11_isUnder 5 = .ok (.iload_n 1, 1) := by decide +kernel
theorem dX11_isUnder_6 : decode cX11_isUnder 6 = .ok (.if_icmp .eq 23, 3) := by decide +kernel
theorem dX11_isUnder_9 : decode cX11_isUnder 9 = .ok (.iload_n 1, 1) := by decide +kernel
theorem dX11_isUnder_10 : decode cX11_isUnder 10 = .ok (.iconst 1, 1) := by decide +kernel
theorem dX11_isUnder_11 : decode cX11_isUnder 11 = .ok (.if_icmp .ne 8, 3) := by decide +kernel
theorem dX11_isUnder_14 : decode cX11_isUnder 14 = .ok (.iload_n 0, 1) := by decide +kernel
theorem dX11_isUnder_15 : decode cX11_isUnder 15 = .ok (.iconst 3, 1) := by decide +kernel
theorem dX11_isUnder_16 : decode cX11_isUnder 16 = .ok (.if_icmp .eq 13, 3) := by decide +kernel
theorem dX11_isUnder_19 : decode cX11_isUnder 19 = .ok (.iload_n 1, 1) := by decide +kernel
theorem dX11_isUnder_20 : decode cX11_isUnder 20 = .ok (.iconst 2, 1) := by decide +kernel
theorem dX11_isUnder_21 : decode cX11_isUnder 21 = .ok (.if_icmp .ne 12, 3) := by decide +kernel
theorem dX11_isUnder_24 : decode cX11_isUnder 24 = .ok (.iload_n 0, 1) := by decide +kernel
theorem dX11_isUnder_25 : decode cX11_isUnder 25 = .ok (.iconst 4, 1) := by decide +kernel
theorem dX11_isUnder_26 : decode cX11_isUnder 26 = .ok (.if_icmp .ne 7, 3) := by decide +kernel
theorem dX11_isUnder_29 : decode cX11_isUnder 29 = .ok (.iconst 1, 1) := by decide +kernel
theorem dX11_isUnder_30 : decode cX11_isUnder 30 = .ok (.goto 4, 3) := by decide +kernel
theorem dX11_isUnder_33 : decode cX11_isUnder 33 = .ok (.iconst 0, 1) := by decide +kernel
theorem dX11_isUnder_34 : decode cX11_isUnder 34 = .ok (.ireturn, 1) := by decide +kernel
theorem dX11_as_0 : decode cX11_as 0 = .ok (.aload_n 0, 1) := by decide +kernel
theorem dX11_as_1 : decode cX11_as 1 = .ok (.iload_n 1, 1) := by decide +kernel
theorem dX11_as_2 : decode cX11_as 2 = .ok (.invokevirtual 114, 3) := by decide +kernel
theorem dX11_as_5 : decode cX11_as 5 = .ok (.ifCond .eq 12, 3) := by decide +kernel
theorem dX11_as_8 : decode cX11_as 8 = .ok (.iload_n 2, 1) := by decide +kernel
theorem dX11_as_9 : decode cX11_as 9 = .ok (.iconst 0, 1) := by decide +kernel
theorem dX11_as_10 : decode cX11_as 10 = .ok (.iconst 5, 1) := by decide +kernel
theorem dX11_as_11 : decode cX11_as 11 = .ok (.invokestatic 78, 3) := by decide +kernel
theorem dX11_as_14 : decode cX11_as 14 = .ok (.ifCond .ne 6, 3) := by decide +kernel
theorem dX11_as_17 : decode cX11_as 17 = .ok (.ldc 90, 2) := by decide +kernel
theorem dX11_as_19 : decode cX11_as 19 = .ok (.ireturn, 1) := by decide +kernel
theorem dX11_as_20 : decode cX11_as 20 = .ok (.aload_n 0, 1) := by decide +kernel
theorem dX11_as_21 : decode cX11_as 21 = .ok (.iload_n 1, 1) := by decide +kernel
theorem dX11_as_22 : decode cX11_as 22 = .ok (.iconst 0, 1) := by decide +kernel
theorem dX11_as_23 : decode cX11_as 23 = .ok (.invokevirtual 110, 3) := by decide +kernel
theorem dX11_as_26 : decode cX11_as 26 = .ok (.iload_n 2, 1) := by decide +kernel
theorem dX11_as_27 : decode cX11_as 27 = .ok (.invokestatic 130, 3) := by decide +kernel
theorem dX11_as_30 : decode cX11_as 30 = .ok (.ifCond .eq 12, 3) := by decide +kernel
theorem dX11_as_33 : decode cX11_as 33 = .ok (.aload_n 0, 1) := by decide +kernel
theorem dX11_as_34 : decode cX11_as 34 = .ok (.iload_n 1, 1) := by decide +kernel
theorem dX11_as_35 : decode cX11_as 35 = .ok (.iconst 1, 1) := by decide +kernel
theorem dX11_as_36 : decode cX11_as 36 = .ok (.invokevirtual 110, 3) := by decide +kernel
theorem dX11_as_39 : decode cX11_as 39 = .ok (.goto 5, 3) := by decide +kernel
theorem dX11_as_42 : decode cX11_as 42 = .ok (.ldc 133, 2) := by decide +kernel
theorem dX11_as_44 : decode cX11_as 44 = .ok (.ireturn, 1) := by decide +kernel
theorem dX11_turns_0 : decode cX11_turns 0 = .ok (.aload_n 0, 1) := by decide +kernel
theorem dX11_turns_1 : decode cX11_turns 1 = .ok (.iload_n 1, 1) := by decide +kernel
theorem dX11_turns_2 : decode cX11_turns 2 = .ok (.invokevirtual 114, 3) := by decide +kernel
theorem dX11_turns_5 : decode cX11_turns 5 = .ok (.ifCond .eq 26, 3) := by decide +kernel
theorem dX11_turns_8 : decode cX11_turns 8 = .ok (.iload_n 2, 1) := by decide +kernel
theorem dX11_turns_9 : decode cX11_turns 9 = .ok (.iconst 0, 1) := by decide +kernel
theorem dX11_turns_10 : decode cX11_turns 10 = .ok (.iconst 5, 1) := by decide +kernel
theorem dX11_turns_11 : decode cX11_turns 11 = .ok (.invokestatic 78, 3) := by decide +kernel
theorem dX11_turns_14 : decode cX11_turns 14 = .ok (.ifCond .eq 17, 3) := by decide +kernel
theorem dX11_turns_17 : decode cX11_turns 17 = .ok (.aload_n 0, 1) := by decide +kernel
theorem dX11_turns_18 : decode cX11_turns 18 = .ok (.bipush 76, 2) := by decide +kernel
theorem dX11_turns_20 : decode cX11_turns 20 = .ok (.iconst 4, 1) := by decide +kernel
theorem dX11_turns_21 : decode cX11_turns 21 = .ok (.iload_n 1, 1) := by decide +kernel
theorem dX11_turns_22 : decode cX11_turns 22 = .ok (.imul, 1) := by decide +kernel
theorem dX11_turns_23 : decode cX11_turns 23 = .ok (.iadd, 1) := by decide +kernel
theorem dX11_turns_24 : decode cX11_turns 24 = .ok (.iload_n 2, 1) := by decide +kernel
theorem dX11_turns_25 : decode cX11_turns 25 = .ok (.invokevirtual 134, 3) := by decide +kernel
theorem dX11_turns_28 : decode cX11_turns 28 = .ok (.goto 5, 3) := by decide +kernel
theorem dX11_turns_31 : decode cX11_turns 31 = .ok (.ldc 90, 2) := by decide +kernel
theorem dX11_turns_33 : decode cX11_turns 33 = .ok (.ireturn, 1) := by decide +kernel
theorem dX11_set_0 : decode cX11_set 0 = .ok (.aload_n 0, 1) := by decide +kernel
theorem dX11_set_1 : decode cX11_set 1 = .ok (.iload_n 1, 1) := by decide +kernel
theorem dX11_set_2 : decode cX11_set 2 = .ok (.invokevirtual 114, 3) := by decide +kernel
theorem dX11_set_5 : decode cX11_set 5 = .ok (.ifCond .eq 36, 3) := by decide +kernel
theorem dX11_set_8 : decode cX11_set 8 = .ok (.iload_n 2, 1) := by decide +kernel
theorem dX11_set_9 : decode cX11_set 9 = .ok (.iconst 1, 1) := by decide +kernel
theorem dX11_set_10 : decode cX11_set 10 = .ok (.iconst 2, 1) := by decide +kernel
theorem dX11_set_11 : decode cX11_set 11 = .ok (.invokestatic 78, 3) := by decide +kernel
theorem dX11_set_14 : decode cX11_set 14 = .ok (.ifCond .eq 27, 3) := by decide +kernel
theorem dX11_set_17 : decode cX11_set 17 = .ok (.iload_n 2, 1) := by decide +kernel
theorem dX11_set_18 : decode cX11_set 18 = .ok (.iload_n 3, 1) := by decide +kernel
theorem dX11_set_19 : decode cX11_set 19 = .ok (.invokestatic 86, 3) := by decide +kernel
theorem dX11_set_22 : decode cX11_set 22 = .ok (.ifCond .eq 19, 3) := by decide +kernel
theorem dX11_set_25 : decode cX11_set 25 = .ok (.aload_n 0, 1) := by decide +kernel
theorem dX11_set_26 : decode cX11_set 26 = .ok (.bipush 76, 2) := by decide +kernel
theorem dX11_set_28 : decode cX11_set 28 = .ok (.iconst 4, 1) := by decide +kernel
theorem dX11_set_29 : decode cX11_set 29 = .ok (.iload_n 1, 1) := by decide +kernel
theorem dX11_set_30 : decode cX11_set 30 = .ok (.imul, 1) := by decide +kernel
theorem dX11_set_31 : decode cX11_set 31 = .ok (.iadd, 1) := by decide +kernel
theorem dX11_set_32 : decode cX11_set 32 = .ok (.iload_n 2, 1) := by decide +kernel
theorem dX11_set_33 : decode cX11_set 33 = .ok (.iadd, 1) := by decide +kernel
theorem dX11_set_34 : decode cX11_set 34 = .ok (.iload_n 3, 1) := by decide +kernel
theorem dX11_set_35 : decode cX11_set 35 = .ok (.invokevirtual 134, 3) := by decide +kernel
theorem dX11_set_38 : decode cX11_set 38 = .ok (.goto 5, 3) := by decide +kernel
theorem dX11_set_41 : decode cX11_set 41 = .ok (.ldc 90, 2) := by decide +kernel
theorem dX11_set_43 : decode cX11_set 43 = .ok (.ireturn, 1) := by decide +kernel
theorem dX11_draw_0 : decode cX11_draw 0 = .ok (.aload_n 0, 1) := by decide +kernel
theorem dX11_draw_1 : decode cX11_draw 1 = .ok (.getfield 9, 3) := by decide +kernel
theorem dX11_draw_4 : decode cX11_draw 4 = .ok (.iconst 0, 1) := by decide +kernel
theorem dX11_draw_5 : decode cX11_draw 5 = .ok (.aload_n 0, 1) := by decide +kernel
theorem dX11_draw_6 : decode cX11_draw 6 = .ok (.getfield 9, 3) := by decide +kernel
theorem dX11_draw_9 : decode cX11_draw 9 = .ok (.iconst 0, 1) := by decide +kernel
theorem dX11_draw_10 : decode cX11_draw 10 = .ok (.iaload, 1) := by decide +kernel
theorem dX11_draw_11 : decode cX11_draw 11 = .ok (.ldc 137, 2) := by decide +kernel
theorem dX11_draw_13 : decode cX11_draw 13 = .ok (.imul, 1) := by decide +kernel
theorem dX11_draw_14 : decode cX11_draw 14 = .ok (.sipush 12345, 3) := by decide +kernel
theorem dX11_draw_17 : decode cX11_draw 17 = .ok (.iadd, 1) := by decide +kernel
theorem dX11_draw_18 : decode cX11_draw 18 = .ok (.iastore, 1) := by decide +kernel
theorem dX11_draw_19 : decode cX11_draw 19 = .ok (.aload_n 0, 1) := by decide +kernel
theorem dX11_draw_20 : decode cX11_draw 20 = .ok (.getfield 9, 3) := by decide +kernel
theorem dX11_draw_23 : decode cX11_draw 23 = .ok (.iconst 0, 1) := by decide +kernel
theorem dX11_draw_24 : decode cX11_draw 24 = .ok (.iaload, 1) := by decide +kernel
theorem dX11_draw_25 : decode cX11_draw 25 = .ok (.bipush 8, 2) := by decide +kernel
theorem dX11_draw_27 : decode cX11_draw 27 = .ok (.iushr, 1) := by decide +kernel
theorem dX11_draw_28 : decode cX11_draw 28 = .ok (.ireturn, 1) := by decide +kernel
