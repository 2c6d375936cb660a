-- decode rows, by program
theorem dX11_deal_0 : decode cX11_deal 0 = .ok (.iload_n 1, 1) := by decide +kernel
theorem dX11_deal_1 : decode cX11_deal 1 = .ok (.iconst 1, 1) := by decide +kernel
theorem dX11_deal_2 : decode cX11_deal 2 = .ok (.bipush 10, 2) := by decide +kernel
theorem dX11_deal_4 : decode cX11_deal 4 = .ok (.invokestatic 78, 3) := by decide +kernel
theorem dX11_deal_7 : decode cX11_deal 7 = .ok (.ifCond .ne 6, 3) := by decide +kernel
theorem dX11_deal_10 : decode cX11_deal 10 = .ok (.ldc 90, 2) := by decide +kernel
theorem dX11_deal_12 : decode cX11_deal 12 = .ok (.ireturn, 1) := by decide +kernel
theorem dX11_deal_13 : decode cX11_deal 13 = .ok (.iconst 0, 1) := by decide +kernel
theorem dX11_deal_14 : decode cX11_deal 14 = .ok (.istore_n 2, 1) := by decide +kernel
theorem dX11_deal_15 : decode cX11_deal 15 = .ok (.iload_n 2, 1) := by decide +kernel
theorem dX11_deal_16 : decode cX11_deal 16 = .ok (.iload_n 1, 1) := by decide +kernel
theorem dX11_deal_17 : decode cX11_deal 17 = .ok (.if_icmp .ge 56, 3) := by decide +kernel
theorem dX11_deal_20 : decode cX11_deal 20 = .ok (.aload_n 0, 1) := by decide +kernel
theorem dX11_deal_21 : decode cX11_deal 21 = .ok (.getfield 9, 3) := by decide +kernel
theorem dX11_deal_24 : decode cX11_deal 24 = .ok (.iconst 1, 1) := by decide +kernel
theorem dX11_deal_25 : decode cX11_deal 25 = .ok (.iaload, 1) := by decide +kernel
theorem dX11_deal_26 : decode cX11_deal 26 = .ok (.bipush 10, 2) := by decide +kernel
theorem dX11_deal_28 : decode cX11_deal 28 = .ok (.if_icmp .ge 45, 3) := by decide +kernel
theorem dX11_deal_31 : decode cX11_deal 31 = .ok (.aload_n 0, 1) := by decide +kernel
theorem dX11_deal_32 : decode cX11_deal 32 = .ok (.invokevirtual 138, 3) := by decide +kernel
theorem dX11_deal_35 : decode cX11_deal 35 = .ok (.bipush 6, 2) := by decide +kernel
theorem dX11_deal_37 : decode cX11_deal 37 = .ok (.irem, 1) := by decide +kernel
theorem dX11_deal_38 : decode cX11_deal 38 = .ok (.istore_n 3, 1) := by decide +kernel
theorem dX11_deal_39 : decode cX11_deal 39 = .ok (.aload_n 0, 1) := by decide +kernel
theorem dX11_deal_40 : decode cX11_deal 40 = .ok (.invokevirtual 138, 3) := by decide +kernel
theorem dX11_deal_43 : decode cX11_deal 43 = .ok (.sipush 200, 3) := by decide +kernel
theorem dX11_deal_46 : decode cX11_deal 46 = .ok (.irem, 1) := by decide +kernel
theorem dX11_deal_47 : decode cX11_deal 47 = .ok (.istore 4, 2) := by decide +kernel
theorem dX11_deal_49 : decode cX11_deal 49 = .ok (.aload_n 0, 1) := by decide +kernel
theorem dX11_deal_50 : decode cX11_deal 50 = .ok (.iload_n 3, 1) := by decide +kernel
theorem dX11_deal_51 : decode cX11_deal 51 = .ok (.iload 4, 2) := by decide +kernel
theorem dX11_deal_53 : decode cX11_deal 53 = .ok (.iconst 1, 1) := by decide +kernel
theorem dX11_deal_54 : decode cX11_deal 54 = .ok (.aload_n 0, 1) := by decide +kernel
theorem dX11_deal_55 : decode cX11_deal 55 = .ok (.invokevirtual 138, 3) := by decide +kernel
theorem dX11_deal_58 : decode cX11_deal 58 = .ok (.bipush 100, 2) := by decide +kernel
theorem dX11_deal_60 : decode cX11_deal 60 = .ok (.irem, 1) := by decide +kernel
theorem dX11_deal_61 : decode cX11_deal 61 = .ok (.iadd, 1) := by decide +kernel
theorem dX11_deal_62 : decode cX11_deal 62 = .ok (.invokevirtual 92, 3) := by decide +kernel
theorem dX11_deal_65 : decode cX11_deal 65 = .ok (.istore 5, 2) := by decide +kernel
theorem dX11_deal_67 : decode cX11_deal 67 = .ok (.iinc 2 1, 3) := by decide +kernel
theorem dX11_deal_70 : decode cX11_deal 70 = .ok (.goto (-55), 3) := by decide +kernel
theorem dX11_deal_73 : decode cX11_deal 73 = .ok (.iload_n 2, 1) := by decide +kernel
theorem dX11_deal_74 : decode cX11_deal 74 = .ok (.ireturn, 1) := by decide +kernel
theorem dX11_seed_0 : decode cX11_seed 0 = .ok (.aload_n 0, 1) := by decide +kernel
theorem dX11_seed_1 : decode cX11_seed 1 = .ok (.iconst 0, 1) := by decide +kernel
theorem dX11_seed_2 : decode cX11_seed 2 = .ok (.iload_n 1, 1) := by decide +kernel
theorem dX11_seed_3 : decode cX11_seed 3 = .ok (.invokevirtual 134, 3) := by decide +kernel
theorem dX11_seed_6 : decode cX11_seed 6 = .ok (.ireturn, 1) := by decide +kernel
theorem dX11_rule_0 : decode cX11_rule 0 = .ok (.iload_n 1, 1) := by decide +kernel
theorem dX11_rule_1 : decode cX11_rule 1 = .ok (.iconst 0, 1) := by decide +kernel
theorem dX11_rule_2 : decode cX11_rule 2 = .ok (.iconst 2, 1) := by decide +kernel
theorem dX11_rule_3 : decode cX11_rule 3 = .ok (.invokestatic 78, 3) := by decide +kernel
theorem dX11_rule_6 : decode cX11_rule 6 = .ok (.ifCond .eq 44, 3) := by decide +kernel
theorem dX11_rule_9 : decode cX11_rule 9 = .ok (.iload_n 2, 1) := by decide +kernel
theorem dX11_rule_10 : decode cX11_rule 10 = .ok (.iload_n 1, 1) := by decide +kernel
theorem dX11_rule_11 : decode cX11_rule 11 = .ok (.iconst 2, 1) := by decide +kernel
theorem dX11_rule_12 : decode cX11_rule 12 = .ok (.if_icmp .ne 8, 3) := by decide +kernel
theorem dX11_rule_15 : decode cX11_rule 15 = .ok (.bipush (-9), 2) := by decide +kernel
theorem dX11_rule_17 : decode cX11_rule 17 = .ok (.goto 4, 3) := by decide +kernel
theorem dX11_rule_20 : decode cX11_rule 20 = .ok (.iconst 0, 1) := by decide +kernel
theorem dX11_rule_21 : decode cX11_rule 21 = .ok (.iload_n 1, 1) := by decide +kernel
theorem dX11_rule_22 : decode cX11_rule 22 = .ok (.iconst 2, 1) := by decide +kernel
theorem dX11_rule_23 : decode cX11_rule 23 = .ok (.if_icmp .ne 8, 3) := by decide +kernel
theorem dX11_rule_26 : decode cX11_rule 26 = .ok (.bipush 9, 2) := by decide +kernel
theorem dX11_rule_28 : decode cX11_rule 28 = .ok (.goto 5, 3) := by decide +kernel
theorem dX11_rule_31 : decode cX11_rule 31 = .ok (.bipush 99, 2) := by decide +kernel
theorem dX11_rule_33 : decode cX11_rule 33 = .ok (.invokestatic 78, 3) := by decide +kernel
theorem dX11_rule_36 : decode cX11_rule 36 = .ok (.ifCond .eq 14, 3) := by decide +kernel
theorem dX11_rule_39 : decode cX11_rule 39 = .ok (.aload_n 0, 1) := by decide +kernel
theorem dX11_rule_40 : decode cX11_rule 40 = .ok (.iconst 3, 1) := by decide +kernel
theorem dX11_rule_41 : decode cX11_rule 41 = .ok (.iload_n 1, 1) := by decide +kernel
theorem dX11_rule_42 : decode cX11_rule 42 = .ok (.iadd, 1) := by decide +kernel
theorem dX11_rule_43 : decode cX11_rule 43 = .ok (.iload_n 2, 1) := by decide +kernel
theorem dX11_rule_44 : decode cX11_rule 44 = .ok (.invokevirtual 134, 3) := by decide +kernel
theorem dX11_rule_47 : decode cX11_rule 47 = .ok (.goto 5, 3) := by decide +kernel
theorem dX11_rule_50 : decode cX11_rule 50 = .ok (.ldc 90, 2) := by decide +kernel
theorem dX11_rule_52 : decode cX11_rule 52 = .ok (.ireturn, 1) := by decide +kernel
theorem dX11_at_0 : decode cX11_at 0 = .ok (.aload_n 0, 1) := by decide +kernel
theorem dX11_at_1 : decode cX11_at 1 = .ok (.iload_n 1, 1) := by decide +kernel
theorem dX11_at_2 : decode cX11_at 2 = .ok (.invokevirtual 114, 3) := by decide +kernel
theorem dX11_at_5 : decode cX11_at 5 = .ok (.ifCond .eq 13, 3) := by decide +kernel
theorem dX11_at_8 : decode cX11_at 8 = .ok (.aload_n 0, 1) := by decide +kernel
theorem dX11_at_9 : decode cX11_at 9 = .ok (.bipush 6, 2) := by decide +kernel
theorem dX11_at_11 : decode cX11_at 11 = .ok (.iload_n 1, 1) := by decide +kernel
theorem dX11_at_12 : decode cX11_at 12 = .ok (.invokevirtual 134, 3) := by decide +kernel
theorem dX11_at_15 : decode cX11_at 15 = .ok (.goto 5, 3) := by decide +kernel
theorem dX11_at_18 : decode cX11_at 18 = .ok (.ldc 90, 2) := by decide +kernel
theorem dX11_at_20 : decode cX11_at 20 = .ok (.ireturn, 1) := by decide +kernel
theorem dX11_ball_0 : decode cX11_ball 0 = .ok (.iload_n 1, 1) := by decide +kernel
theorem dX11_ball_1 : decode cX11_ball 1 = .ok (.tableswitch 69 0 4 #[35, 40, 45, 53, 61], 35) := by decide +kernel
theorem dX11_ball_36 : decode cX11_ball 36 = .ok (.aload_n 0, 1) := by decide +kernel
theorem dX11_ball_37 : decode cX11_ball 37 = .ok (.invokevirtual 100, 3) := by decide +kernel
theorem dX11_ball_40 : decode cX11_ball 40 = .ok (.ireturn, 1) := by decide +kernel
theorem dX11_ball_41 : decode cX11_ball 41 = .ok (.aload_n 0, 1) := by decide +kernel
theorem dX11_ball_42 : decode cX11_ball 42 = .ok (.invokevirtual 141, 3) := by decide +kernel
theorem dX11_ball_45 : decode cX11_ball 45 = .ok (.ireturn, 1) := by decide +kernel
theorem dX11_ball_46 : decode cX11_ball 46 = .ok (.aload_n 0, 1) := by decide +kernel
theorem dX11_ball_47 : decode cX11_ball 47 = .ok (.getfield 9, 3) := by decide +kernel
theorem dX11_ball_50 : decode cX11_ball 50 = .ok (.bipush 6, 2) := by decide +kernel
theorem dX11_ball_52 : decode cX11_ball 52 = .ok (.iaload, 1) := by decide +kernel
theorem dX11_ball_53 : decode cX11_ball 53 = .ok (.ireturn, 1) := by decide +kernel
theorem dX11_ball_54 : decode cX11_ball 54 = .ok (.aload_n 0, 1) := by decide +kernel
theorem dX11_ball_55 : decode cX11_ball 55 = .ok (.getfield 9, 3) := by decide +kernel
theorem dX11_ball_58 : decode cX11_ball 58 = .ok (.bipush 7, 2) := by decide +kernel
theorem dX11_ball_60 : decode cX11_ball 60 = .ok (.iaload, 1) := by decide +kernel
theorem dX11_ball_61 : decode cX11_ball 61 = .ok (.ireturn, 1) := by decide +kernel
theorem dX11_ball_62 : decode cX11_ball 62 = .ok (.aload_n 0, 1) := by decide +kernel
theorem dX11_ball_63 : decode cX11_ball 63 = .ok (.getfield 9, 3) := by decide +kernel
theorem dX11_ball_66 : decode cX11_ball 66 = .ok (.bipush 8, 2) := by decide +kernel
theorem dX11_ball_68 : decode cX11_ball 68 = .ok (.iaload, 1) := by decide +kernel
theorem dX11_ball_69 : decode cX11_ball 69 = .ok (.ireturn, 1) := by decide +kernel
theorem dX11_ball_70 : decode cX11_ball 70 = .ok (.ldc 90, 2) := by decide +kernel
theorem dX11_ball_72 : decode cX11_ball 72 = .ok (.ireturn, 1) := by decide +kernel
theorem dX11_layer_0 : decode cX11_layer 0 = .ok (.iload_n 1, 1) := by decide +kernel
theorem dX11_layer_1 : decode cX11_layer 1 = .ok (.iconst 0, 1) := by decide +kernel
theorem dX11_layer_2 : decode cX11_layer 2 = .ok (.aload_n 0, 1) := by decide +kernel
theorem dX11_layer_3 : decode cX11_layer 3 = .ok (.getfield 9, 3) := by decide +kernel
theorem dX11_layer_6 : decode cX11_layer 6 = .ok (.bipush 7, 2) := by decide +kernel
theorem dX11_layer_8 : decode cX11_layer 8 = .ok (.iaload, 1) := by decide +kernel
theorem dX11_layer_9 : decode cX11_layer 9 = .ok (.iconst 1, 1) := by decide +kernel
theorem dX11_layer_10 : decode cX11_layer 10 = .ok (.isub, 1) := by decide +kernel
theorem dX11_layer_11 : decode cX11_layer 11 = .ok (.invokestatic 78, 3) := by decide +kernel
theorem dX11_layer_14 : decode cX11_layer 14 = .ok (.ifCond .eq 28, 3) := by decide +kernel
theorem dX11_layer_17 : decode cX11_layer 17 = .ok (.iload_n 2, 1) := by decide +kernel
theorem dX11_layer_18 : decode cX11_layer 18 = .ok (.iconst 0, 1) := by decide +kernel
theorem dX11_layer_19 : decode cX11_layer 19 = .ok (.iconst 1, 1) := by decide +kernel
theorem dX11_layer_20 : decode cX11_layer 20 = .ok (.invokestatic 78, 3) := by decide +kernel
theorem dX11_layer_23 : decode cX11_layer 23 = .ok (.ifCond .eq 19, 3) := by decide +kernel
theorem dX11_layer_26 : decode cX11_layer 26 = .ok (.aload_n 0, 1) := by decide +kernel
theorem dX11_layer_27 : decode cX11_layer 27 = .ok (.getfield 9, 3) := by decide +kernel
theorem dX11_layer_30 : decode cX11_layer 30 = .ok (.bipush 16, 2) := by decide +kernel
theorem dX11_layer_32 : decode cX11_layer 32 = .ok (.iconst 2, 1) := by decide +kernel
theorem dX11_layer_33 : decode cX11_layer 33 = .ok (.iload_n 1, 1) := by decide +kernel
theorem dX11_layer_34 : decode cX11_layer 34 = .ok (.imul, 1) := by decide +kernel
theorem dX11_layer_35 : decode cX11_layer 35 = .ok (.iadd, 1) := by decide +kernel
theorem dX11_layer_36 : decode cX11_layer 36 = .ok (.iload_n 2, 1) := by decide +kernel
theorem dX11_layer_37 : decode cX11_layer 37 = .ok (.iadd, 1) := by decide +kernel
theorem dX11_layer_38 : decode cX11_layer 38 = .ok (.iaload, 1) := by decide +kernel
theorem dX11_layer_39 : decode cX11_layer 39 = .ok (.goto 5, 3) := by decide +kernel
theorem dX11_layer_42 : decode cX11_layer 42 = .ok (.ldc 90, 2) := by decide +kernel
theorem dX11_layer_44 : decode cX11_layer 44 = .ok (.ireturn, 1) := by decide +kernel
theorem dX11_packs_0 : decode cX11_packs 0 = .ok (.aload_n 0, 1) := by decide +kernel
theorem dX11_packs_1 : decode cX11_packs 1 = .ok (.getfield 9, 3) := by decide +kernel
theorem dX11_packs_4 : decode cX11_packs 4 = .ok (.bipush 7, 2) := by decide +kernel
theorem dX11_packs_6 : decode cX11_packs 6 = .ok (.iaload, 1) := by decide +kernel
theorem dX11_packs_7 : decode cX11_packs 7 = .ok (.iconst 1, 1) := by decide +kernel
theorem dX11_packs_8 : decode cX11_packs 8 = .ok (.isub, 1) := by decide +kernel
theorem dX11_packs_9 : decode cX11_packs 9 = .ok (.istore_n 3, 1) := by decide +kernel
theorem dX11_packs_10 : decode cX11_packs 10 = .ok (.iload_n 3, 1) := by decide +kernel
theorem dX11_packs_11 : decode cX11_packs 11 = .ok (.ifCond .lt 24, 3) := by decide +kernel
theorem dX11_packs_14 : decode cX11_packs 14 = .ok (.iload_n 3, 1) := by decide +kernel
theorem dX11_packs_15 : decode cX11_packs 15 = .ok (.bipush 29, 2) := by decide +kernel
theorem dX11_packs_17 : decode cX11_packs 17 = .ok (.if_icmp .ge 58, 3) := by decide +kernel
theorem dX11_packs_20 : decode cX11_packs 20 = .ok (.aload_n 0, 1) := by decide +kernel
theorem dX11_packs_21 : decode cX11_packs 21 = .ok (.getfield 9, 3) := by decide +kernel
theorem dX11_packs_24 : decode cX11_packs 24 = .ok (.bipush 16, 2) := by decide +kernel
theorem dX11_packs_26 : decode cX11_packs 26 = .ok (.iconst 2, 1) := by decide +kernel
theorem dX11_packs_27 : decode cX11_packs 27 = .ok (.iload_n 3, 1) := by decide +kernel
theorem dX11_packs_28 : decode cX11_packs 28 = .ok (.imul, 1) := by decide +kernel
theorem dX11_packs_29 : decode cX11_packs 29 = .ok (.iadd, 1) := by decide +kernel
theorem dX11_packs_30 : decode cX11_packs 30 = .ok (.iaload, 1) := by decide +kernel
theorem dX11_packs_31 : decode cX11_packs 31 = .ok (.iload_n 1, 1) := by decide +kernel
theorem dX11_packs_32 : decode cX11_packs 32 = .ok (.if_icmp .eq 43, 3) := by decide +kernel
theorem dX11_packs_35 : decode cX11_packs 35 = .ok (.iinc 3 1, 3) := by decide +kernel
theorem dX11_packs_38 : decode cX11_packs 38 = .ok (.aload_n 0, 1) := by decide +kernel
theorem dX11_packs_39 : decode cX11_packs 39 = .ok (.getfield 9, 3) := by decide +kernel
theorem dX11_packs_42 : decode cX11_packs 42 = .ok (.bipush 16, 2) := by decide +kernel
theorem dX11_packs_44 : decode cX11_packs 44 = .ok (.iconst 2, 1) := by decide +kernel
theorem dX11_packs_45 : decode cX11_packs 45 = .ok (.iload_n 3, 1) := by decide +kernel
theorem dX11_packs_46 : decode cX11_packs 46 = .ok (.imul, 1) := by decide +kernel
theorem dX11_packs_47 : decode cX11_packs 47 = .ok (.iadd, 1) := by decide +kernel
theorem dX11_packs_48 : decode cX11_packs 48 = .ok (.iload_n 1, 1) := by decide +kernel
theorem dX11_packs_49 : decode cX11_packs 49 = .ok (.iastore, 1) := by decide +kernel
theorem dX11_packs_50 : decode cX11_packs 50 = .ok (.aload_n 0, 1) := by decide +kernel
theorem dX11_packs_51 : decode cX11_packs 51 = .ok (.getfield 9, 3) := by decide +kernel
theorem dX11_packs_54 : decode cX11_packs 54 = .ok (.bipush 16, 2) := by decide +kernel
theorem dX11_packs_56 : decode cX11_packs 56 = .ok (.iconst 2, 1) := by decide +kernel
theorem dX11_packs_57 : decode cX11_packs 57 = .ok (.iload_n 3, 1) := by decide +kernel
theorem dX11_packs_58 : decode cX11_packs 58 = .ok (.imul, 1) := by decide +kernel
theorem dX11_packs_59 : decode cX11_packs 59 = .ok (.iadd, 1) := by decide +kernel
theorem dX11_packs_60 : decode cX11_packs 60 = .ok (.iconst 1, 1) := by decide +kernel
theorem dX11_packs_61 : decode cX11_packs 61 = .ok (.iadd, 1) := by decide +kernel
theorem dX11_packs_62 : decode cX11_packs 62 = .ok (.iconst 0, 1) := by decide +kernel
theorem dX11_packs_63 : decode cX11_packs 63 = .ok (.iastore, 1) := by decide +kernel
theorem dX11_packs_64 : decode cX11_packs 64 = .ok (.aload_n 0, 1) := by decide +kernel
theorem dX11_packs_65 : decode cX11_packs 65 = .ok (.getfield 9, 3) := by decide +kernel
theorem dX11_packs_68 : decode cX11_packs 68 = .ok (.bipush 7, 2) := by decide +kernel
theorem dX11_packs_70 : decode cX11_packs 70 = .ok (.dup2, 1) := by decide +kernel
theorem dX11_packs_71 : decode cX11_packs 71 = .ok (.iaload, 1) := by decide +kernel
theorem dX11_packs_72 : decode cX11_packs 72 = .ok (.iconst 1, 1) := by decide +kernel
theorem dX11_packs_73 : decode cX11_packs 73 = .ok (.iadd, 1) := by decide +kernel
theorem dX11_packs_74 : decode cX11_packs 74 = .ok (.iastore, 1) := by decide +kernel
theorem dX11_packs_75 : decode cX11_packs 75 = .ok (.aload_n 0, 1) := by decide +kernel
theorem dX11_packs_76 : decode cX11_packs 76 = .ok (.getfield 9, 3) := by decide +kernel
theorem dX11_packs_79 : decode cX11_packs 79 = .ok (.bipush 16, 2) := by decide +kernel
theorem dX11_packs_81 : decode cX11_packs 81 = .ok (.iconst 2, 1) := by decide +kernel
theorem dX11_packs_82 : decode cX11_packs 82 = .ok (.iload_n 3, 1) := by decide +kernel
theorem dX11_packs_83 : decode cX11_packs 83 = .ok (.imul, 1) := by decide +kernel
theorem dX11_packs_84 : decode cX11_packs 84 = .ok (.iadd, 1) := by decide +kernel
theorem dX11_packs_85 : decode cX11_packs 85 = .ok (.iconst 1, 1) := by decide +kernel
theorem dX11_packs_86 : decode cX11_packs 86 = .ok (.iadd, 1) := by decide +kernel
theorem dX11_packs_87 : decode cX11_packs 87 = .ok (.dup2, 1) := by decide +kernel
theorem dX11_packs_88 : decode cX11_packs 88 = .ok (.iaload, 1) := by decide +kernel
theorem dX11_packs_89 : decode cX11_packs 89 = .ok (.iload_n 2, 1) := by decide +kernel
theorem dX11_packs_90 : decode cX11_packs 90 = .ok (.iadd, 1) := by decide +kernel
theorem dX11_packs_91 : decode cX11_packs 91 = .ok (.iastore, 1) := by decide +kernel
theorem dX11_packs_92 : decode cX11_packs 92 = .ok (.return_, 1) := by decide +kernel
theorem dX11_pack_0 : decode cX11_pack 0 = .ok (.aload_n 0, 1) := by decide +kernel
theorem dX11_pack_1 : decode cX11_pack 1 = .ok (.iload_n 1, 1) := by decide +kernel
theorem dX11_pack_2 : decode cX11_pack 2 = .ok (.invokevirtual 114, 3) := by decide +kernel
theorem dX11_pack_5 : decode cX11_pack 5 = .ok (.ifCond .eq 14, 3) := by decide +kernel
theorem dX11_pack_8 : decode cX11_pack 8 = .ok (.iload_n 2, 1) := by decide +kernel
theorem dX11_pack_9 : decode cX11_pack 9 = .ok (.iconst 1, 1) := by decide +kernel
theorem dX11_pack_10 : decode cX11_pack 10 = .ok (.sipush 999, 3) := by decide +kernel
theorem dX11_pack_13 : decode cX11_pack 13 = .ok (.invokestatic 78, 3) := by decide +kernel
theorem dX11_pack_16 : decode cX11_pack 16 = .ok (.ifCond .ne 6, 3) := by decide +kernel
theorem dX11_pack_19 : decode cX11_pack 19 = .ok (.ldc 90, 2) := by decide +kernel
theorem dX11_pack_21 : decode cX11_pack 21 = .ok (.ireturn, 1) := by decide +kernel
theorem dX11_pack_22 : decode cX11_pack 22 = .ok (.aload_n 0, 1) := by decide +kernel
theorem dX11_pack_23 : decode cX11_pack 23 = .ok (.iload_n 1, 1) := by decide +kernel
theorem dX11_pack_24 : decode cX11_pack 24 = .ok (.iload_n 2, 1) := by decide +kernel
theorem dX11_pack_25 : decode cX11_pack 25 = .ok (.invokevirtual 144, 3) := by decide +kernel
theorem dX11_pack_28 : decode cX11_pack 28 = .ok (.aload_n 0, 1) := by decide +kernel
theorem dX11_pack_29 : decode cX11_pack 29 = .ok (.invokevirtual 100, 3) := by decide +kernel
theorem dX11_pack_32 : decode cX11_pack 32 = .ok (.ireturn, 1) := by decide +kernel
theorem dX11_isThing_0 : decode cX11_isThing 0 = .ok (.iload_n 0, 1) := by decide +kernel
theorem dX11_isThing_1 : decode cX11_isThing 1 = .ok (.iconst 0, 1) := by decide +kernel
theorem dX11_isThing_2 : decode cX11_isThing 2 = .ok (.iconst 5, 1) := by decide +kernel
theorem dX11_isThing_3 : decode cX11_isThing 3 = .ok (.invokestatic 78, 3) := by decide +kernel
theorem dX11_isThing_6 : decode cX11_isThing 6 = .ok (.ireturn, 1) := by decide +kernel
theorem dX11_lose_0 : decode cX11_lose 0 = .ok (.iload_n 1, 1) := by decide +kernel
theorem dX11_lose_1 : decode cX11_lose 1 = .ok (.invokestatic 148, 3) := by decide +kernel
theorem dX11_lose_4 : decode cX11_lose 4 = .ok (.ifCond .ne 6, 3) := by decide +kernel
theorem dX11_lose_7 : decode cX11_lose 7 = .ok (.ldc 90, 2) := by decide +kernel
theorem dX11_lose_9 : decode cX11_lose 9 = .ok (.ireturn, 1) := by decide +kernel
theorem dX11_lose_10 : decode cX11_lose 10 = .ok (.aload_n 0, 1) := by decide +kernel
theorem dX11_lose_11 : decode cX11_lose 11 = .ok (.getfield 9, 3) := by decide +kernel
theorem dX11_lose_14 : decode cX11_lose 14 = .ok (.bipush 7, 2) := by decide +kernel
theorem dX11_lose_16 : decode cX11_lose 16 = .ok (.iaload, 1) := by decide +kernel
theorem dX11_lose_17 : decode cX11_lose 17 = .ok (.ifCond .ne 6, 3) := by decide +kernel
theorem dX11_lose_20 : decode cX11_lose 20 = .ok (.ldc 151, 2) := by decide +kernel
theorem dX11_lose_22 : decode cX11_lose 22 = .ok (.ireturn, 1) := by decide +kernel
theorem dX11_lose_23 : decode cX11_lose 23 = .ok (.aload_n 0, 1) := by decide +kernel
theorem dX11_lose_24 : decode cX11_lose 24 = .ok (.getfield 9, 3) := by decide +kernel
theorem dX11_lose_27 : decode cX11_lose 27 = .ok (.bipush 10, 2) := by decide +kernel
theorem dX11_lose_29 : decode cX11_lose 29 = .ok (.iload_n 1, 1) := by decide +kernel
theorem dX11_lose_30 : decode cX11_lose 30 = .ok (.iadd, 1) := by decide +kernel
theorem dX11_lose_31 : decode cX11_lose 31 = .ok (.aload_n 0, 1) := by decide +kernel
theorem dX11_lose_32 : decode cX11_lose 32 = .ok (.getfield 9, 3) := by decide +kernel
theorem dX11_lose_35 : decode cX11_lose 35 = .ok (.bipush 7, 2) := by decide +kernel
theorem dX11_lose_37 : decode cX11_lose 37 = .ok (.iaload, 1) := by decide +kernel
theorem dX11_lose_38 : decode cX11_lose 38 = .ok (.iconst 1, 1) := by decide +kernel
theorem dX11_lose_39 : decode cX11_lose 39 = .ok (.isub, 1) := by decide +kernel
theorem dX11_lose_40 : decode cX11_lose 40 = .ok (.iastore, 1) := by decide +kernel
theorem dX11_lose_41 : decode cX11_lose 41 = .ok (.aload_n 0, 1) := by decide +kernel
theorem dX11_lose_42 : decode cX11_lose 42 = .ok (.getfield 9, 3) := by decide +kernel
theorem dX11_lose_45 : decode cX11_lose 45 = .ok (.bipush 7, 2) := by decide +kernel
theorem dX11_lose_47 : decode cX11_lose 47 = .ok (.iaload, 1) := by decide +kernel
theorem dX11_lose_48 : decode cX11_lose 48 = .ok (.iconst 1, 1) := by decide +kernel
theorem dX11_lose_49 : decode cX11_lose 49 = .ok (.isub, 1) := by decide +kernel
theorem dX11_lose_50 : decode cX11_lose 50 = .ok (.ireturn, 1) := by decide +kernel
theorem dX11_find_0 : decode cX11_find 0 = .ok (.iload_n 1, 1) := by decide +kernel
theorem dX11_find_1 : decode cX11_find 1 = .ok (.invokestatic 148, 3) := by decide +kernel
theorem dX11_find_4 : decode cX11_find 4 = .ok (.ifCond .ne 6, 3) := by decide +kernel
theorem dX11_find_7 : decode cX11_find 7 = .ok (.ldc 90, 2) := by decide +kernel
theorem dX11_find_9 : decode cX11_find 9 = .ok (.ireturn, 1) := by decide +kernel
theorem dX11_find_10 : decode cX11_find 10 = .ok (.aload_n 0, 1) := by decide +kernel
theorem dX11_find_11 : decode cX11_find 11 = .ok (.bipush 10, 2) := by decide +kernel
theorem dX11_find_13 : decode cX11_find 13 = .ok (.iload_n 1, 1) := by decide +kernel
theorem dX11_find_14 : decode cX11_find 14 = .ok (.iadd, 1) := by decide +kernel
theorem dX11_find_15 : decode cX11_find 15 = .ok (.iconst (-1), 1) := by decide +kernel
theorem dX11_find_16 : decode cX11_find 16 = .ok (.invokevirtual 134, 3) := by decide +kernel
theorem dX11_find_19 : decode cX11_find 19 = .ok (.ifCond .ge 7, 3) := by decide +kernel
theorem dX11_find_22 : decode cX11_find 22 = .ok (.iconst 0, 1) := by decide +kernel
theorem dX11_find_23 : decode cX11_find 23 = .ok (.goto 4, 3) := by decide +kernel
theorem dX11_find_26 : decode cX11_find 26 = .ok (.iconst 1, 1) := by decide +kernel
theorem dX11_find_27 : decode cX11_find 27 = .ok (.ireturn, 1) := by decide +kernel
theorem dX11_thing_0 : decode cX11_thing 0 = .ok (.iload_n 1, 1) := by decide +kernel
theorem dX11_thing_1 : decode cX11_thing 1 = .ok (.invokestatic 148, 3) := by decide +kernel
theorem dX11_thing_4 : decode cX11_thing 4 = .ok (.ifCond .ne 8, 3) := by decide +kernel
theorem dX11_thing_7 : decode cX11_thing 7 = .ok (.ldc 90, 2) := by decide +kernel
theorem dX11_thing_9 : decode cX11_thing 9 = .ok (.goto 29, 3) := by decide +kernel
theorem dX11_thing_12 : decode cX11_thing 12 = .ok (.aload_n 0, 1) := by decide +kernel
theorem dX11_thing_13 : decode cX11_thing 13 = .ok (.getfield 9, 3) := by decide +kernel
theorem dX11_thing_16 : decode cX11_thing 16 = .ok (.bipush 10, 2) := by decide +kernel
theorem dX11_thing_18 : decode cX11_thing 18 = .ok (.iload_n 1, 1) := by decide +kernel
theorem dX11_thing_19 : decode cX11_thing 19 = .ok (.iadd, 1) := by decide +kernel
theorem dX11_thing_20 : decode cX11_thing 20 = .ok (.iaload, 1) := by decide +kernel
theorem dX11_thing_21 : decode cX11_thing 21 = .ok (.ifCond .ge 8, 3) := by decide +kernel
theorem dX11_thing_24 : decode cX11_thing 24 = .ok (.ldc 152, 2) := by decide +kernel
theorem dX11_thing_26 : decode cX11_thing 26 = .ok (.goto 12, 3) := by decide +kernel
theorem dX11_thing_29 : decode cX11_thing 29 = .ok (.aload_n 0, 1) := by decide +kernel
theorem dX11_thing_30 : decode cX11_thing 30 = .ok (.getfield 9, 3) := by decide +kernel
theorem dX11_thing_33 : decode cX11_thing 33 = .ok (.bipush 10, 2) := by decide +kernel
theorem dX11_thing_35 : decode cX11_thing 35 = .ok (.iload_n 1, 1) := by decide +kernel
theorem dX11_thing_36 : decode cX11_thing 36 = .ok (.iadd, 1) := by decide +kernel
theorem dX11_thing_37 : decode cX11_thing 37 = .ok (.iaload, 1) := by decide +kernel
theorem dX11_thing_38 : decode cX11_thing 38 = .ok (.ireturn, 1) := by decide +kernel
theorem dX11_thaws_0 : decode cX11_thaws 0 = .ok (.iload_n 1, 1) := by decide +kernel
theorem dX11_thaws_1 : decode cX11_thaws 1 = .ok (.istore_n 2, 1) := by decide +kernel
theorem dX11_thaws_2 : decode cX11_thaws 2 = .ok (.iload_n 2, 1) := by decide +kernel
theorem dX11_thaws_3 : decode cX11_thaws 3 = .ok (.ifCond .le 171, 3) := by decide +kernel
theorem dX11_thaws_6 : decode cX11_thaws 6 = .ok (.aload_n 0, 1) := by decide +kernel
theorem dX11_thaws_7 : decode cX11_thaws 7 = .ok (.getfield 9, 3) := by decide +kernel
theorem dX11_thaws_10 : decode cX11_thaws 10 = .ok (.bipush 7, 2) := by decide +kernel
theorem dX11_thaws_12 : decode cX11_thaws 12 = .ok (.iaload, 1) := by decide +kernel
theorem dX11_thaws_13 : decode cX11_thaws 13 = .ok (.ifCond .le 161, 3) := by decide +kernel
theorem dX11_thaws_16 : decode cX11_thaws 16 = .ok (.aload_n 0, 1) := by decide +kernel
theorem dX11_thaws_17 : decode cX11_thaws 17 = .ok (.getfield 9, 3) := by decide +kernel
theorem dX11_thaws_20 : decode cX11_thaws 20 = .ok (.bipush 7, 2) := by decide +kernel
theorem dX11_thaws_22 : decode cX11_thaws 22 = .ok (.iaload, 1) := by decide +kernel
theorem dX11_thaws_23 : decode cX11_thaws 23 = .ok (.iconst 1, 1) := by decide +kernel
theorem dX11_thaws_24 : decode cX11_thaws 24 = .ok (.isub, 1) := by decide +kernel
theorem dX11_thaws_25 : decode cX11_thaws 25 = .ok (.istore_n 3, 1) := by decide +kernel
theorem dX11_thaws_26 : decode cX11_thaws 26 = .ok (.iload_n 2, 1) := by decide +kernel
theorem dX11_thaws_27 : decode cX11_thaws 27 = .ok (.iconst 0, 1) := by decide +kernel
theorem dX11_thaws_28 : decode cX11_thaws 28 = .ok (.aload_n 0, 1) := by decide +kernel
theorem dX11_thaws_29 : decode cX11_thaws 29 = .ok (.getfield 9, 3) := by decide +kernel
theorem dX11_thaws_32 : decode cX11_thaws 32 = .ok (.bipush 16, 2) := by decide +kernel
theorem dX11_thaws_34 : decode cX11_thaws 34 = .ok (.iconst 2, 1) := by decide +kernel
theorem dX11_thaws_35 : decode cX11_thaws 35 = .ok (.iload_n 3, 1) := by decide +kernel
theorem dX11_thaws_36 : decode cX11_thaws 36 = .ok (.imul, 1) := by decide +kernel
theorem dX11_thaws_37 : decode cX11_thaws 37 = .ok (.iadd, 1) := by decide +kernel
theorem dX11_thaws_38 : decode cX11_thaws 38 = .ok (.iconst 1, 1) := by decide +kernel
theorem dX11_thaws_39 : decode cX11_thaws 39 = .ok (.iadd, 1) := by decide +kernel
theorem dX11_thaws_40 : decode cX11_thaws 40 = .ok (.iaload, 1) := by decide +kernel
theorem dX11_thaws_41 : decode cX11_thaws 41 = .ok (.invokestatic 107, 3) := by decide +kernel
theorem dX11_thaws_44 : decode cX11_thaws 44 = .ok (.istore 4, 2) := by decide +kernel
theorem dX11_thaws_46 : decode cX11_thaws 46 = .ok (.aload_n 0, 1) := by decide +kernel
theorem dX11_thaws_47 : decode cX11_thaws 47 = .ok (.getfield 9, 3) := by decide +kernel
theorem dX11_thaws_50 : decode cX11_thaws 50 = .ok (.bipush 16, 2) := by decide +kernel
theorem dX11_thaws_52 : decode cX11_thaws 52 = .ok (.iconst 2, 1) := by decide +kernel
theorem dX11_thaws_53 : decode cX11_thaws 53 = .ok (.iload_n 3, 1) := by decide +kernel
theorem dX11_thaws_54 : decode cX11_thaws 54 = .ok (.imul, 1) := by decide +kernel
theorem dX11_thaws_55 : decode cX11_thaws 55 = .ok (.iadd, 1) := by decide +kernel
theorem dX11_thaws_56 : decode cX11_thaws 56 = .ok (.iconst 1, 1) := by decide +kernel
theorem dX11_thaws_57 : decode cX11_thaws 57 = .ok (.iadd, 1) := by decide +kernel
theorem dX11_thaws_58 : decode cX11_thaws 58 = .ok (.dup2, 1) := by decide +kernel
theorem dX11_thaws_59 : decode cX11_thaws 59 = .ok (.iaload, 1) := by decide +kernel
theorem dX11_thaws_60 : decode cX11_thaws 60 = .ok (.iload 4, 2) := by decide +kernel
theorem dX11_thaws_62 : decode cX11_thaws 62 = .ok (.isub, 1) := by decide +kernel
theorem dX11_thaws_63 : decode cX11_thaws 63 = .ok (.iastore, 1) := by decide +kernel
theorem dX11_thaws_64 : decode cX11_thaws 64 = .ok (.aload_n 0, 1) := by decide +kernel
theorem dX11_thaws_65 : decode cX11_thaws 65 = .ok (.getfield 9, 3) := by decide +kernel
theorem dX11_thaws_68 : decode cX11_thaws 68 = .ok (.bipush 8, 2) := by decide +kernel
theorem dX11_thaws_70 : decode cX11_thaws 70 = .ok (.dup2, 1) := by decide +kernel
theorem dX11_thaws_71 : decode cX11_thaws 71 = .ok (.iaload, 1) := by decide +kernel
theorem dX11_thaws_72 : decode cX11_thaws 72 = .ok (.iload 4, 2) := by decide +kernel
theorem dX11_thaws_74 : decode cX11_thaws 74 = .ok (.iadd, 1) := by decide +kernel
theorem dX11_thaws_75 : decode cX11_thaws 75 = .ok (.iastore, 1) := by decide +kernel
theorem dX11_thaws_76 : decode cX11_thaws 76 = .ok (.iload_n 2, 1) := by decide +kernel
theorem dX11_thaws_77 : decode cX11_thaws 77 = .ok (.iload 4, 2) := by decide +kernel
theorem dX11_thaws_79 : decode cX11_thaws 79 = .ok (.isub, 1) := by decide +kernel
theorem dX11_thaws_80 : decode cX11_thaws 80 = .ok (.istore_n 2, 1) := by decide +kernel
theorem dX11_thaws_81 : decode cX11_thaws 81 = .ok (.aload_n 0, 1) := by decide +kernel
theorem dX11_thaws_82 : decode cX11_thaws 82 = .ok (.getfield 9, 3) := by decide +kernel
theorem dX11_thaws_85 : decode cX11_thaws 85 = .ok (.bipush 16, 2) := by decide +kernel
theorem dX11_thaws_87 : decode cX11_thaws 87 = .ok (.iconst 2, 1) := by decide +kernel
theorem dX11_thaws_88 : decode cX11_thaws 88 = .ok (.iload_n 3, 1) := by decide +kernel
theorem dX11_thaws_89 : decode cX11_thaws 89 = .ok (.imul, 1) := by decide +kernel
theorem dX11_thaws_90 : decode cX11_thaws 90 = .ok (.iadd, 1) := by decide +kernel
theorem dX11_thaws_91 : decode cX11_thaws 91 = .ok (.iconst 1, 1) := by decide +kernel
theorem dX11_thaws_92 : decode cX11_thaws 92 = .ok (.iadd, 1) := by decide +kernel
theorem dX11_thaws_93 : decode cX11_thaws 93 = .ok (.iaload, 1) := by decide +kernel
theorem dX11_thaws_94 : decode cX11_thaws 94 = .ok (.ifCond .ne 77, 3) := by decide +kernel
theorem dX11_thaws_97 : decode cX11_thaws 97 = .ok (.aload_n 0, 1) := by decide +kernel
theorem dX11_thaws_98 : decode cX11_thaws 98 = .ok (.getfield 9, 3) := by decide +kernel
theorem dX11_thaws_101 : decode cX11_thaws 101 = .ok (.bipush 7, 2) := by decide +kernel
theorem dX11_thaws_103 : decode cX11_thaws 103 = .ok (.dup2, 1) := by decide +kernel
theorem dX11_thaws_104 : decode cX11_thaws 104 = .ok (.iaload, 1) := by decide +kernel
theorem dX11_thaws_105 : decode cX11_thaws 105 = .ok (.iconst 1, 1) := by decide +kernel
theorem dX11_thaws_106 : decode cX11_thaws 106 = .ok (.isub, 1) := by decide +kernel
theorem dX11_thaws_107 : decode cX11_thaws 107 = .ok (.iastore, 1) := by decide +kernel
theorem dX11_thaws_108 : decode cX11_thaws 108 = .ok (.iconst 0, 1) := by decide +kernel
theorem dX11_thaws_109 : decode cX11_thaws 109 = .ok (.istore 5, 2) := by decide +kernel
theorem dX11_thaws_111 : decode cX11_thaws 111 = .ok (.iload 5, 2) := by decide +kernel
theorem dX11_thaws_113 : decode cX11_thaws 113 = .ok (.bipush 6, 2) := by decide +kernel
theorem dX11_thaws_115 : decode cX11_thaws 115 = .ok (.if_icmp .ge 56, 3) := by decide +kernel
theorem dX11_thaws_118 : decode cX11_thaws 118 = .ok (.aload_n 0, 1) := by decide +kernel
theorem dX11_thaws_119 : decode cX11_thaws 119 = .ok (.getfield 9, 3) := by decide +kernel
theorem dX11_thaws_122 : decode cX11_thaws 122 = .ok (.bipush 10, 2) := by decide +kernel
theorem dX11_thaws_124 : decode cX11_thaws 124 = .ok (.iload 5, 2) := by decide +kernel
theorem dX11_thaws_126 : decode cX11_thaws 126 = .ok (.iadd, 1) := by decide +kernel
theorem dX11_thaws_127 : decode cX11_thaws 127 = .ok (.aload_n 0, 1) := by decide +kernel
theorem dX11_thaws_128 : decode cX11_thaws 128 = .ok (.getfield 9, 3) := by decide +kernel
theorem dX11_thaws_131 : decode cX11_thaws 131 = .ok (.bipush 10, 2) := by decide +kernel
theorem dX11_thaws_133 : decode cX11_thaws 133 = .ok (.iload 5, 2) := by decide +kernel
theorem dX11_thaws_135 : decode cX11_thaws 135 = .ok (.iadd, 1) := by decide +kernel
theorem dX11_thaws_136 : decode cX11_thaws 136 = .ok (.iaload, 1) := by decide +kernel
theorem dX11_thaws_137 : decode cX11_thaws 137 = .ok (.iload_n 3, 1) := by decide +kernel
theorem dX11_thaws_138 : decode cX11_thaws 138 = .ok (.if_icmp .ne 16, 3) := by decide +kernel
theorem dX11_thaws_141 : decode cX11_thaws 141 = .ok (.bipush 100, 2) := by decide +kernel
theorem dX11_thaws_143 : decode cX11_thaws 143 = .ok (.aload_n 0, 1) := by decide +kernel
theorem dX11_thaws_144 : decode cX11_thaws 144 = .ok (.getfield 9, 3) := by decide +kernel
theorem dX11_thaws_147 : decode cX11_thaws 147 = .ok (.bipush 6, 2) := by decide +kernel
theorem dX11_thaws_149 : decode cX11_thaws 149 = .ok (.iaload, 1) := by decide +kernel
theorem dX11_thaws_150 : decode cX11_thaws 150 = .ok (.iadd, 1) := by decide +kernel
theorem dX11_thaws_151 : decode cX11_thaws 151 = .ok (.goto 13, 3) := by decide +kernel
theorem dX11_thaws_154 : decode cX11_thaws 154 = .ok (.aload_n 0, 1) := by decide +kernel
theorem dX11_thaws_155 : decode cX11_thaws 155 = .ok (.getfield 9, 3) := by decide +kernel
theorem dX11_thaws_158 : decode cX11_thaws 158 = .ok (.bipush 10, 2) := by decide +kernel
theorem dX11_thaws_160 : decode cX11_thaws 160 = .ok (.iload 5, 2) := by decide +kernel
theorem dX11_thaws_162 : decode cX11_thaws 162 = .ok (.iadd, 1) := by decide +kernel
theorem dX11_thaws_163 : decode cX11_thaws 163 = .ok (.iaload, 1) := by decide +kernel
theorem dX11_thaws_164 : decode cX11_thaws 164 = .ok (.iastore, 1) := by decide +kernel
theorem dX11_thaws_165 : decode cX11_thaws 165 = .ok (.iinc 5 1, 3) := by decide +kernel
theorem dX11_thaws_168 : decode cX11_thaws 168 = .ok (.goto (-57), 3) := by decide +kernel
theorem dX11_thaws_171 : decode cX11_thaws 171 = .ok (.goto (-169), 3) := by decide +kernel
theorem dX11_thaws_174 : decode cX11_thaws 174 = .ok (.return_, 1) := by decide +kernel
theorem dX11_passes_0 : decode cX11_passes 0 = .ok (.aload_n 0, 1) := by decide +kernel
theorem dX11_passes_1 : decode cX11_passes 1 = .ok (.invokevirtual 141, 3) := by decide +kernel
theorem dX11_passes_4 : decode cX11_passes 4 = .ok (.istore_n 2, 1) := by decide +kernel
theorem dX11_passes_5 : decode cX11_passes 5 = .ok (.iload_n 2, 1) := by decide +kernel
theorem dX11_passes_6 : decode cX11_passes 6 = .ok (.aload_n 0, 1) := by decide +kernel
theorem dX11_passes_7 : decode cX11_passes 7 = .ok (.iload_n 1, 1) := by decide +kernel
theorem dX11_passes_8 : decode cX11_passes 8 = .ok (.iconst 2, 1) := by decide +kernel
theorem dX11_passes_9 : decode cX11_passes 9 = .ok (.invokevirtual 110, 3) := by decide +kernel
theorem dX11_passes_12 : decode cX11_passes 12 = .ok (.if_icmp .gt 5, 3) := by decide +kernel
theorem dX11_passes_15 : decode cX11_passes 15 = .ok (.iconst 0, 1) := by decide +kernel
theorem dX11_passes_16 : decode cX11_passes 16 = .ok (.ireturn, 1) := by decide +kernel
theorem dX11_passes_17 : decode cX11_passes 17 = .ok (.aload_n 0, 1) := by decide +kernel
theorem dX11_passes_18 : decode cX11_passes 18 = .ok (.iload_n 1, 1) := by decide +kernel
theorem dX11_passes_19 : decode cX11_passes 19 = .ok (.iconst 2, 1) := by decide +kernel
theorem dX11_passes_20 : decode cX11_passes 20 = .ok (.iload_n 2, 1) := by decide +kernel
theorem dX11_passes_21 : decode cX11_passes 21 = .ok (.invokevirtual 82, 3) := by decide +kernel
theorem dX11_passes_24 : decode cX11_passes 24 = .ok (.aload_n 0, 1) := by decide +kernel
theorem dX11_passes_25 : decode cX11_passes 25 = .ok (.iload_n 1, 1) := by decide +kernel
theorem dX11_passes_26 : decode cX11_passes 26 = .ok (.iconst 3, 1) := by decide +kernel
theorem dX11_passes_27 : decode cX11_passes 27 = .ok (.aload_n 0, 1) := by decide +kernel
theorem dX11_passes_28 : decode cX11_passes 28 = .ok (.iload_n 1, 1) := by decide +kernel
theorem dX11_passes_29 : decode cX11_passes 29 = .ok (.iconst 3, 1) := by decide +kernel
theorem dX11_passes_30 : decode cX11_passes 30 = .ok (.invokevirtual 110, 3) := by decide +kernel
theorem dX11_passes_33 : decode cX11_passes 33 = .ok (.iconst 1, 1) := by decide +kernel
theorem dX11_passes_34 : decode cX11_passes 34 = .ok (.iadd, 1) := by decide +kernel
theorem dX11_passes_35 : decode cX11_passes 35 = .ok (.invokevirtual 82, 3) := by decide +kernel
theorem dX11_passes_38 : decode cX11_passes 38 = .ok (.iconst 1, 1) := by decide +kernel
theorem dX11_passes_39 : decode cX11_passes 39 = .ok (.ireturn, 1) := by decide +kernel
theorem dX11_day_0 : decode cX11_day 0 = .ok (.iconst 0, 1) := by decide +kernel
theorem dX11_day_1 : decode cX11_day 1 = .ok (.istore_n 2, 1) := by decide +kernel
theorem dX11_day_2 : decode cX11_day 2 = .ok (.aload_n 0, 1) := by decide +kernel
theorem dX11_day_3 : decode cX11_day 3 = .ok (.getfield 9, 3) := by decide +kernel
theorem dX11_day_6 : decode cX11_day 6 = .ok (.iconst 1, 1) := by decide +kernel
theorem dX11_day_7 : decode cX11_day 7 = .ok (.iaload, 1) := by decide +kernel
theorem dX11_day_8 : decode cX11_day 8 = .ok (.ifCond .le 278, 3) := by decide +kernel
theorem dX11_day_11 : decode cX11_day 11 = .ok (.aload_n 0, 1) := by decide +kernel
theorem dX11_day_12 : decode cX11_day 12 = .ok (.invokevirtual 138, 3) := by decide +kernel
theorem dX11_day_15 : decode cX11_day 15 = .ok (.aload_n 0, 1) := by decide +kernel
theorem dX11_day_16 : decode cX11_day 16 = .ok (.getfield 9, 3) := by decide +kernel
theorem dX11_day_19 : decode cX11_day 19 = .ok (.iconst 3, 1) := by decide +kernel
theorem dX11_day_20 : decode cX11_day 20 = .ok (.iaload, 1) := by decide +kernel
theorem dX11_day_21 : decode cX11_day 21 = .ok (.iconst 1, 1) := by decide +kernel
theorem dX11_day_22 : decode cX11_day 22 = .ok (.iadd, 1) := by decide +kernel
theorem dX11_day_23 : decode cX11_day 23 = .ok (.irem, 1) := by decide +kernel
theorem dX11_day_24 : decode cX11_day 24 = .ok (.istore_n 3, 1) := by decide +kernel
theorem dX11_day_25 : decode cX11_day 25 = .ok (.aload_n 0, 1) := by decide +kernel
theorem dX11_day_26 : decode cX11_day 26 = .ok (.aload_n 0, 1) := by decide +kernel
theorem dX11_day_27 : decode cX11_day 27 = .ok (.aload_n 0, 1) := by decide +kernel
theorem dX11_day_28 : decode cX11_day 28 = .ok (.getfield 9, 3) := by decide +kernel
theorem dX11_day_31 : decode cX11_day 31 = .ok (.bipush 6, 2) := by decide +kernel
theorem dX11_day_33 : decode cX11_day 33 = .ok (.iaload, 1) := by decide +kernel
theorem dX11_day_34 : decode cX11_day 34 = .ok (.iconst 0, 1) := by decide +kernel
theorem dX11_day_35 : decode cX11_day 35 = .ok (.invokevirtual 110, 3) := by decide +kernel
theorem dX11_day_38 : decode cX11_day 38 = .ok (.iconst 5, 1) := by decide +kernel
theorem dX11_day_39 : decode cX11_day 39 = .ok (.if_icmp .ne 9, 3) := by decide +kernel
theorem dX11_day_42 : decode cX11_day 42 = .ok (.iload_n 3, 1) := by decide +kernel
theorem dX11_day_43 : decode cX11_day 43 = .ok (.iconst 2, 1) := by decide +kernel
theorem dX11_day_44 : decode cX11_day 44 = .ok (.idiv, 1) := by decide +kernel
theorem dX11_day_45 : decode cX11_day 45 = .ok (.goto 4, 3) := by decide +kernel
theorem dX11_day_48 : decode cX11_day 48 = .ok (.iload_n 3, 1) := by decide +kernel
theorem dX11_day_49 : decode cX11_day 49 = .ok (.invokevirtual 153, 3) := by decide +kernel
theorem dX11_day_52 : decode cX11_day 52 = .ok (.aload_n 0, 1) := by decide +kernel
theorem dX11_day_53 : decode cX11_day 53 = .ok (.aload_n 0, 1) := by decide +kernel
theorem dX11_day_54 : decode cX11_day 54 = .ok (.getfield 9, 3) := by decide +kernel
theorem dX11_day_57 : decode cX11_day 57 = .ok (.bipush 6, 2) := by decide +kernel
theorem dX11_day_59 : decode cX11_day 59 = .ok (.iaload, 1) := by decide +kernel
theorem dX11_day_60 : decode cX11_day 60 = .ok (.invokevirtual 118, 3) := by decide +kernel
theorem dX11_day_63 : decode cX11_day 63 = .ok (.istore 4, 2) := by decide +kernel
theorem dX11_day_65 : decode cX11_day 65 = .ok (.aload_n 0, 1) := by decide +kernel
theorem dX11_day_66 : decode cX11_day 66 = .ok (.aload_n 0, 1) := by decide +kernel
theorem dX11_day_67 : decode cX11_day 67 = .ok (.getfield 9, 3) := by decide +kernel
theorem dX11_day_70 : decode cX11_day 70 = .ok (.bipush 6, 2) := by decide +kernel
theorem dX11_day_72 : decode cX11_day 72 = .ok (.iaload, 1) := by decide +kernel
theorem dX11_day_73 : decode cX11_day 73 = .ok (.iconst 1, 1) := by decide +kernel
theorem dX11_day_74 : decode cX11_day 74 = .ok (.aload_n 0, 1) := by decide +kernel
theorem dX11_day_75 : decode cX11_day 75 = .ok (.aload_n 0, 1) := by decide +kernel
theorem dX11_day_76 : decode cX11_day 76 = .ok (.getfield 9, 3) := by decide +kernel
theorem dX11_day_79 : decode cX11_day 79 = .ok (.bipush 6, 2) := by decide +kernel
theorem dX11_day_81 : decode cX11_day 81 = .ok (.iaload, 1) := by decide +kernel
theorem dX11_day_82 : decode cX11_day 82 = .ok (.iconst 1, 1) := by decide +kernel
theorem dX11_day_83 : decode cX11_day 83 = .ok (.invokevirtual 110, 3) := by decide +kernel
theorem dX11_day_86 : decode cX11_day 86 = .ok (.iload 4, 2) := by decide +kernel
theorem dX11_day_88 : decode cX11_day 88 = .ok (.isub, 1) := by decide +kernel
theorem dX11_day_89 : decode cX11_day 89 = .ok (.invokevirtual 82, 3) := by decide +kernel
theorem dX11_day_92 : decode cX11_day 92 = .ok (.iload 4, 2) := by decide +kernel
theorem dX11_day_94 : decode cX11_day 94 = .ok (.ifCond .le 16, 3) := by decide +kernel
theorem dX11_day_97 : decode cX11_day 97 = .ok (.aload_n 0, 1) := by decide +kernel
theorem dX11_day_98 : decode cX11_day 98 = .ok (.aload_n 0, 1) := by decide +kernel
theorem dX11_day_99 : decode cX11_day 99 = .ok (.getfield 9, 3) := by decide +kernel
theorem dX11_day_102 : decode cX11_day 102 = .ok (.bipush 6, 2) := by decide +kernel
theorem dX11_day_104 : decode cX11_day 104 = .ok (.iaload, 1) := by decide +kernel
theorem dX11_day_105 : decode cX11_day 105 = .ok (.iload 4, 2) := by decide +kernel
theorem dX11_day_107 : decode cX11_day 107 = .ok (.invokevirtual 144, 3) := by decide +kernel
theorem dX11_day_110 : decode cX11_day 110 = .ok (.aload_n 0, 1) := by decide +kernel
theorem dX11_day_111 : decode cX11_day 111 = .ok (.aload_n 0, 1) := by decide +kernel
theorem dX11_day_112 : decode cX11_day 112 = .ok (.getfield 9, 3) := by decide +kernel
theorem dX11_day_115 : decode cX11_day 115 = .ok (.bipush 6, 2) := by decide +kernel
theorem dX11_day_117 : decode cX11_day 117 = .ok (.iaload, 1) := by decide +kernel
theorem dX11_day_118 : decode cX11_day 118 = .ok (.invokevirtual 121, 3) := by decide +kernel
theorem dX11_day_121 : decode cX11_day 121 = .ok (.iload_n 1, 1) := by decide +kernel
theorem dX11_day_122 : decode cX11_day 122 = .ok (.iadd, 1) := by decide +kernel
theorem dX11_day_123 : decode cX11_day 123 = .ok (.istore 5, 2) := by decide +kernel
theorem dX11_day_125 : decode cX11_day 125 = .ok (.iconst 0, 1) := by decide +kernel
theorem dX11_day_126 : decode cX11_day 126 = .ok (.istore 6, 2) := by decide +kernel
theorem dX11_day_128 : decode cX11_day 128 = .ok (.iload 6, 2) := by decide +kernel
theorem dX11_day_130 : decode cX11_day 130 = .ok (.iload 5, 2) := by decide +kernel
theorem dX11_day_132 : decode cX11_day 132 = .ok (.if_icmp .ge 46, 3) := by decide +kernel
theorem dX11_day_135 : decode cX11_day 135 = .ok (.iload_n 2, 1) := by decide +kernel
theorem dX11_day_136 : decode cX11_day 136 = .ok (.aload_n 0, 1) := by decide +kernel
theorem dX11_day_137 : decode cX11_day 137 = .ok (.aload_n 0, 1) := by decide +kernel
theorem dX11_day_138 : decode cX11_day 138 = .ok (.getfield 9, 3) := by decide +kernel
theorem dX11_day_141 : decode cX11_day 141 = .ok (.bipush 6, 2) := by decide +kernel
theorem dX11_day_143 : decode cX11_day 143 = .ok (.iaload, 1) := by decide +kernel
theorem dX11_day_144 : decode cX11_day 144 = .ok (.invokevirtual 157, 3) := by decide +kernel
theorem dX11_day_147 : decode cX11_day 147 = .ok (.iadd, 1) := by decide +kernel
theorem dX11_day_148 : decode cX11_day 148 = .ok (.istore_n 2, 1) := by decide +kernel
theorem dX11_day_149 : decode cX11_day 149 = .ok (.aload_n 0, 1) := by decide +kernel
theorem dX11_day_150 : decode cX11_day 150 = .ok (.getfield 9, 3) := by decide +kernel
theorem dX11_day_153 : decode cX11_day 153 = .ok (.bipush 6, 2) := by decide +kernel
theorem dX11_day_155 : decode cX11_day 155 = .ok (.aload_n 0, 1) := by decide +kernel
theorem dX11_day_156 : decode cX11_day 156 = .ok (.getfield 9, 3) := by decide +kernel
theorem dX11_day_159 : decode cX11_day 159 = .ok (.bipush 6, 2) := by decide +kernel
theorem dX11_day_161 : decode cX11_day 161 = .ok (.iaload, 1) := by decide +kernel
theorem dX11_day_162 : decode cX11_day 162 = .ok (.iconst 1, 1) := by decide +kernel
theorem dX11_day_163 : decode cX11_day 163 = .ok (.iadd, 1) := by decide +kernel
theorem dX11_day_164 : decode cX11_day 164 = .ok (.aload_n 0, 1) := by decide +kernel
theorem dX11_day_165 : decode cX11_day 165 = .ok (.getfield 9, 3) := by decide +kernel
theorem dX11_day_168 : decode cX11_day 168 = .ok (.iconst 1, 1) := by decide +kernel
theorem dX11_day_169 : decode cX11_day 169 = .ok (.iaload, 1) := by decide +kernel
theorem dX11_day_170 : decode cX11_day 170 = .ok (.irem, 1) := by decide +kernel
theorem dX11_day_171 : decode cX11_day 171 = .ok (.iastore, 1) := by decide +kernel
theorem dX11_day_172 : decode cX11_day 172 = .ok (.iinc 6 1, 3) := by decide +kernel
theorem dX11_day_175 : decode cX11_day 175 = .ok (.goto (-47), 3) := by decide +kernel
theorem dX11_day_178 : decode cX11_day 178 = .ok (.iconst 0, 1) := by decide +kernel
theorem dX11_day_179 : decode cX11_day 179 = .ok (.istore 6, 2) := by decide +kernel
theorem dX11_day_181 : decode cX11_day 181 = .ok (.iload 6, 2) := by decide +kernel
theorem dX11_day_183 : decode cX11_day 183 = .ok (.iload 5, 2) := by decide +kernel
theorem dX11_day_185 : decode cX11_day 185 = .ok (.if_icmp .le 53, 3) := by decide +kernel
theorem dX11_day_188 : decode cX11_day 188 = .ok (.aload_n 0, 1) := by decide +kernel
theorem dX11_day_189 : decode cX11_day 189 = .ok (.getfield 9, 3) := by decide +kernel
theorem dX11_day_192 : decode cX11_day 192 = .ok (.bipush 6, 2) := by decide +kernel
theorem dX11_day_194 : decode cX11_day 194 = .ok (.aload_n 0, 1) := by decide +kernel
theorem dX11_day_195 : decode cX11_day 195 = .ok (.getfield 9, 3) := by decide +kernel
theorem dX11_day_198 : decode cX11_day 198 = .ok (.bipush 6, 2) := by decide +kernel
theorem dX11_day_200 : decode cX11_day 200 = .ok (.iaload, 1) := by decide +kernel
theorem dX11_day_201 : decode cX11_day 201 = .ok (.aload_n 0, 1) := by decide +kernel
theorem dX11_day_202 : decode cX11_day 202 = .ok (.getfield 9, 3) := by decide +kernel
theorem dX11_day_205 : decode cX11_day 205 = .ok (.iconst 1, 1) := by decide +kernel
theorem dX11_day_206 : decode cX11_day 206 = .ok (.iaload, 1) := by decide +kernel
theorem dX11_day_207 : decode cX11_day 207 = .ok (.iadd, 1) := by decide +kernel
theorem dX11_day_208 : decode cX11_day 208 = .ok (.iconst 1, 1) := by decide +kernel
theorem dX11_day_209 : decode cX11_day 209 = .ok (.isub, 1) := by decide +kernel
theorem dX11_day_210 : decode cX11_day 210 = .ok (.aload_n 0, 1) := by decide +kernel
theorem dX11_day_211 : decode cX11_day 211 = .ok (.getfield 9, 3) := by decide +kernel
theorem dX11_day_214 : decode cX11_day 214 = .ok (.iconst 1, 1) := by decide +kernel
theorem dX11_day_215 : decode cX11_day 215 = .ok (.iaload, 1) := by decide +kernel
theorem dX11_day_216 : decode cX11_day 216 = .ok (.irem, 1) := by decide +kernel
theorem dX11_day_217 : decode cX11_day 217 = .ok (.iastore, 1) := by decide +kernel
theorem dX11_day_218 : decode cX11_day 218 = .ok (.iload_n 2, 1) := by decide +kernel
theorem dX11_day_219 : decode cX11_day 219 = .ok (.aload_n 0, 1) := by decide +kernel
theorem dX11_day_220 : decode cX11_day 220 = .ok (.aload_n 0, 1) := by decide +kernel
theorem dX11_day_221 : decode cX11_day 221 = .ok (.getfield 9, 3) := by decide +kernel
theorem dX11_day_224 : decode cX11_day 224 = .ok (.bipush 6, 2) := by decide +kernel
theorem dX11_day_226 : decode cX11_day 226 = .ok (.iaload, 1) := by decide +kernel
theorem dX11_day_227 : decode cX11_day 227 = .ok (.invokevirtual 157, 3) := by decide +kernel
theorem dX11_day_230 : decode cX11_day 230 = .ok (.iadd, 1) := by decide +kernel
theorem dX11_day_231 : decode cX11_day 231 = .ok (.istore_n 2, 1) := by decide +kernel
theorem dX11_day_232 : decode cX11_day 232 = .ok (.iinc 6 (-1), 3) := by decide +kernel
theorem dX11_day_235 : decode cX11_day 235 = .ok (.goto (-54), 3) := by decide +kernel
theorem dX11_day_238 : decode cX11_day 238 = .ok (.iconst 0, 1) := by decide +kernel
theorem dX11_day_239 : decode cX11_day 239 = .ok (.istore 6, 2) := by decide +kernel
theorem dX11_day_241 : decode cX11_day 241 = .ok (.iload 6, 2) := by decide +kernel
theorem dX11_day_243 : decode cX11_day 243 = .ok (.aload_n 0, 1) := by decide +kernel
theorem dX11_day_244 : decode cX11_day 244 = .ok (.getfield 9, 3) := by decide +kernel
theorem dX11_day_247 : decode cX11_day 247 = .ok (.iconst 1, 1) := by decide +kernel
theorem dX11_day_248 : decode cX11_day 248 = .ok (.iaload, 1) := by decide +kernel
theorem dX11_day_249 : decode cX11_day 249 = .ok (.if_icmp .ge 37, 3) := by decide +kernel
theorem dX11_day_252 : decode cX11_day 252 = .ok (.aload_n 0, 1) := by decide +kernel
theorem dX11_day_253 : decode cX11_day 253 = .ok (.iload 6, 2) := by decide +kernel
theorem dX11_day_255 : decode cX11_day 255 = .ok (.iconst 1, 1) := by decide +kernel
theorem dX11_day_256 : decode cX11_day 256 = .ok (.aload_n 0, 1) := by decide +kernel
theorem dX11_day_257 : decode cX11_day 257 = .ok (.iload 6, 2) := by decide +kernel
theorem dX11_day_259 : decode cX11_day 259 = .ok (.iconst 1, 1) := by decide +kernel
theorem dX11_day_260 : decode cX11_day 260 = .ok (.invokevirtual 110, 3) := by decide +kernel
theorem dX11_day_263 : decode cX11_day 263 = .ok (.aload_n 0, 1) := by decide +kernel
theorem dX11_day_264 : decode cX11_day 264 = .ok (.getfield 9, 3) := by decide +kernel
theorem dX11_day_267 : decode cX11_day 267 = .ok (.iconst 4, 1) := by decide +kernel
theorem dX11_day_268 : decode cX11_day 268 = .ok (.iaload, 1) := by decide +kernel
theorem dX11_day_269 : decode cX11_day 269 = .ok (.iadd, 1) := by decide +kernel
theorem dX11_day_270 : decode cX11_day 270 = .ok (.iconst 0, 1) := by decide +kernel
theorem dX11_day_271 : decode cX11_day 271 = .ok (.sipush 999, 3) := by decide +kernel
theorem dX11_day_274 : decode cX11_day 274 = .ok (.invokestatic 107, 3) := by decide +kernel
theorem dX11_day_277 : decode cX11_day 277 = .ok (.invokevirtual 82, 3) := by decide +kernel
theorem dX11_day_280 : decode cX11_day 280 = .ok (.iinc 6 1, 3) := by decide +kernel
theorem dX11_day_283 : decode cX11_day 283 = .ok (.goto (-42), 3) := by decide +kernel
theorem dX11_day_286 : decode cX11_day 286 = .ok (.aload_n 0, 1) := by decide +kernel
theorem dX11_day_287 : decode cX11_day 287 = .ok (.getfield 9, 3) := by decide +kernel
theorem dX11_day_290 : decode cX11_day 290 = .ok (.iconst 2, 1) := by decide +kernel
theorem dX11_day_291 : decode cX11_day 291 = .ok (.dup2, 1) := by decide +kernel
theorem dX11_day_292 : decode cX11_day 292 = .ok (.iaload, 1) := by decide +kernel
theorem dX11_day_293 : decode cX11_day 293 = .ok (.iconst 1, 1) := by decide +kernel
theorem dX11_day_294 : decode cX11_day 294 = .ok (.iadd, 1) := by decide +kernel
theorem dX11_day_295 : decode cX11_day 295 = .ok (.iastore, 1) := by decide +kernel
theorem dX11_day_296 : decode cX11_day 296 = .ok (.iload_n 2, 1) := by decide +kernel
theorem dX11_day_297 : decode cX11_day 297 = .ok (.ireturn, 1) := by decide +kernel
theorem dX11_goesOn_0 : decode cX11_goesOn 0 = .ok (.iconst 0, 1) := by decide +kernel
theorem dX11_goesOn_1 : decode cX11_goesOn 1 = .ok (.istore_n 2, 1) := by decide +kernel
theorem dX11_goesOn_2 : decode cX11_goesOn 2 = .ok (.iconst 0, 1) := by decide +kernel
theorem dX11_goesOn_3 : decode cX11_goesOn 3 = .ok (.istore_n 3, 1) := by decide +kernel
theorem dX11_goesOn_4 : decode cX11_goesOn 4 = .ok (.iload_n 3, 1) := by decide +kernel
theorem dX11_goesOn_5 : decode cX11_goesOn 5 = .ok (.iload_n 1, 1) := by decide +kernel
theorem dX11_goesOn_6 : decode cX11_goesOn 6 = .ok (.if_icmp .ge 22, 3) := by decide +kernel
theorem dX11_goesOn_9 : decode cX11_goesOn 9 = .ok (.iload_n 2, 1) := by decide +kernel
theorem dX11_goesOn_10 : decode cX11_goesOn 10 = .ok (.aload_n 0, 1) := by decide +kernel
theorem dX11_goesOn_11 : decode cX11_goesOn 11 = .ok (.aload_n 0, 1) := by decide +kernel
theorem dX11_goesOn_12 : decode cX11_goesOn 12 = .ok (.getfield 9, 3) := by decide +kernel
theorem dX11_goesOn_15 : decode cX11_goesOn 15 = .ok (.iconst 5, 1) := by decide +kernel
theorem dX11_goesOn_16 : decode cX11_goesOn 16 = .ok (.iaload, 1) := by decide +kernel
theorem dX11_goesOn_17 : decode cX11_goesOn 17 = .ok (.invokevirtual 160, 3) := by decide +kernel
theorem dX11_goesOn_20 : decode cX11_goesOn 20 = .ok (.iadd, 1) := by decide +kernel
theorem dX11_goesOn_21 : decode cX11_goesOn 21 = .ok (.istore_n 2, 1) := by decide +kernel
theorem dX11_goesOn_22 : decode cX11_goesOn 22 = .ok (.iinc 3 1, 3) := by decide +kernel
theorem dX11_goesOn_25 : decode cX11_goesOn 25 = .ok (.goto (-21), 3) := by decide +kernel
theorem dX11_goesOn_28 : decode cX11_goesOn 28 = .ok (.iload_n 2, 1) := by decide +kernel
theorem dX11_goesOn_29 : decode cX11_goesOn 29 = .ok (.ireturn, 1) := by decide +kernel
theorem dX11_days_0 : decode cX11_days 0 = .ok (.iload_n 1, 1) := by decide +kernel
theorem dX11_days_1 : decode cX11_days 1 = .ok (.iconst 1, 1) := by decide +kernel
theorem dX11_days_2 : decode cX11_days 2 = .ok (.bipush 100, 2) := by decide +kernel
theorem dX11_days_4 : decode cX11_days 4 = .ok (.invokestatic 78, 3) := by decide +kernel
theorem dX11_days_7 : decode cX11_days 7 = .ok (.ifCond .eq 25, 3) := by decide +kernel
theorem dX11_days_10 : decode cX11_days 10 = .ok (.aload_n 0, 1) := by decide +kernel
theorem dX11_days_11 : decode cX11_days 11 = .ok (.sipush 9999, 3) := by decide +kernel
theorem dX11_days_14 : decode cX11_days 14 = .ok (.aload_n 0, 1) := by decide +kernel
theorem dX11_days_15 : decode cX11_days 15 = .ok (.getfield 9, 3) := by decide +kernel
theorem dX11_days_18 : decode cX11_days 18 = .ok (.iconst 2, 1) := by decide +kernel
theorem dX11_days_19 : decode cX11_days 19 = .ok (.iaload, 1) := by decide +kernel
theorem dX11_days_20 : decode cX11_days 20 = .ok (.isub, 1) := by decide +kernel
theorem dX11_days_21 : decode cX11_days 21 = .ok (.iconst 0, 1) := by decide +kernel
theorem dX11_days_22 : decode cX11_days 22 = .ok (.iload_n 1, 1) := by decide +kernel
theorem dX11_days_23 : decode cX11_days 23 = .ok (.invokestatic 107, 3) := by decide +kernel
theorem dX11_days_26 : decode cX11_days 26 = .ok (.invokevirtual 163, 3) := by decide +kernel
theorem dX11_days_29 : decode cX11_days 29 = .ok (.goto 5, 3) := by decide +kernel
theorem dX11_days_32 : decode cX11_days 32 = .ok (.ldc 90, 2) := by decide +kernel
theorem dX11_days_34 : decode cX11_days 34 = .ok (.ireturn, 1) := by decide +kernel
theorem dX11_thinks_0 : decode cX11_thinks 0 = .ok (.iconst 0, 1) := by decide +kernel
theorem dX11_thinks_1 : decode cX11_thinks 1 = .ok (.istore_n 1, 1) := by decide +kernel
theorem dX11_thinks_2 : decode cX11_thinks 2 = .ok (.iload_n 1, 1) := by decide +kernel
theorem dX11_thinks_3 : decode cX11_thinks 3 = .ok (.bipush 116, 2) := by decide +kernel
theorem dX11_thinks_5 : decode cX11_thinks 5 = .ok (.if_icmp .ge 21, 3) := by decide +kernel
theorem dX11_thinks_8 : decode cX11_thinks 8 = .ok (.aload_n 0, 1) := by decide +kernel
theorem dX11_thinks_9 : decode cX11_thinks 9 = .ok (.getfield 19, 3) := by decide +kernel
theorem dX11_thinks_12 : decode cX11_thinks 12 = .ok (.iload_n 1, 1) := by decide +kernel
theorem dX11_thinks_13 : decode cX11_thinks 13 = .ok (.aload_n 0, 1) := by decide +kernel
theorem dX11_thinks_14 : decode cX11_thinks 14 = .ok (.getfield 9, 3) := by decide +kernel
theorem dX11_thinks_17 : decode cX11_thinks 17 = .ok (.iload_n 1, 1) := by decide +kernel
theorem dX11_thinks_18 : decode cX11_thinks 18 = .ok (.iaload, 1) := by decide +kernel
theorem dX11_thinks_19 : decode cX11_thinks 19 = .ok (.iastore, 1) := by decide +kernel
theorem dX11_thinks_20 : decode cX11_thinks 20 = .ok (.iinc 1 1, 3) := by decide +kernel
theorem dX11_thinks_23 : decode cX11_thinks 23 = .ok (.goto (-21), 3) := by decide +kernel
theorem dX11_thinks_26 : decode cX11_thinks 26 = .ok (.return_, 1) := by decide +kernel
theorem dX11_putsBack_0 : decode cX11_putsBack 0 = .ok (.iconst 0, 1) := by decide +kernel
theorem dX11_putsBack_1 : decode cX11_putsBack 1 = .ok (.istore_n 1, 1) := by decide +kernel
theorem dX11_putsBack_2 : decode cX11_putsBack 2 = .ok (.iload_n 1, 1) := by decide +kernel
theorem dX11_putsBack_3 : decode cX11_putsBack 3 = .ok (.bipush 116, 2) := by decide +kernel
theorem dX11_putsBack_5 : decode cX11_putsBack 5 = .ok (.if_icmp .ge 21, 3) := by decide +kernel
theorem dX11_putsBack_8 : decode cX11_putsBack 8 = .ok (.aload_n 0, 1) := by decide +kernel
theorem dX11_putsBack_9 : decode cX11_putsBack 9 = .ok (.getfield 9, 3) := by decide +kernel
theorem dX11_putsBack_12 : decode cX11_putsBack 12 = .ok (.iload_n 1, 1) := by decide +kernel
theorem dX11_putsBack_13 : decode cX11_putsBack 13 = .ok (.aload_n 0, 1) := by decide +kernel
theorem dX11_putsBack_14 : decode cX11_putsBack 14 = .ok (.getfield 19, 3) := by decide +kernel
theorem dX11_putsBack_17 : decode cX11_putsBack 17 = .ok (.iload_n 1, 1) := by decide +kernel
theorem dX11_putsBack_18 : decode cX11_putsBack 18 = .ok (.iaload, 1) := by decide +kernel
theorem dX11_putsBack_19 : decode cX11_putsBack 19 = .ok (.iastore, 1) := by decide +kernel
theorem dX11_putsBack_20 : decode cX11_putsBack 20 = .ok (.iinc 1 1, 3) := by decide +kernel
theorem dX11_putsBack_23 : decode cX11_putsBack 23 = .ok (.goto (-21), 3) := by decide +kernel
theorem dX11_putsBack_26 : decode cX11_putsBack 26 = .ok (.return_, 1) := by decide +kernel
theorem dX11_sumOf_0 : decode cX11_sumOf 0 = .ok (.iconst 0, 1) := by decide +kernel
theorem dX11_sumOf_1 : decode cX11_sumOf 1 = .ok (.istore_n 2, 1) := by decide +kernel
theorem dX11_sumOf_2 : decode cX11_sumOf 2 = .ok (.iconst 0, 1) := by decide +kernel
theorem dX11_sumOf_3 : decode cX11_sumOf 3 = .ok (.istore_n 3, 1) := by decide +kernel
theorem dX11_sumOf_4 : decode cX11_sumOf 4 = .ok (.iload_n 3, 1) := by decide +kernel
theorem dX11_sumOf_5 : decode cX11_sumOf 5 = .ok (.aload_n 0, 1) := by decide +kernel
theorem dX11_sumOf_6 : decode cX11_sumOf 6 = .ok (.getfield 9, 3) := by decide +kernel
theorem dX11_sumOf_9 : decode cX11_sumOf 9 = .ok (.iconst 1, 1) := by decide +kernel
theorem dX11_sumOf_10 : decode cX11_sumOf 10 = .ok (.iaload, 1) := by decide +kernel
theorem dX11_sumOf_11 : decode cX11_sumOf 11 = .ok (.if_icmp .ge 18, 3) := by decide +kernel
theorem dX11_sumOf_14 : decode cX11_sumOf 14 = .ok (.iload_n 2, 1) := by decide +kernel
theorem dX11_sumOf_15 : decode cX11_sumOf 15 = .ok (.aload_n 0, 1) := by decide +kernel
theorem dX11_sumOf_16 : decode cX11_sumOf 16 = .ok (.iload_n 3, 1) := by decide +kernel
theorem dX11_sumOf_17 : decode cX11_sumOf 17 = .ok (.iload_n 1, 1) := by decide +kernel
theorem dX11_sumOf_18 : decode cX11_sumOf 18 = .ok (.invokevirtual 110, 3) := by decide +kernel
theorem dX11_sumOf_21 : decode cX11_sumOf 21 = .ok (.iadd, 1) := by decide +kernel
theorem dX11_sumOf_22 : decode cX11_sumOf 22 = .ok (.istore_n 2, 1) := by decide +kernel
theorem dX11_sumOf_23 : decode cX11_sumOf 23 = .ok (.iinc 3 1, 3) := by decide +kernel
theorem dX11_sumOf_26 : decode cX11_sumOf 26 = .ok (.goto (-22), 3) := by decide +kernel
theorem dX11_sumOf_29 : decode cX11_sumOf 29 = .ok (.iload_n 2, 1) := by decide +kernel
theorem dX11_sumOf_30 : decode cX11_sumOf 30 = .ok (.ireturn, 1) := by decide +kernel
theorem dX11_behind_0 : decode cX11_behind 0 = .ok (.iload_n 1, 1) := by decide +kernel
theorem dX11_behind_1 : decode cX11_behind 1 = .ok (.iconst 0, 1) := by decide +kernel
theorem dX11_behind_2 : decode cX11_behind 2 = .ok (.bipush 100, 2) := by decide +kernel
theorem dX11_behind_4 : decode cX11_behind 4 = .ok (.invokestatic 78, 3) := by decide +kernel
theorem dX11_behind_7 : decode cX11_behind 7 = .ok (.ifCond .eq 12, 3) := by decide +kernel
theorem dX11_behind_10 : decode cX11_behind 10 = .ok (.iload_n 2, 1) := by decide +kernel
theorem dX11_behind_11 : decode cX11_behind 11 = .ok (.iconst 0, 1) := by decide +kernel
theorem dX11_behind_12 : decode cX11_behind 12 = .ok (.iconst 3, 1) := by decide +kernel
theorem dX11_behind_13 : decode cX11_behind 13 = .ok (.invokestatic 78, 3) := by decide +kernel
theorem dX11_behind_16 : decode cX11_behind 16 = .ok (.ifCond .ne 6, 3) := by decide +kernel
theorem dX11_behind_19 : decode cX11_behind 19 = .ok (.ldc 90, 2) := by decide +kernel
theorem dX11_behind_21 : decode cX11_behind 21 = .ok (.ireturn, 1) := by decide +kernel
theorem dX11_behind_22 : decode cX11_behind 22 = .ok (.aload_n 0, 1) := by decide +kernel
theorem dX11_behind_23 : decode cX11_behind 23 = .ok (.invokevirtual 166, 3) := by decide +kernel
theorem dX11_behind_26 : decode cX11_behind 26 = .ok (.aload_n 0, 1) := by decide +kernel
theorem dX11_behind_27 : decode cX11_behind 27 = .ok (.iload_n 1, 1) := by decide +kernel
theorem dX11_behind_28 : decode cX11_behind 28 = .ok (.invokevirtual 163, 3) := by decide +kernel
theorem dX11_behind_31 : decode cX11_behind 31 = .ok (.istore_n 3, 1) := by decide +kernel
theorem dX11_behind_32 : decode cX11_behind 32 = .ok (.iload_n 2, 1) := by decide +kernel
theorem dX11_behind_33 : decode cX11_behind 33 = .ok (.ifCond .ne 10, 3) := by decide +kernel
theorem dX11_behind_36 : decode cX11_behind 36 = .ok (.aload_n 0, 1) := by decide +kernel
theorem dX11_behind_37 : decode cX11_behind 37 = .ok (.invokevirtual 100, 3) := by decide +kernel
theorem dX11_behind_40 : decode cX11_behind 40 = .ok (.goto 38, 3) := by decide +kernel
theorem dX11_behind_43 : decode cX11_behind 43 = .ok (.iload_n 2, 1) := by decide +kernel
theorem dX11_behind_44 : decode cX11_behind 44 = .ok (.iconst 1, 1) := by decide +kernel
theorem dX11_behind_45 : decode cX11_behind 45 = .ok (.if_icmp .ne 13, 3) := by decide +kernel
theorem dX11_behind_48 : decode cX11_behind 48 = .ok (.aload_n 0, 1) := by decide +kernel
theorem dX11_behind_49 : decode cX11_behind 49 = .ok (.getfield 9, 3) := by decide +kernel
theorem dX11_behind_52 : decode cX11_behind 52 = .ok (.bipush 6, 2) := by decide +kernel
theorem dX11_behind_54 : decode cX11_behind 54 = .ok (.iaload, 1) := by decide +kernel
theorem dX11_behind_55 : decode cX11_behind 55 = .ok (.goto 23, 3) := by decide +kernel
theorem dX11_behind_58 : decode cX11_behind 58 = .ok (.iload_n 2, 1) := by decide +kernel
theorem dX11_behind_59 : decode cX11_behind 59 = .ok (.iconst 2, 1) := by decide +kernel
theorem dX11_behind_60 : decode cX11_behind 60 = .ok (.if_icmp .ne 11, 3) := by decide +kernel
theorem dX11_behind_63 : decode cX11_behind 63 = .ok (.aload_n 0, 1) := by decide +kernel
theorem dX11_behind_64 : decode cX11_behind 64 = .ok (.iconst 3, 1) := by decide +kernel
theorem dX11_behind_65 : decode cX11_behind 65 = .ok (.invokevirtual 169, 3) := by decide +kernel
theorem dX11_behind_68 : decode cX11_behind 68 = .ok (.goto 10, 3) := by decide +kernel
theorem dX11_behind_71 : decode cX11_behind 71 = .ok (.aload_n 0, 1) := by decide +kernel
theorem dX11_behind_72 : decode cX11_behind 72 = .ok (.getfield 9, 3) := by decide +kernel
theorem dX11_behind_75 : decode cX11_behind 75 = .ok (.bipush 7, 2) := by decide +kernel
theorem dX11_behind_77 : decode cX11_behind 77 = .ok (.iaload, 1) := by decide +kernel
theorem dX11_behind_78 : decode cX11_behind 78 = .ok (.istore 4, 2) := by decide +kernel
theorem dX11_behind_80 : decode cX11_behind 80 = .ok (.aload_n 0, 1) := by decide +kernel
theorem dX11_behind_81 : decode cX11_behind 81 = .ok (.invokevirtual 172, 3) := by decide +kernel
theorem dX11_behind_84 : decode cX11_behind 84 = .ok (.iload 4, 2) := by decide +kernel
theorem dX11_behind_86 : decode cX11_behind 86 = .ok (.ireturn, 1) := by decide +kernel
theorem dX11_gone_0 : decode cX11_gone 0 = .ok (.aload_n 0, 1) := by decide +kernel
theorem dX11_gone_1 : decode cX11_gone 1 = .ok (.invokevirtual 166, 3) := by decide +kernel
theorem dX11_gone_4 : decode cX11_gone 4 = .ok (.iconst 0, 1) := by decide +kernel
theorem dX11_gone_5 : decode cX11_gone 5 = .ok (.istore_n 1, 1) := by decide +kernel
theorem dX11_gone_6 : decode cX11_gone 6 = .ok (.iload_n 1, 1) := by decide +kernel
theorem dX11_gone_7 : decode cX11_gone 7 = .ok (.sipush 300, 3) := by decide +kernel
theorem dX11_gone_10 : decode cX11_gone 10 = .ok (.if_icmp .gt 30, 3) := by decide +kernel
theorem dX11_gone_13 : decode cX11_gone 13 = .ok (.aload_n 0, 1) := by decide +kernel
theorem dX11_gone_14 : decode cX11_gone 14 = .ok (.getfield 9, 3) := by decide +kernel
theorem dX11_gone_17 : decode cX11_gone 17 = .ok (.bipush 7, 2) := by decide +kernel
theorem dX11_gone_19 : decode cX11_gone 19 = .ok (.iaload, 1) := by decide +kernel
theorem dX11_gone_20 : decode cX11_gone 20 = .ok (.ifCond .le 20, 3) := by decide +kernel
theorem dX11_gone_23 : decode cX11_gone 23 = .ok (.aload_n 0, 1) := by decide +kernel
theorem dX11_gone_24 : decode cX11_gone 24 = .ok (.aload_n 0, 1) := by decide +kernel
theorem dX11_gone_25 : decode cX11_gone 25 = .ok (.getfield 9, 3) := by decide +kernel
theorem dX11_gone_28 : decode cX11_gone 28 = .ok (.iconst 5, 1) := by decide +kernel
theorem dX11_gone_29 : decode cX11_gone 29 = .ok (.iaload, 1) := by decide +kernel
theorem dX11_gone_30 : decode cX11_gone 30 = .ok (.invokevirtual 160, 3) := by decide +kernel
theorem dX11_gone_33 : decode cX11_gone 33 = .ok (.istore_n 2, 1) := by decide +kernel
theorem dX11_gone_34 : decode cX11_gone 34 = .ok (.iinc 1 1, 3) := by decide +kernel
theorem dX11_gone_37 : decode cX11_gone 37 = .ok (.goto (-31), 3) := by decide +kernel
theorem dX11_gone_40 : decode cX11_gone 40 = .ok (.aload_n 0, 1) := by decide +kernel
theorem dX11_gone_41 : decode cX11_gone 41 = .ok (.invokevirtual 172, 3) := by decide +kernel
theorem dX11_gone_44 : decode cX11_gone 44 = .ok (.iload_n 1, 1) := by decide +kernel
theorem dX11_gone_45 : decode cX11_gone 45 = .ok (.sipush 300, 3) := by decide +kernel
theorem dX11_gone_48 : decode cX11_gone 48 = .ok (.if_icmp .gt 7, 3) := by decide +kernel
theorem dX11_gone_51 : decode cX11_gone 51 = .ok (.iload_n 1, 1) := by decide +kernel
theorem dX11_gone_52 : decode cX11_gone 52 = .ok (.goto 5, 3) := by decide +kernel
theorem dX11_gone_55 : decode cX11_gone 55 = .ok (.ldc 152, 2) := by decide +kernel
theorem dX11_gone_57 : decode cX11_gone 57 = .ok (.ireturn, 1) := by decide +kernel
theorem dX11_findWay_0 : decode cX11_findWay 0 = .ok (.aload_n 0, 1) := by decide +kernel
theorem dX11_findWay_1 : decode cX11_findWay 1 = .ok (.invokevirtual 166, 3) := by decide +kernel
theorem dX11_findWay_4 : decode cX11_findWay 4 = .ok (.iconst 1, 1) := by decide +kernel
theorem dX11_findWay_5 : decode cX11_findWay 5 = .ok (.istore_n 2, 1) := by decide +kernel
theorem dX11_findWay_6 : decode cX11_findWay 6 = .ok (.iconst 0, 1) := by decide +kernel
theorem dX11_findWay_7 : decode cX11_findWay 7 = .ok (.istore_n 3, 1) := by decide +kernel
theorem dX11_findWay_8 : decode cX11_findWay 8 = .ok (.iload_n 3, 1) := by decide +kernel
theorem dX11_findWay_9 : decode cX11_findWay 9 = .ok (.iload_n 1, 1) := by decide +kernel
theorem dX11_findWay_10 : decode cX11_findWay 10 = .ok (.if_icmp .ge 13, 3) := by decide +kernel
theorem dX11_findWay_13 : decode cX11_findWay 13 = .ok (.iload_n 2, 1) := by decide +kernel
theorem dX11_findWay_14 : decode cX11_findWay 14 = .ok (.iconst 3, 1) := by decide +kernel
theorem dX11_findWay_15 : decode cX11_findWay 15 = .ok (.imul, 1) := by decide +kernel
theorem dX11_findWay_16 : decode cX11_findWay 16 = .ok (.istore_n 2, 1) := by decide +kernel
theorem dX11_findWay_17 : decode cX11_findWay 17 = .ok (.iinc 3 1, 3) := by decide +kernel
theorem dX11_findWay_20 : decode cX11_findWay 20 = .ok (.goto (-12), 3) := by decide +kernel
theorem dX11_findWay_23 : decode cX11_findWay 23 = .ok (.iconst 0, 1) := by decide +kernel
theorem dX11_findWay_24 : decode cX11_findWay 24 = .ok (.istore_n 3, 1) := by decide +kernel
theorem dX11_findWay_25 : decode cX11_findWay 25 = .ok (.iload_n 3, 1) := by decide +kernel
theorem dX11_findWay_26 : decode cX11_findWay 26 = .ok (.iload_n 2, 1) := by decide +kernel
theorem dX11_findWay_27 : decode cX11_findWay 27 = .ok (.if_icmp .ge 136, 3) := by decide +kernel
theorem dX11_findWay_30 : decode cX11_findWay 30 = .ok (.iload_n 2, 1) := by decide +kernel
theorem dX11_findWay_31 : decode cX11_findWay 31 = .ok (.iconst 3, 1) := by decide +kernel
theorem dX11_findWay_32 : decode cX11_findWay 32 = .ok (.idiv, 1) := by decide +kernel
theorem dX11_findWay_33 : decode cX11_findWay 33 = .ok (.istore 4, 2) := by decide +kernel
theorem dX11_findWay_35 : decode cX11_findWay 35 = .ok (.iconst 0, 1) := by decide +kernel
theorem dX11_findWay_36 : decode cX11_findWay 36 = .ok (.istore 5, 2) := by decide +kernel
theorem dX11_findWay_38 : decode cX11_findWay 38 = .ok (.iload 5, 2) := by decide +kernel
theorem dX11_findWay_40 : decode cX11_findWay 40 = .ok (.iload_n 1, 1) := by decide +kernel
theorem dX11_findWay_41 : decode cX11_findWay 41 = .ok (.if_icmp .ge 39, 3) := by decide +kernel
theorem dX11_findWay_44 : decode cX11_findWay 44 = .ok (.aload_n 0, 1) := by decide +kernel
theorem dX11_findWay_45 : decode cX11_findWay 45 = .ok (.iload_n 3, 1) := by decide +kernel
theorem dX11_findWay_46 : decode cX11_findWay 46 = .ok (.iload 4, 2) := by decide +kernel
theorem dX11_findWay_48 : decode cX11_findWay 48 = .ok (.idiv, 1) := by decide +kernel
theorem dX11_findWay_49 : decode cX11_findWay 49 = .ok (.iconst 3, 1) := by decide +kernel
theorem dX11_findWay_50 : decode cX11_findWay 50 = .ok (.irem, 1) := by decide +kernel
theorem dX11_findWay_51 : decode cX11_findWay 51 = .ok (.iconst 1, 1) := by decide +kernel
theorem dX11_findWay_52 : decode cX11_findWay 52 = .ok (.isub, 1) := by decide +kernel
theorem dX11_findWay_53 : decode cX11_findWay 53 = .ok (.invokevirtual 160, 3) := by decide +kernel
theorem dX11_findWay_56 : decode cX11_findWay 56 = .ok (.istore 6, 2) := by decide +kernel
theorem dX11_findWay_58 : decode cX11_findWay 58 = .ok (.iload 4, 2) := by decide +kernel
theorem dX11_findWay_60 : decode cX11_findWay 60 = .ok (.iconst 1, 1) := by decide +kernel
theorem dX11_findWay_61 : decode cX11_findWay 61 = .ok (.if_icmp .le 10, 3) := by decide +kernel
theorem dX11_findWay_64 : decode cX11_findWay 64 = .ok (.iload 4, 2) := by decide +kernel
theorem dX11_findWay_66 : decode cX11_findWay 66 = .ok (.iconst 3, 1) := by decide +kernel
theorem dX11_findWay_67 : decode cX11_findWay 67 = .ok (.idiv, 1) := by decide +kernel
theorem dX11_findWay_68 : decode cX11_findWay 68 = .ok (.goto 4, 3) := by decide +kernel
theorem dX11_findWay_71 : decode cX11_findWay 71 = .ok (.iconst 1, 1) := by decide +kernel
theorem dX11_findWay_72 : decode cX11_findWay 72 = .ok (.istore 4, 2) := by decide +kernel
theorem dX11_findWay_74 : decode cX11_findWay 74 = .ok (.iinc 5 1, 3) := by decide +kernel
theorem dX11_findWay_77 : decode cX11_findWay 77 = .ok (.goto (-39), 3) := by decide +kernel
theorem dX11_findWay_80 : decode cX11_findWay 80 = .ok (.aload_n 0, 1) := by decide +kernel
theorem dX11_findWay_81 : decode cX11_findWay 81 = .ok (.iconst 3, 1) := by decide +kernel
theorem dX11_findWay_82 : decode cX11_findWay 82 = .ok (.invokevirtual 169, 3) := by decide +kernel
theorem dX11_findWay_85 : decode cX11_findWay 85 = .ok (.istore 5, 2) := by decide +kernel
theorem dX11_findWay_87 : decode cX11_findWay 87 = .ok (.aload_n 0, 1) := by decide +kernel
theorem dX11_findWay_88 : decode cX11_findWay 88 = .ok (.invokevirtual 100, 3) := by decide +kernel
theorem dX11_findWay_91 : decode cX11_findWay 91 = .ok (.istore 6, 2) := by decide +kernel
theorem dX11_findWay_93 : decode cX11_findWay 93 = .ok (.iload_n 3, 1) := by decide +kernel
theorem dX11_findWay_94 : decode cX11_findWay 94 = .ok (.ifCond .eq 36, 3) := by decide +kernel
theorem dX11_findWay_97 : decode cX11_findWay 97 = .ok (.iload 5, 2) := by decide +kernel
theorem dX11_findWay_99 : decode cX11_findWay 99 = .ok (.aload_n 0, 1) := by decide +kernel
theorem dX11_findWay_100 : decode cX11_findWay 100 = .ok (.getfield 22, 3) := by decide +kernel
theorem dX11_findWay_103 : decode cX11_findWay 103 = .ok (.iconst 0, 1) := by decide +kernel
theorem dX11_findWay_104 : decode cX11_findWay 104 = .ok (.iaload, 1) := by decide +kernel
theorem dX11_findWay_105 : decode cX11_findWay 105 = .ok (.if_icmp .lt 25, 3) := by decide +kernel
theorem dX11_findWay_108 : decode cX11_findWay 108 = .ok (.iload 5, 2) := by decide +kernel
theorem dX11_findWay_110 : decode cX11_findWay 110 = .ok (.aload_n 0, 1) := by decide +kernel
theorem dX11_findWay_111 : decode cX11_findWay 111 = .ok (.getfield 22, 3) := by decide +kernel
theorem dX11_findWay_114 : decode cX11_findWay 114 = .ok (.iconst 0, 1) := by decide +kernel
theorem dX11_findWay_115 : decode cX11_findWay 115 = .ok (.iaload, 1) := by decide +kernel
theorem dX11_findWay_116 : decode cX11_findWay 116 = .ok (.if_icmp .ne 37, 3) := by decide +kernel
theorem dX11_findWay_119 : decode cX11_findWay 119 = .ok (.iload 6, 2) := by decide +kernel
theorem dX11_findWay_121 : decode cX11_findWay 121 = .ok (.aload_n 0, 1) := by decide +kernel
theorem dX11_findWay_122 : decode cX11_findWay 122 = .ok (.getfield 22, 3) := by decide +kernel
theorem dX11_findWay_125 : decode cX11_findWay 125 = .ok (.iconst 1, 1) := by decide +kernel
theorem dX11_findWay_126 : decode cX11_findWay 126 = .ok (.iaload, 1) := by decide +kernel
theorem dX11_findWay_127 : decode cX11_findWay 127 = .ok (.if_icmp .le 26, 3) := by decide +kernel
theorem dX11_findWay_130 : decode cX11_findWay 130 = .ok (.aload_n 0, 1) := by decide +kernel
theorem dX11_findWay_131 : decode cX11_findWay 131 = .ok (.getfield 22, 3) := by decide +kernel
theorem dX11_findWay_134 : decode cX11_findWay 134 = .ok (.iconst 0, 1) := by decide +kernel
theorem dX11_findWay_135 : decode cX11_findWay 135 = .ok (.iload 5, 2) := by decide +kernel
theorem dX11_findWay_137 : decode cX11_findWay 137 = .ok (.iastore, 1) := by decide +kernel
theorem dX11_findWay_138 : decode cX11_findWay 138 = .ok (.aload_n 0, 1) := by decide +kernel
theorem dX11_findWay_139 : decode cX11_findWay 139 = .ok (.getfield 22, 3) := by decide +kernel
theorem dX11_findWay_142 : decode cX11_findWay 142 = .ok (.iconst 1, 1) := by decide +kernel
theorem dX11_findWay_143 : decode cX11_findWay 143 = .ok (.iload 6, 2) := by decide +kernel
theorem dX11_findWay_145 : decode cX11_findWay 145 = .ok (.iastore, 1) := by decide +kernel
theorem dX11_findWay_146 : decode cX11_findWay 146 = .ok (.aload_n 0, 1) := by decide +kernel
theorem dX11_findWay_147 : decode cX11_findWay 147 = .ok (.getfield 22, 3) := by decide +kernel
theorem dX11_findWay_150 : decode cX11_findWay 150 = .ok (.iconst 2, 1) := by decide +kernel
theorem dX11_findWay_151 : decode cX11_findWay 151 = .ok (.iload_n 3, 1) := by decide +kernel
theorem dX11_findWay_152 : decode cX11_findWay 152 = .ok (.iastore, 1) := by decide +kernel
theorem dX11_findWay_153 : decode cX11_findWay 153 = .ok (.aload_n 0, 1) := by decide +kernel
theorem dX11_findWay_154 : decode cX11_findWay 154 = .ok (.invokevirtual 172, 3) := by decide +kernel
theorem dX11_findWay_157 : decode cX11_findWay 157 = .ok (.iinc 3 1, 3) := by decide +kernel
theorem dX11_findWay_160 : decode cX11_findWay 160 = .ok (.goto (-135), 3) := by decide +kernel
theorem dX11_findWay_163 : decode cX11_findWay 163 = .ok (.return_, 1) := by decide +kernel
theorem dX11_way_0 : decode cX11_way 0 = .ok (.iload_n 1, 1) := by decide +kernel
theorem dX11_way_1 : decode cX11_way 1 = .ok (.iconst 1, 1) := by decide +kernel
theorem dX11_way_2 : decode cX11_way 2 = .ok (.iconst 5, 1) := by decide +kernel
theorem dX11_way_3 : decode cX11_way 3 = .ok (.invokestatic 78, 3) := by decide +kernel
theorem dX11_way_6 : decode cX11_way 6 = .ok (.ifCond .eq 12, 3) := by decide +kernel
theorem dX11_way_9 : decode cX11_way 9 = .ok (.iload_n 2, 1) := by decide +kernel
theorem dX11_way_10 : decode cX11_way 10 = .ok (.iconst 0, 1) := by decide +kernel
theorem dX11_way_11 : decode cX11_way 11 = .ok (.iconst 2, 1) := by decide +kernel
theorem dX11_way_12 : decode cX11_way 12 = .ok (.invokestatic 78, 3) := by decide +kernel
theorem dX11_way_15 : decode cX11_way 15 = .ok (.ifCond .ne 6, 3) := by decide +kernel
theorem dX11_way_18 : decode cX11_way 18 = .ok (.ldc 90, 2) := by decide +kernel
theorem dX11_way_20 : decode cX11_way 20 = .ok (.ireturn, 1) := by decide +kernel
theorem dX11_way_21 : decode cX11_way 21 = .ok (.aload_n 0, 1) := by decide +kernel
theorem dX11_way_22 : decode cX11_way 22 = .ok (.getfield 9, 3) := by decide +kernel
theorem dX11_way_25 : decode cX11_way 25 = .ok (.iconst 1, 1) := by decide +kernel
theorem dX11_way_26 : decode cX11_way 26 = .ok (.iaload, 1) := by decide +kernel
theorem dX11_way_27 : decode cX11_way 27 = .ok (.ifCond .ne 6, 3) := by decide +kernel
theorem dX11_way_30 : decode cX11_way 30 = .ok (.ldc 152, 2) := by decide +kernel
theorem dX11_way_32 : decode cX11_way 32 = .ok (.ireturn, 1) := by decide +kernel
theorem dX11_way_33 : decode cX11_way 33 = .ok (.aload_n 0, 1) := by decide +kernel
theorem dX11_way_34 : decode cX11_way 34 = .ok (.iload_n 1, 1) := by decide +kernel
theorem dX11_way_35 : decode cX11_way 35 = .ok (.invokevirtual 175, 3) := by decide +kernel
theorem dX11_way_38 : decode cX11_way 38 = .ok (.aload_n 0, 1) := by decide +kernel
theorem dX11_way_39 : decode cX11_way 39 = .ok (.getfield 22, 3) := by decide +kernel
theorem dX11_way_42 : decode cX11_way 42 = .ok (.iload_n 2, 1) := by decide +kernel
theorem dX11_way_43 : decode cX11_way 43 = .ok (.iaload, 1) := by decide +kernel
theorem dX11_way_44 : decode cX11_way 44 = .ok (.ireturn, 1) := by decide +kernel
theorem dX11_most_0 : decode cX11_most 0 = .ok (.aload_n 0, 1) := by decide +kernel
theorem dX11_most_1 : decode cX11_most 1 = .ok (.getfield 9, 3) := by decide +kernel
theorem dX11_most_4 : decode cX11_most 4 = .ok (.bipush 7, 2) := by decide +kernel
theorem dX11_most_6 : decode cX11_most 6 = .ok (.iaload, 1) := by decide +kernel
theorem dX11_most_7 : decode cX11_most 7 = .ok (.ifCond .ne 6, 3) := by decide +kernel
theorem dX11_most_10 : decode cX11_most 10 = .ok (.ldc 152, 2) := by decide +kernel
theorem dX11_most_12 : decode cX11_most 12 = .ok (.ireturn, 1) := by decide +kernel
theorem dX11_most_13 : decode cX11_most 13 = .ok (.iconst 0, 1) := by decide +kernel
theorem dX11_most_14 : decode cX11_most 14 = .ok (.istore_n 1, 1) := by decide +kernel
theorem dX11_most_15 : decode cX11_most 15 = .ok (.iconst 1, 1) := by decide +kernel
theorem dX11_most_16 : decode cX11_most 16 = .ok (.istore_n 2, 1) := by decide +kernel
theorem dX11_most_17 : decode cX11_most 17 = .ok (.iload_n 2, 1) := by decide +kernel
theorem dX11_most_18 : decode cX11_most 18 = .ok (.aload_n 0, 1) := by decide +kernel
theorem dX11_most_19 : decode cX11_most 19 = .ok (.getfield 9, 3) := by decide +kernel
theorem dX11_most_22 : decode cX11_most 22 = .ok (.iconst 1, 1) := by decide +kernel
theorem dX11_most_23 : decode cX11_most 23 = .ok (.iaload, 1) := by decide +kernel
theorem dX11_most_24 : decode cX11_most 24 = .ok (.if_icmp .ge 28, 3) := by decide +kernel
theorem dX11_most_27 : decode cX11_most 27 = .ok (.aload_n 0, 1) := by decide +kernel
theorem dX11_most_28 : decode cX11_most 28 = .ok (.iload_n 2, 1) := by decide +kernel
theorem dX11_most_29 : decode cX11_most 29 = .ok (.invokevirtual 127, 3) := by decide +kernel
theorem dX11_most_32 : decode cX11_most 32 = .ok (.aload_n 0, 1) := by decide +kernel
theorem dX11_most_33 : decode cX11_most 33 = .ok (.iload_n 1, 1) := by decide +kernel
theorem dX11_most_34 : decode cX11_most 34 = .ok (.invokevirtual 127, 3) := by decide +kernel
theorem dX11_most_37 : decode cX11_most 37 = .ok (.if_icmp .le 7, 3) := by decide +kernel
theorem dX11_most_40 : decode cX11_most 40 = .ok (.iload_n 2, 1) := by decide +kernel
theorem dX11_most_41 : decode cX11_most 41 = .ok (.goto 4, 3) := by decide +kernel
theorem dX11_most_44 : decode cX11_most 44 = .ok (.iload_n 1, 1) := by decide +kernel
theorem dX11_most_45 : decode cX11_most 45 = .ok (.istore_n 1, 1) := by decide +kernel
theorem dX11_most_46 : decode cX11_most 46 = .ok (.iinc 2 1, 3) := by decide +kernel
theorem dX11_most_49 : decode cX11_most 49 = .ok (.goto (-32), 3) := by decide +kernel
theorem dX11_most_52 : decode cX11_most 52 = .ok (.iload_n 1, 1) := by decide +kernel
theorem dX11_most_53 : decode cX11_most 53 = .ok (.ireturn, 1) := by decide +kernel
theorem dX11_offBy_0 : decode cX11_offBy 0 = .ok (.aload_n 0, 1) := by decide +kernel
theorem dX11_offBy_1 : decode cX11_offBy 1 = .ok (.getfield 9, 3) := by decide +kernel
theorem dX11_offBy_4 : decode cX11_offBy 4 = .ok (.iconst 3, 1) := by decide +kernel
theorem dX11_offBy_5 : decode cX11_offBy 5 = .ok (.iload_n 2, 1) := by decide +kernel
theorem dX11_offBy_6 : decode cX11_offBy 6 = .ok (.iastore, 1) := by decide +kernel
theorem dX11_offBy_7 : decode cX11_offBy 7 = .ok (.lconst 0, 1) := by decide +kernel
theorem dX11_offBy_8 : decode cX11_offBy 8 = .ok (.lstore_n 3, 1) := by decide +kernel
theorem dX11_offBy_9 : decode cX11_offBy 9 = .ok (.iconst 0, 1) := by decide +kernel
theorem dX11_offBy_10 : decode cX11_offBy 10 = .ok (.istore 5, 2) := by decide +kernel
theorem dX11_offBy_12 : decode cX11_offBy 12 = .ok (.iload 5, 2) := by decide +kernel
theorem dX11_offBy_14 : decode cX11_offBy 14 = .ok (.aload_n 0, 1) := by decide +kernel
theorem dX11_offBy_15 : decode cX11_offBy 15 = .ok (.getfield 54, 3) := by decide +kernel
theorem dX11_offBy_18 : decode cX11_offBy 18 = .ok (.iload_n 1, 1) := by decide +kernel
theorem dX11_offBy_19 : decode cX11_offBy 19 = .ok (.iaload, 1) := by decide +kernel
theorem dX11_offBy_20 : decode cX11_offBy 20 = .ok (.if_icmp .ge 75, 3) := by decide +kernel
theorem dX11_offBy_23 : decode cX11_offBy 23 = .ok (.aload_n 0, 1) := by decide +kernel
theorem dX11_offBy_24 : decode cX11_offBy 24 = .ok (.getfield 57, 3) := by decide +kernel
theorem dX11_offBy_27 : decode cX11_offBy 27 = .ok (.bipush 24, 2) := by decide +kernel
theorem dX11_offBy_29 : decode cX11_offBy 29 = .ok (.iload_n 1, 1) := by decide +kernel
theorem dX11_offBy_30 : decode cX11_offBy 30 = .ok (.imul, 1) := by decide +kernel
theorem dX11_offBy_31 : decode cX11_offBy 31 = .ok (.iload 5, 2) := by decide +kernel
theorem dX11_offBy_33 : decode cX11_offBy 33 = .ok (.iadd, 1) := by decide +kernel
theorem dX11_offBy_34 : decode cX11_offBy 34 = .ok (.iaload, 1) := by decide +kernel
theorem dX11_offBy_35 : decode cX11_offBy 35 = .ok (.istore 6, 2) := by decide +kernel
theorem dX11_offBy_37 : decode cX11_offBy 37 = .ok (.iload 6, 2) := by decide +kernel
theorem dX11_offBy_39 : decode cX11_offBy 39 = .ok (.i2l, 1) := by decide +kernel
theorem dX11_offBy_40 : decode cX11_offBy 40 = .ok (.aload_n 0, 1) := by decide +kernel
theorem dX11_offBy_41 : decode cX11_offBy 41 = .ok (.invokevirtual 100, 3) := by decide +kernel
theorem dX11_offBy_44 : decode cX11_offBy 44 = .ok (.i2l, 1) := by decide +kernel
theorem dX11_offBy_45 : decode cX11_offBy 45 = .ok (.lsub, 1) := by decide +kernel
theorem dX11_offBy_46 : decode cX11_offBy 46 = .ok (.lstore 7, 2) := by decide +kernel
theorem dX11_offBy_48 : decode cX11_offBy 48 = .ok (.lload_n 3, 1) := by decide +kernel
theorem dX11_offBy_49 : decode cX11_offBy 49 = .ok (.iload 6, 2) := by decide +kernel
theorem dX11_offBy_51 : decode cX11_offBy 51 = .ok (.ldc 152, 2) := by decide +kernel
theorem dX11_offBy_53 : decode cX11_offBy 53 = .ok (.if_icmp .ne 7, 3) := by decide +kernel
theorem dX11_offBy_56 : decode cX11_offBy 56 = .ok (.lconst 0, 1) := by decide +kernel
theorem dX11_offBy_57 : decode cX11_offBy 57 = .ok (.goto 18, 3) := by decide +kernel
theorem dX11_offBy_60 : decode cX11_offBy 60 = .ok (.lload 7, 2) := by decide +kernel
theorem dX11_offBy_62 : decode cX11_offBy 62 = .ok (.lconst 0, 1) := by decide +kernel
theorem dX11_offBy_63 : decode cX11_offBy 63 = .ok (.lcmp, 1) := by decide +kernel
theorem dX11_offBy_64 : decode cX11_offBy 64 = .ok (.ifCond .ge 9, 3) := by decide +kernel
theorem dX11_offBy_67 : decode cX11_offBy 67 = .ok (.lload 7, 2) := by decide +kernel
theorem dX11_offBy_69 : decode cX11_offBy 69 = .ok (.lneg, 1) := by decide +kernel
theorem dX11_offBy_70 : decode cX11_offBy 70 = .ok (.goto 5, 3) := by decide +kernel
theorem dX11_offBy_73 : decode cX11_offBy 73 = .ok (.lload 7, 2) := by decide +kernel
theorem dX11_offBy_75 : decode cX11_offBy 75 = .ok (.ladd, 1) := by decide +kernel
theorem dX11_offBy_76 : decode cX11_offBy 76 = .ok (.lstore_n 3, 1) := by decide +kernel
theorem dX11_offBy_77 : decode cX11_offBy 77 = .ok (.aload_n 0, 1) := by decide +kernel
theorem dX11_offBy_78 : decode cX11_offBy 78 = .ok (.aload_n 0, 1) := by decide +kernel
theorem dX11_offBy_79 : decode cX11_offBy 79 = .ok (.getfield 9, 3) := by decide +kernel
theorem dX11_offBy_82 : decode cX11_offBy 82 = .ok (.iconst 5, 1) := by decide +kernel
theorem dX11_offBy_83 : decode cX11_offBy 83 = .ok (.iaload, 1) := by decide +kernel
theorem dX11_offBy_84 : decode cX11_offBy 84 = .ok (.invokevirtual 160, 3) := by decide +kernel
theorem dX11_offBy_87 : decode cX11_offBy 87 = .ok (.istore 9, 2) := by decide +kernel
theorem dX11_offBy_89 : decode cX11_offBy 89 = .ok (.iinc 5 1, 3) := by decide +kernel
theorem dX11_offBy_92 : decode cX11_offBy 92 = .ok (.goto (-80), 3) := by decide +kernel
theorem dX11_offBy_95 : decode cX11_offBy 95 = .ok (.aload_n 0, 1) := by decide +kernel
theorem dX11_offBy_96 : decode cX11_offBy 96 = .ok (.invokevirtual 172, 3) := by decide +kernel
theorem dX11_offBy_99 : decode cX11_offBy 99 = .ok (.lload_n 3, 1) := by decide +kernel
theorem dX11_offBy_100 : decode cX11_offBy 100 = .ok (.lreturn, 1) := by decide +kernel
theorem dX11_warmed_0 : decode cX11_warmed 0 = .ok (.iload_n 1, 1) := by decide +kernel
theorem dX11_warmed_1 : decode cX11_warmed 1 = .ok (.invokestatic 178, 3) := by decide +kernel
theorem dX11_warmed_4 : decode cX11_warmed 4 = .ok (.ifCond .eq 12, 3) := by decide +kernel
theorem dX11_warmed_7 : decode cX11_warmed 7 = .ok (.iload_n 2, 1) := by decide +kernel
theorem dX11_warmed_8 : decode cX11_warmed 8 = .ok (.iconst 0, 1) := by decide +kernel
theorem dX11_warmed_9 : decode cX11_warmed 9 = .ok (.iconst 1, 1) := by decide +kernel
theorem dX11_warmed_10 : decode cX11_warmed 10 = .ok (.invokestatic 78, 3) := by decide +kernel
theorem dX11_warmed_13 : decode cX11_warmed 13 = .ok (.ifCond .ne 6, 3) := by decide +kernel
theorem dX11_warmed_16 : decode cX11_warmed 16 = .ok (.ldc 90, 2) := by decide +kernel
theorem dX11_warmed_18 : decode cX11_warmed 18 = .ok (.ireturn, 1) := by decide +kernel
theorem dX11_warmed_19 : decode cX11_warmed 19 = .ok (.aload_n 0, 1) := by decide +kernel
theorem dX11_warmed_20 : decode cX11_warmed 20 = .ok (.getfield 51, 3) := by decide +kernel
theorem dX11_warmed_23 : decode cX11_warmed 23 = .ok (.iload_n 1, 1) := by decide +kernel
theorem dX11_warmed_24 : decode cX11_warmed 24 = .ok (.iaload, 1) := by decide +kernel
theorem dX11_warmed_25 : decode cX11_warmed 25 = .ok (.ifCond .ge 6, 3) := by decide +kernel
theorem dX11_warmed_28 : decode cX11_warmed 28 = .ok (.ldc 181, 2) := by decide +kernel
theorem dX11_warmed_30 : decode cX11_warmed 30 = .ok (.ireturn, 1) := by decide +kernel
theorem dX11_warmed_31 : decode cX11_warmed 31 = .ok (.aload_n 0, 1) := by decide +kernel
theorem dX11_warmed_32 : decode cX11_warmed 32 = .ok (.invokevirtual 166, 3) := by decide +kernel
theorem dX11_warmed_35 : decode cX11_warmed 35 = .ok (.iconst 0, 1) := by decide +kernel
theorem dX11_warmed_36 : decode cX11_warmed 36 = .ok (.istore_n 3, 1) := by decide +kernel
theorem dX11_warmed_37 : decode cX11_warmed 37 = .ok (.aload_n 0, 1) := by decide +kernel
theorem dX11_warmed_38 : decode cX11_warmed 38 = .ok (.iload_n 1, 1) := by decide +kernel
theorem dX11_warmed_39 : decode cX11_warmed 39 = .ok (.iconst 0, 1) := by decide +kernel
theorem dX11_warmed_40 : decode cX11_warmed 40 = .ok (.invokevirtual 182, 3) := by decide +kernel
theorem dX11_warmed_43 : decode cX11_warmed 43 = .ok (.lstore 4, 2) := by decide +kernel
theorem dX11_warmed_45 : decode cX11_warmed 45 = .ok (.iconst 1, 1) := by decide +kernel
theorem dX11_warmed_46 : decode cX11_warmed 46 = .ok (.istore 6, 2) := by decide +kernel
theorem dX11_warmed_48 : decode cX11_warmed 48 = .ok (.iload 6, 2) := by decide +kernel
theorem dX11_warmed_50 : decode cX11_warmed 50 = .ok (.bipush 20, 2) := by decide +kernel
theorem dX11_warmed_52 : decode cX11_warmed 52 = .ok (.if_icmp .gt 50, 3) := by decide +kernel
theorem dX11_warmed_55 : decode cX11_warmed 55 = .ok (.aload_n 0, 1) := by decide +kernel
theorem dX11_warmed_56 : decode cX11_warmed 56 = .ok (.iload_n 1, 1) := by decide +kernel
theorem dX11_warmed_57 : decode cX11_warmed 57 = .ok (.iload 6, 2) := by decide +kernel
theorem dX11_warmed_59 : decode cX11_warmed 59 = .ok (.invokevirtual 182, 3) := by decide +kernel
theorem dX11_warmed_62 : decode cX11_warmed 62 = .ok (.lstore 7, 2) := by decide +kernel
theorem dX11_warmed_64 : decode cX11_warmed 64 = .ok (.lload 7, 2) := by decide +kernel
theorem dX11_warmed_66 : decode cX11_warmed 66 = .ok (.lload 4, 2) := by decide +kernel
theorem dX11_warmed_68 : decode cX11_warmed 68 = .ok (.lcmp, 1) := by decide +kernel
theorem dX11_warmed_69 : decode cX11_warmed 69 = .ok (.ifCond .ge 8, 3) := by decide +kernel
theorem dX11_warmed_72 : decode cX11_warmed 72 = .ok (.iload 6, 2) := by decide +kernel
theorem dX11_warmed_74 : decode cX11_warmed 74 = .ok (.goto 4, 3) := by decide +kernel
theorem dX11_warmed_77 : decode cX11_warmed 77 = .ok (.iload_n 3, 1) := by decide +kernel
theorem dX11_warmed_78 : decode cX11_warmed 78 = .ok (.istore_n 3, 1) := by decide +kernel
theorem dX11_warmed_79 : decode cX11_warmed 79 = .ok (.lload 7, 2) := by decide +kernel
theorem dX11_warmed_81 : decode cX11_warmed 81 = .ok (.lload 4, 2) := by decide +kernel
theorem dX11_warmed_83 : decode cX11_warmed 83 = .ok (.lcmp, 1) := by decide +kernel
theorem dX11_warmed_84 : decode cX11_warmed 84 = .ok (.ifCond .ge 8, 3) := by decide +kernel
theorem dX11_warmed_87 : decode cX11_warmed 87 = .ok (.lload 7, 2) := by decide +kernel
theorem dX11_warmed_89 : decode cX11_warmed 89 = .ok (.goto 5, 3) := by decide +kernel
theorem dX11_warmed_92 : decode cX11_warmed 92 = .ok (.lload 4, 2) := by decide +kernel
theorem dX11_warmed_94 : decode cX11_warmed 94 = .ok (.lstore 4, 2) := by decide +kernel
theorem dX11_warmed_96 : decode cX11_warmed 96 = .ok (.iinc 6 1, 3) := by decide +kernel
theorem dX11_warmed_99 : decode cX11_warmed 99 = .ok (.goto (-51), 3) := by decide +kernel
theorem dX11_warmed_102 : decode cX11_warmed 102 = .ok (.iload_n 2, 1) := by decide +kernel
theorem dX11_warmed_103 : decode cX11_warmed 103 = .ok (.ifCond .ne 7, 3) := by decide +kernel
theorem dX11_warmed_106 : decode cX11_warmed 106 = .ok (.iload_n 3, 1) := by decide +kernel
theorem dX11_warmed_107 : decode cX11_warmed 107 = .ok (.goto 6, 3) := by decide +kernel
theorem dX11_warmed_110 : decode cX11_warmed 110 = .ok (.lload 4, 2) := by decide +kernel
theorem dX11_warmed_112 : decode cX11_warmed 112 = .ok (.l2i, 1) := by decide +kernel
theorem dX11_warmed_113 : decode cX11_warmed 113 = .ok (.ireturn, 1) := by decide +kernel
theorem dX11_fine_0 : decode cX11_fine 0 = .ok (.aload_n 0, 1) := by decide +kernel
theorem dX11_fine_1 : decode cX11_fine 1 = .ok (.iload_n 1, 1) := by decide +kernel
theorem dX11_fine_2 : decode cX11_fine 2 = .ok (.invokevirtual 114, 3) := by decide +kernel
theorem dX11_fine_5 : decode cX11_fine 5 = .ok (.ifCond .ne 6, 3) := by decide +kernel
theorem dX11_fine_8 : decode cX11_fine 8 = .ok (.ldc 90, 2) := by decide +kernel
theorem dX11_fine_10 : decode cX11_fine 10 = .ok (.ireturn, 1) := by decide +kernel
theorem dX11_fine_11 : decode cX11_fine 11 = .ok (.aload_n 0, 1) := by decide +kernel
theorem dX11_fine_12 : decode cX11_fine 12 = .ok (.iconst 2, 1) := by decide +kernel
theorem dX11_fine_13 : decode cX11_fine 13 = .ok (.invokevirtual 96, 3) := by decide +kernel
theorem dX11_fine_16 : decode cX11_fine 16 = .ok (.istore_n 2, 1) := by decide +kernel
theorem dX11_fine_17 : decode cX11_fine 17 = .ok (.aload_n 0, 1) := by decide +kernel
theorem dX11_fine_18 : decode cX11_fine 18 = .ok (.getfield 48, 3) := by decide +kernel
theorem dX11_fine_21 : decode cX11_fine 21 = .ok (.iconst 0, 1) := by decide +kernel
theorem dX11_fine_22 : decode cX11_fine 22 = .ok (.aload_n 0, 1) := by decide +kernel
theorem dX11_fine_23 : decode cX11_fine 23 = .ok (.invokevirtual 100, 3) := by decide +kernel
theorem dX11_fine_26 : decode cX11_fine 26 = .ok (.iastore, 1) := by decide +kernel
theorem dX11_fine_27 : decode cX11_fine 27 = .ok (.aload_n 0, 1) := by decide +kernel
theorem dX11_fine_28 : decode cX11_fine 28 = .ok (.getfield 48, 3) := by decide +kernel
theorem dX11_fine_31 : decode cX11_fine 31 = .ok (.iconst 1, 1) := by decide +kernel
theorem dX11_fine_32 : decode cX11_fine 32 = .ok (.aload_n 0, 1) := by decide +kernel
theorem dX11_fine_33 : decode cX11_fine 33 = .ok (.iload_n 1, 1) := by decide +kernel
theorem dX11_fine_34 : decode cX11_fine 34 = .ok (.iconst 3, 1) := by decide +kernel
theorem dX11_fine_35 : decode cX11_fine 35 = .ok (.invokevirtual 110, 3) := by decide +kernel
theorem dX11_fine_38 : decode cX11_fine 38 = .ok (.iastore, 1) := by decide +kernel
theorem dX11_fine_39 : decode cX11_fine 39 = .ok (.iload_n 2, 1) := by decide +kernel
theorem dX11_fine_40 : decode cX11_fine 40 = .ok (.ifCond .ge 12, 3) := by decide +kernel
theorem dX11_fine_43 : decode cX11_fine 43 = .ok (.aload_n 0, 1) := by decide +kernel
theorem dX11_fine_44 : decode cX11_fine 44 = .ok (.iload_n 1, 1) := by decide +kernel
theorem dX11_fine_45 : decode cX11_fine 45 = .ok (.iconst 3, 1) := by decide +kernel
theorem dX11_fine_46 : decode cX11_fine 46 = .ok (.invokevirtual 110, 3) := by decide +kernel
theorem dX11_fine_49 : decode cX11_fine 49 = .ok (.goto 8, 3) := by decide +kernel
theorem dX11_fine_52 : decode cX11_fine 52 = .ok (.aload_n 0, 1) := by decide +kernel
theorem dX11_fine_53 : decode cX11_fine 53 = .ok (.iload_n 2, 1) := by decide +kernel
theorem dX11_fine_54 : decode cX11_fine 54 = .ok (.invokevirtual 104, 3) := by decide +kernel
theorem dX11_fine_57 : decode cX11_fine 57 = .ok (.ireturn, 1) := by decide +kernel
theorem dX11_feed_0 : decode cX11_feed 0 = .ok (.aload_n 0, 1) := by decide +kernel
theorem dX11_feed_1 : decode cX11_feed 1 = .ok (.getfield 186, 3) := by decide +kernel
theorem dX11_feed_4 : decode cX11_feed 4 = .ok (.bipush 12, 2) := by decide +kernel
theorem dX11_feed_6 : decode cX11_feed 6 = .ok (.iadd, 1) := by decide +kernel
theorem dX11_feed_7 : decode cX11_feed 7 = .ok (.bipush 96, 2) := by decide +kernel
theorem dX11_feed_9 : decode cX11_feed 9 = .ok (.if_icmp .le 6, 3) := by decide +kernel
theorem dX11_feed_12 : decode cX11_feed 12 = .ok (.ldc 91, 2) := by decide +kernel
theorem dX11_feed_14 : decode cX11_feed 14 = .ok (.ireturn, 1) := by decide +kernel
theorem dX11_feed_15 : decode cX11_feed 15 = .ok (.iconst 0, 1) := by decide +kernel
theorem dX11_feed_16 : decode cX11_feed 16 = .ok (.istore 4, 2) := by decide +kernel
theorem dX11_feed_18 : decode cX11_feed 18 = .ok (.iload 4, 2) := by decide +kernel
theorem dX11_feed_20 : decode cX11_feed 20 = .ok (.bipush 12, 2) := by decide +kernel
theorem dX11_feed_22 : decode cX11_feed 22 = .ok (.if_icmp .ge 62, 3) := by decide +kernel
theorem dX11_feed_25 : decode cX11_feed 25 = .ok (.iload 4, 2) := by decide +kernel
theorem dX11_feed_27 : decode cX11_feed 27 = .ok (.iconst 4, 1) := by decide +kernel
theorem dX11_feed_28 : decode cX11_feed 28 = .ok (.if_icmp .ge 7, 3) := by decide +kernel
theorem dX11_feed_31 : decode cX11_feed 31 = .ok (.iload_n 1, 1) := by decide +kernel
theorem dX11_feed_32 : decode cX11_feed 32 = .ok (.goto 15, 3) := by decide +kernel
theorem dX11_feed_35 : decode cX11_feed 35 = .ok (.iload 4, 2) := by decide +kernel
theorem dX11_feed_37 : decode cX11_feed 37 = .ok (.bipush 8, 2) := by decide +kernel
theorem dX11_feed_39 : decode cX11_feed 39 = .ok (.if_icmp .ge 7, 3) := by decide +kernel
theorem dX11_feed_42 : decode cX11_feed 42 = .ok (.iload_n 2, 1) := by decide +kernel
theorem dX11_feed_43 : decode cX11_feed 43 = .ok (.goto 4, 3) := by decide +kernel
theorem dX11_feed_46 : decode cX11_feed 46 = .ok (.iload_n 3, 1) := by decide +kernel
theorem dX11_feed_47 : decode cX11_feed 47 = .ok (.istore 5, 2) := by decide +kernel
theorem dX11_feed_49 : decode cX11_feed 49 = .ok (.aload_n 0, 1) := by decide +kernel
theorem dX11_feed_50 : decode cX11_feed 50 = .ok (.getfield 25, 3) := by decide +kernel
theorem dX11_feed_53 : decode cX11_feed 53 = .ok (.aload_n 0, 1) := by decide +kernel
theorem dX11_feed_54 : decode cX11_feed 54 = .ok (.getfield 186, 3) := by decide +kernel
theorem dX11_feed_57 : decode cX11_feed 57 = .ok (.iload 4, 2) := by decide +kernel
theorem dX11_feed_59 : decode cX11_feed 59 = .ok (.iadd, 1) := by decide +kernel
theorem dX11_feed_60 : decode cX11_feed 60 = .ok (.iload 5, 2) := by decide +kernel
theorem dX11_feed_62 : decode cX11_feed 62 = .ok (.bipush 24, 2) := by decide +kernel
theorem dX11_feed_64 : decode cX11_feed 64 = .ok (.bipush 8, 2) := by decide +kernel
theorem dX11_feed_66 : decode cX11_feed 66 = .ok (.iload 4, 2) := by decide +kernel
theorem dX11_feed_68 : decode cX11_feed 68 = .ok (.iconst 4, 1) := by decide +kernel
theorem dX11_feed_69 : decode cX11_feed 69 = .ok (.irem, 1) := by decide +kernel
theorem dX11_feed_70 : decode cX11_feed 70 = .ok (.imul, 1) := by decide +kernel
theorem dX11_feed_71 : decode cX11_feed 71 = .ok (.isub, 1) := by decide +kernel
theorem dX11_feed_72 : decode cX11_feed 72 = .ok (.ishr, 1) := by decide +kernel
theorem dX11_feed_73 : decode cX11_feed 73 = .ok (.sipush 255, 3) := by decide +kernel
theorem dX11_feed_76 : decode cX11_feed 76 = .ok (.iand, 1) := by decide +kernel
theorem dX11_feed_77 : decode cX11_feed 77 = .ok (.iastore, 1) := by decide +kernel
theorem dX11_feed_78 : decode cX11_feed 78 = .ok (.iinc 4 1, 3) := by decide +kernel
theorem dX11_feed_81 : decode cX11_feed 81 = .ok (.goto (-63), 3) := by decide +kernel
theorem dX11_feed_84 : decode cX11_feed 84 = .ok (.aload_n 0, 1) := by decide +kernel
theorem dX11_feed_85 : decode cX11_feed 85 = .ok (.dup, 1) := by decide +kernel
theorem dX11_feed_86 : decode cX11_feed 86 = .ok (.getfield 186, 3) := by decide +kernel
theorem dX11_feed_89 : decode cX11_feed 89 = .ok (.bipush 12, 2) := by decide +kernel
theorem dX11_feed_91 : decode cX11_feed 91 = .ok (.iadd, 1) := by decide +kernel
theorem dX11_feed_92 : decode cX11_feed 92 = .ok (.putfield 186, 3) := by decide +kernel
theorem dX11_feed_95 : decode cX11_feed 95 = .ok (.aload_n 0, 1) := by decide +kernel
theorem dX11_feed_96 : decode cX11_feed 96 = .ok (.getfield 186, 3) := by decide +kernel
theorem dX11_feed_99 : decode cX11_feed 99 = .ok (.ireturn, 1) := by decide +kernel
theorem dX11_trim_0 : decode cX11_trim 0 = .ok (.iload_n 1, 1) := by decide +kernel
theorem dX11_trim_1 : decode cX11_trim 1 = .ok (.iconst 0, 1) := by decide +kernel
theorem dX11_trim_2 : decode cX11_trim 2 = .ok (.aload_n 0, 1) := by decide +kernel
theorem dX11_trim_3 : decode cX11_trim 3 = .ok (.getfield 186, 3) := by decide +kernel
theorem dX11_trim_6 : decode cX11_trim 6 = .ok (.invokestatic 78, 3) := by decide +kernel
theorem dX11_trim_9 : decode cX11_trim 9 = .ok (.ifCond .ne 6, 3) := by decide +kernel
theorem dX11_trim_12 : decode cX11_trim 12 = .ok (.ldc 90, 2) := by decide +kernel
theorem dX11_trim_14 : decode cX11_trim 14 = .ok (.ireturn, 1) := by decide +kernel
theorem dX11_trim_15 : decode cX11_trim 15 = .ok (.aload_n 0, 1) := by decide +kernel
theorem dX11_trim_16 : decode cX11_trim 16 = .ok (.iload_n 1, 1) := by decide +kernel
theorem dX11_trim_17 : decode cX11_trim 17 = .ok (.putfield 186, 3) := by decide +kernel
theorem dX11_trim_20 : decode cX11_trim 20 = .ok (.iload_n 1, 1) := by decide +kernel
theorem dX11_trim_21 : decode cX11_trim 21 = .ok (.ireturn, 1) := by decide +kernel
theorem dX11_isLetter_0 : decode cX11_isLetter 0 = .ok (.iload_n 1, 1) := by decide +kernel
theorem dX11_isLetter_1 : decode cX11_isLetter 1 = .ok (.aload_n 0, 1) := by decide +kernel
theorem dX11_isLetter_2 : decode cX11_isLetter 2 = .ok (.getfield 186, 3) := by decide +kernel
theorem dX11_isLetter_5 : decode cX11_isLetter 5 = .ok (.if_icmp .ge 29, 3) := by decide +kernel
theorem dX11_isLetter_8 : decode cX11_isLetter 8 = .ok (.aload_n 0, 1) := by decide +kernel
theorem dX11_isLetter_9 : decode cX11_isLetter 9 = .ok (.getfield 25, 3) := by decide +kernel
theorem dX11_isLetter_12 : decode cX11_isLetter 12 = .ok (.iload_n 1, 1) := by decide +kernel
theorem dX11_isLetter_13 : decode cX11_isLetter 13 = .ok (.iaload, 1) := by decide +kernel
theorem dX11_isLetter_14 : decode cX11_isLetter 14 = .ok (.bipush 97, 2) := by decide +kernel
theorem dX11_isLetter_16 : decode cX11_isLetter 16 = .ok (.if_icmp .lt 18, 3) := by decide +kernel
theorem dX11_isLetter_19 : decode cX11_isLetter 19 = .ok (.aload_n 0, 1) := by decide +kernel
theorem dX11_isLetter_20 : decode cX11_isLetter 20 = .ok (.getfield 25, 3) := by decide +kernel
theorem dX11_isLetter_23 : decode cX11_isLetter 23 = .ok (.iload_n 1, 1) := by decide +kernel
theorem dX11_isLetter_24 : decode cX11_isLetter 24 = .ok (.iaload, 1) := by decide +kernel
theorem dX11_isLetter_25 : decode cX11_isLetter 25 = .ok (.bipush 122, 2) := by decide +kernel
theorem dX11_isLetter_27 : decode cX11_isLetter 27 = .ok (.if_icmp .gt 7, 3) := by decide +kernel
theorem dX11_isLetter_30 : decode cX11_isLetter 30 = .ok (.iconst 1, 1) := by decide +kernel
theorem dX11_isLetter_31 : decode cX11_isLetter 31 = .ok (.goto 4, 3) := by decide +kernel
theorem dX11_isLetter_34 : decode cX11_isLetter 34 = .ok (.iconst 0, 1) := by decide +kernel
theorem dX11_isLetter_35 : decode cX11_isLetter 35 = .ok (.ireturn, 1) := by decide +kernel
theorem dX11_isFigure_0 : decode cX11_isFigure 0 = .ok (.iload_n 1, 1) := by decide +kernel
theorem dX11_isFigure_1 : decode cX11_isFigure 1 = .ok (.aload_n 0, 1) := by decide +kernel
theorem dX11_isFigure_2 : decode cX11_isFigure 2 = .ok (.getfield 186, 3) := by decide +kernel
theorem dX11_isFigure_5 : decode cX11_isFigure 5 = .ok (.if_icmp .ge 29, 3) := by decide +kernel
theorem dX11_isFigure_8 : decode cX11_isFigure 8 = .ok (.aload_n 0, 1) := by decide +kernel
theorem dX11_isFigure_9 : decode cX11_isFigure 9 = .ok (.getfield 25, 3) := by decide +kernel
theorem dX11_isFigure_12 : decode cX11_isFigure 12 = .ok (.iload_n 1, 1) := by decide +kernel
theorem dX11_isFigure_13 : decode cX11_isFigure 13 = .ok (.iaload, 1) := by decide +kernel
theorem dX11_isFigure_14 : decode cX11_isFigure 14 = .ok (.bipush 48, 2) := by decide +kernel
theorem dX11_isFigure_16 : decode cX11_isFigure 16 = .ok (.if_icmp .lt 18, 3) := by decide +kernel
theorem dX11_isFigure_19 : decode cX11_isFigure 19 = .ok (.aload_n 0, 1) := by decide +kernel
theorem dX11_isFigure_20 : decode cX11_isFigure 20 = .ok (.getfield 25, 3) := by decide +kernel
theorem dX11_isFigure_23 : decode cX11_isFigure 23 = .ok (.iload_n 1, 1) := by decide +kernel
theorem dX11_isFigure_24 : decode cX11_isFigure 24 = .ok (.iaload, 1) := by decide +kernel
theorem dX11_isFigure_25 : decode cX11_isFigure 25 = .ok (.bipush 57, 2) := by decide +kernel
theorem dX11_isFigure_27 : decode cX11_isFigure 27 = .ok (.if_icmp .gt 7, 3) := by decide +kernel
theorem dX11_isFigure_30 : decode cX11_isFigure 30 = .ok (.iconst 1, 1) := by decide +kernel
theorem dX11_isFigure_31 : decode cX11_isFigure 31 = .ok (.goto 4, 3) := by decide +kernel
theorem dX11_isFigure_34 : decode cX11_isFigure 34 = .ok (.iconst 0, 1) := by decide +kernel
theorem dX11_isFigure_35 : decode cX11_isFigure 35 = .ok (.ireturn, 1) := by decide +kernel
theorem dX11_go_0 : decode cX11_go 0 = .ok (.aload_n 0, 1) := by decide +kernel
theorem dX11_go_1 : decode cX11_go 1 = .ok (.getfield 190, 3) := by decide +kernel
theorem dX11_go_4 : decode cX11_go 4 = .ok (.aload_n 0, 1) := by decide +kernel
theorem dX11_go_5 : decode cX11_go 5 = .ok (.getfield 186, 3) := by decide +kernel
theorem dX11_go_8 : decode cX11_go 8 = .ok (.if_icmp .ge 30, 3) := by decide +kernel
theorem dX11_go_11 : decode cX11_go 11 = .ok (.aload_n 0, 1) := by decide +kernel
theorem dX11_go_12 : decode cX11_go 12 = .ok (.getfield 25, 3) := by decide +kernel
theorem dX11_go_15 : decode cX11_go 15 = .ok (.aload_n 0, 1) := by decide +kernel
theorem dX11_go_16 : decode cX11_go 16 = .ok (.getfield 190, 3) := by decide +kernel
theorem dX11_go_19 : decode cX11_go 19 = .ok (.iaload, 1) := by decide +kernel
theorem dX11_go_20 : decode cX11_go 20 = .ok (.bipush 32, 2) := by decide +kernel
theorem dX11_go_22 : decode cX11_go 22 = .ok (.if_icmp .ne 16, 3) := by decide +kernel
theorem dX11_go_25 : decode cX11_go 25 = .ok (.aload_n 0, 1) := by decide +kernel
theorem dX11_go_26 : decode cX11_go 26 = .ok (.dup, 1) := by decide +kernel
theorem dX11_go_27 : decode cX11_go 27 = .ok (.getfield 190, 3) := by decide +kernel
theorem dX11_go_30 : decode cX11_go 30 = .ok (.iconst 1, 1) := by decide +kernel
theorem dX11_go_31 : decode cX11_go 31 = .ok (.iadd, 1) := by decide +kernel
theorem dX11_go_32 : decode cX11_go 32 = .ok (.putfield 190, 3) := by decide +kernel
theorem dX11_go_35 : decode cX11_go 35 = .ok (.goto (-35), 3) := by decide +kernel
theorem dX11_go_38 : decode cX11_go 38 = .ok (.aload_n 0, 1) := by decide +kernel
theorem dX11_go_39 : decode cX11_go 39 = .ok (.aload_n 0, 1) := by decide +kernel
theorem dX11_go_40 : decode cX11_go 40 = .ok (.getfield 190, 3) := by decide +kernel
theorem dX11_go_43 : decode cX11_go 43 = .ok (.putfield 193, 3) := by decide +kernel
theorem dX11_go_46 : decode cX11_go 46 = .ok (.aload_n 0, 1) := by decide +kernel
theorem dX11_go_47 : decode cX11_go 47 = .ok (.getfield 193, 3) := by decide +kernel
theorem dX11_go_50 : decode cX11_go 50 = .ok (.aload_n 0, 1) := by decide +kernel
theorem dX11_go_51 : decode cX11_go 51 = .ok (.getfield 196, 3) := by decide +kernel
theorem dX11_go_54 : decode cX11_go 54 = .ok (.if_icmp .ne 7, 3) := by decide +kernel
theorem dX11_go_57 : decode cX11_go 57 = .ok (.iconst 1, 1) := by decide +kernel
theorem dX11_go_58 : decode cX11_go 58 = .ok (.goto 4, 3) := by decide +kernel
theorem dX11_go_61 : decode cX11_go 61 = .ok (.iconst 0, 1) := by decide +kernel
theorem dX11_go_62 : decode cX11_go 62 = .ok (.istore_n 1, 1) := by decide +kernel
theorem dX11_go_63 : decode cX11_go 63 = .ok (.aload_n 0, 1) := by decide +kernel
theorem dX11_go_64 : decode cX11_go 64 = .ok (.getfield 193, 3) := by decide +kernel
theorem dX11_go_67 : decode cX11_go 67 = .ok (.aload_n 0, 1) := by decide +kernel
theorem dX11_go_68 : decode cX11_go 68 = .ok (.getfield 186, 3) := by decide +kernel
theorem dX11_go_71 : decode cX11_go 71 = .ok (.if_icmp .ne 11, 3) := by decide +kernel
theorem dX11_go_74 : decode cX11_go 74 = .ok (.aload_n 0, 1) := by decide +kernel
theorem dX11_go_75 : decode cX11_go 75 = .ok (.iconst 0, 1) := by decide +kernel
theorem dX11_go_76 : decode cX11_go 76 = .ok (.putfield 199, 3) := by decide +kernel
theorem dX11_go_79 : decode cX11_go 79 = .ok (.goto 224, 3) := by decide +kernel
theorem dX11_go_82 : decode cX11_go 82 = .ok (.aload_n 0, 1) := by decide +kernel
theorem dX11_go_83 : decode cX11_go 83 = .ok (.aload_n 0, 1) := by decide +kernel
theorem dX11_go_84 : decode cX11_go 84 = .ok (.getfield 193, 3) := by decide +kernel
theorem dX11_go_87 : decode cX11_go 87 = .ok (.invokevirtual 202, 3) := by decide +kernel
theorem dX11_go_90 : decode cX11_go 90 = .ok (.ifCond .eq 64, 3) := by decide +kernel
theorem dX11_go_93 : decode cX11_go 93 = .ok (.aload_n 0, 1) := by decide +kernel
theorem dX11_go_94 : decode cX11_go 94 = .ok (.aload_n 0, 1) := by decide +kernel
theorem dX11_go_95 : decode cX11_go 95 = .ok (.getfield 190, 3) := by decide +kernel
theorem dX11_go_98 : decode cX11_go 98 = .ok (.invokevirtual 202, 3) := by decide +kernel
theorem dX11_go_101 : decode cX11_go 101 = .ok (.ifCond .eq 16, 3) := by decide +kernel
theorem dX11_go_104 : decode cX11_go 104 = .ok (.aload_n 0, 1) := by decide +kernel
theorem dX11_go_105 : decode cX11_go 105 = .ok (.dup, 1) := by decide +kernel
theorem dX11_go_106 : decode cX11_go 106 = .ok (.getfield 190, 3) := by decide +kernel
theorem dX11_go_109 : decode cX11_go 109 = .ok (.iconst 1, 1) := by decide +kernel
theorem dX11_go_110 : decode cX11_go 110 = .ok (.iadd, 1) := by decide +kernel
theorem dX11_go_111 : decode cX11_go 111 = .ok (.putfield 190, 3) := by decide +kernel
theorem dX11_go_114 : decode cX11_go 114 = .ok (.goto (-21), 3) := by decide +kernel
theorem dX11_go_117 : decode cX11_go 117 = .ok (.aload_n 0, 1) := by decide +kernel
theorem dX11_go_118 : decode cX11_go 118 = .ok (.iload_n 1, 1) := by decide +kernel
theorem dX11_go_119 : decode cX11_go 119 = .ok (.ifCond .eq 7, 3) := by decide +kernel
theorem dX11_go_122 : decode cX11_go 122 = .ok (.iconst 4, 1) := by decide +kernel
theorem dX11_go_123 : decode cX11_go 123 = .ok (.goto 4, 3) := by decide +kernel
theorem dX11_go_126 : decode cX11_go 126 = .ok (.iconst 1, 1) := by decide +kernel
theorem dX11_go_127 : decode cX11_go 127 = .ok (.putfield 199, 3) := by decide +kernel
theorem dX11_go_130 : decode cX11_go 130 = .ok (.aload_n 0, 1) := by decide +kernel
theorem dX11_go_131 : decode cX11_go 131 = .ok (.aload_n 0, 1) := by decide +kernel
theorem dX11_go_132 : decode cX11_go 132 = .ok (.getfield 25, 3) := by decide +kernel
theorem dX11_go_135 : decode cX11_go 135 = .ok (.aload_n 0, 1) := by decide +kernel
theorem dX11_go_136 : decode cX11_go 136 = .ok (.getfield 193, 3) := by decide +kernel
theorem dX11_go_139 : decode cX11_go 139 = .ok (.iaload, 1) := by decide +kernel
theorem dX11_go_140 : decode cX11_go 140 = .ok (.putfield 205, 3) := by decide +kernel
theorem dX11_go_143 : decode cX11_go 143 = .ok (.aload_n 0, 1) := by decide +kernel
theorem dX11_go_144 : decode cX11_go 144 = .ok (.aload_n 0, 1) := by decide +kernel
theorem dX11_go_145 : decode cX11_go 145 = .ok (.getfield 190, 3) := by decide +kernel
theorem dX11_go_148 : decode cX11_go 148 = .ok (.putfield 196, 3) := by decide +kernel
theorem dX11_go_151 : decode cX11_go 151 = .ok (.goto 152, 3) := by decide +kernel
theorem dX11_go_154 : decode cX11_go 154 = .ok (.aload_n 0, 1) := by decide +kernel
theorem dX11_go_155 : decode cX11_go 155 = .ok (.aload_n 0, 1) := by decide +kernel
theorem dX11_go_156 : decode cX11_go 156 = .ok (.getfield 193, 3) := by decide +kernel
theorem dX11_go_159 : decode cX11_go 159 = .ok (.invokevirtual 208, 3) := by decide +kernel
theorem dX11_go_162 : decode cX11_go 162 = .ok (.ifCond .eq 113, 3) := by decide +kernel
theorem dX11_go_165 : decode cX11_go 165 = .ok (.aload_n 0, 1) := by decide +kernel
theorem dX11_go_166 : decode cX11_go 166 = .ok (.iconst 0, 1) := by decide +kernel
theorem dX11_go_167 : decode cX11_go 167 = .ok (.putfield 205, 3) := by decide +kernel
theorem dX11_go_170 : decode cX11_go 170 = .ok (.aload_n 0, 1) := by decide +kernel
theorem dX11_go_171 : decode cX11_go 171 = .ok (.aload_n 0, 1) := by decide +kernel
theorem dX11_go_172 : decode cX11_go 172 = .ok (.getfield 190, 3) := by decide +kernel
theorem dX11_go_175 : decode cX11_go 175 = .ok (.invokevirtual 208, 3) := by decide +kernel
theorem dX11_go_178 : decode cX11_go 178 = .ok (.ifCond .eq 60, 3) := by decide +kernel
theorem dX11_go_181 : decode cX11_go 181 = .ok (.aload_n 0, 1) := by decide +kernel
theorem dX11_go_182 : decode cX11_go 182 = .ok (.aload_n 0, 1) := by decide +kernel
theorem dX11_go_183 : decode cX11_go 183 = .ok (.getfield 190, 3) := by decide +kernel
theorem dX11_go_186 : decode cX11_go 186 = .ok (.aload_n 0, 1) := by decide +kernel
theorem dX11_go_187 : decode cX11_go 187 = .ok (.getfield 193, 3) := by decide +kernel
theorem dX11_go_190 : decode cX11_go 190 = .ok (.isub, 1) := by decide +kernel
theorem dX11_go_191 : decode cX11_go 191 = .ok (.iconst 4, 1) := by decide +kernel
theorem dX11_go_192 : decode cX11_go 192 = .ok (.if_icmp .ge 26, 3) := by decide +kernel
theorem dX11_go_195 : decode cX11_go 195 = .ok (.bipush 10, 2) := by decide +kernel
theorem dX11_go_197 : decode cX11_go 197 = .ok (.aload_n 0, 1) := by decide +kernel
theorem dX11_go_198 : decode cX11_go 198 = .ok (.getfield 205, 3) := by decide +kernel
theorem dX11_go_201 : decode cX11_go 201 = .ok (.imul, 1) := by decide +kernel
theorem dX11_go_202 : decode cX11_go 202 = .ok (.aload_n 0, 1) := by decide +kernel
theorem dX11_go_203 : decode cX11_go 203 = .ok (.getfield 25, 3) := by decide +kernel
theorem dX11_go_206 : decode cX11_go 206 = .ok (.aload_n 0, 1) := by decide +kernel
theorem dX11_go_207 : decode cX11_go 207 = .ok (.getfield 190, 3) := by decide +kernel
theorem dX11_go_210 : decode cX11_go 210 = .ok (.iaload, 1) := by decide +kernel
theorem dX11_go_211 : decode cX11_go 211 = .ok (.iadd, 1) := by decide +kernel
theorem dX11_go_212 : decode cX11_go 212 = .ok (.bipush 48, 2) := by decide +kernel
theorem dX11_go_214 : decode cX11_go 214 = .ok (.isub, 1) := by decide +kernel
theorem dX11_go_215 : decode cX11_go 215 = .ok (.goto 7, 3) := by decide +kernel
theorem dX11_go_218 : decode cX11_go 218 = .ok (.aload_n 0, 1) := by decide +kernel
theorem dX11_go_219 : decode cX11_go 219 = .ok (.getfield 205, 3) := by decide +kernel
theorem dX11_go_222 : decode cX11_go 222 = .ok (.putfield 205, 3) := by decide +kernel
theorem dX11_go_225 : decode cX11_go 225 = .ok (.aload_n 0, 1) := by decide +kernel
theorem dX11_go_226 : decode cX11_go 226 = .ok (.dup, 1) := by decide +kernel
theorem dX11_go_227 : decode cX11_go 227 = .ok (.getfield 190, 3) := by decide +kernel
theorem dX11_go_230 : decode cX11_go 230 = .ok (.iconst 1, 1) := by decide +kernel
theorem dX11_go_231 : decode cX11_go 231 = .ok (.iadd, 1) := by decide +kernel
theorem dX11_go_232 : decode cX11_go 232 = .ok (.putfield 190, 3) := by decide +kernel
theorem dX11_go_235 : decode cX11_go 235 = .ok (.goto (-65), 3) := by decide +kernel
theorem dX11_go_238 : decode cX11_go 238 = .ok (.aload_n 0, 1) := by decide +kernel
theorem dX11_go_239 : decode cX11_go 239 = .ok (.iload_n 1, 1) := by decide +kernel
theorem dX11_go_240 : decode cX11_go 240 = .ok (.ifCond .ne 16, 3) := by decide +kernel
theorem dX11_go_243 : decode cX11_go 243 = .ok (.aload_n 0, 1) := by decide +kernel
theorem dX11_go_244 : decode cX11_go 244 = .ok (.getfield 190, 3) := by decide +kernel
theorem dX11_go_247 : decode cX11_go 247 = .ok (.aload_n 0, 1) := by decide +kernel
theorem dX11_go_248 : decode cX11_go 248 = .ok (.getfield 193, 3) := by decide +kernel
theorem dX11_go_251 : decode cX11_go 251 = .ok (.isub, 1) := by decide +kernel
theorem dX11_go_252 : decode cX11_go 252 = .ok (.iconst 4, 1) := by decide +kernel
theorem dX11_go_253 : decode cX11_go 253 = .ok (.if_icmp .le 7, 3) := by decide +kernel
theorem dX11_go_256 : decode cX11_go 256 = .ok (.iconst 4, 1) := by decide +kernel
theorem dX11_go_257 : decode cX11_go 257 = .ok (.goto 4, 3) := by decide +kernel
theorem dX11_go_260 : decode cX11_go 260 = .ok (.iconst 2, 1) := by decide +kernel
theorem dX11_go_261 : decode cX11_go 261 = .ok (.putfield 199, 3) := by decide +kernel
theorem dX11_go_264 : decode cX11_go 264 = .ok (.aload_n 0, 1) := by decide +kernel
theorem dX11_go_265 : decode cX11_go 265 = .ok (.aload_n 0, 1) := by decide +kernel
theorem dX11_go_266 : decode cX11_go 266 = .ok (.getfield 190, 3) := by decide +kernel
theorem dX11_go_269 : decode cX11_go 269 = .ok (.putfield 196, 3) := by decide +kernel
theorem dX11_go_272 : decode cX11_go 272 = .ok (.goto 31, 3) := by decide +kernel
theorem dX11_go_275 : decode cX11_go 275 = .ok (.aload_n 0, 1) := by decide +kernel
theorem dX11_go_276 : decode cX11_go 276 = .ok (.iconst 3, 1) := by decide +kernel
theorem dX11_go_277 : decode cX11_go 277 = .ok (.putfield 199, 3) := by decide +kernel
theorem dX11_go_280 : decode cX11_go 280 = .ok (.aload_n 0, 1) := by decide +kernel
theorem dX11_go_281 : decode cX11_go 281 = .ok (.aload_n 0, 1) := by decide +kernel
theorem dX11_go_282 : decode cX11_go 282 = .ok (.getfield 25, 3) := by decide +kernel
theorem dX11_go_285 : decode cX11_go 285 = .ok (.aload_n 0, 1) := by decide +kernel
theorem dX11_go_286 : decode cX11_go 286 = .ok (.getfield 193, 3) := by decide +kernel
theorem dX11_go_289 : decode cX11_go 289 = .ok (.iaload, 1) := by decide +kernel
theorem dX11_go_290 : decode cX11_go 290 = .ok (.putfield 205, 3) := by decide +kernel
theorem dX11_go_293 : decode cX11_go 293 = .ok (.aload_n 0, 1) := by decide +kernel
theorem dX11_go_294 : decode cX11_go 294 = .ok (.dup, 1) := by decide +kernel
theorem dX11_go_295 : decode cX11_go 295 = .ok (.getfield 190, 3) := by decide +kernel
theorem dX11_go_298 : decode cX11_go 298 = .ok (.iconst 1, 1) := by decide +kernel
theorem dX11_go_299 : decode cX11_go 299 = .ok (.iadd, 1) := by decide +kernel
theorem dX11_go_300 : decode cX11_go 300 = .ok (.putfield 190, 3) := by decide +kernel
theorem dX11_go_303 : decode cX11_go 303 = .ok (.return_, 1) := by decide +kernel
theorem dX11_takesKey_0 : decode cX11_takesKey 0 = .ok (.aload_n 0, 1) := by decide +kernel
theorem dX11_takesKey_1 : decode cX11_takesKey 1 = .ok (.getfield 199, 3) := by decide +kernel
theorem dX11_takesKey_4 : decode cX11_takesKey 4 = .ok (.iconst 1, 1) := by decide +kernel
theorem dX11_takesKey_5 : decode cX11_takesKey 5 = .ok (.if_icmp .eq 5, 3) := by decide +kernel
theorem dX11_takesKey_8 : decode cX11_takesKey 8 = .ok (.iconst 0, 1) := by decide +kernel
theorem dX11_takesKey_9 : decode cX11_takesKey 9 = .ok (.ireturn, 1) := by decide +kernel
theorem dX11_takesKey_10 : decode cX11_takesKey 10 = .ok (.iconst 0, 1) := by decide +kernel
theorem dX11_takesKey_11 : decode cX11_takesKey 11 = .ok (.istore_n 1, 1) := by decide +kernel
theorem dX11_takesKey_12 : decode cX11_takesKey 12 = .ok (.iload_n 1, 1) := by decide +kernel
theorem dX11_takesKey_13 : decode cX11_takesKey 13 = .ok (.iconst 3, 1) := by decide +kernel
theorem dX11_takesKey_14 : decode cX11_takesKey 14 = .ok (.if_icmp .ge 113, 3) := by decide +kernel
theorem dX11_takesKey_17 : decode cX11_takesKey 17 = .ok (.aload_n 0, 1) := by decide +kernel
theorem dX11_takesKey_18 : decode cX11_takesKey 18 = .ok (.getfield 32, 3) := by decide +kernel
theorem dX11_takesKey_21 : decode cX11_takesKey 21 = .ok (.iload_n 1, 1) := by decide +kernel
theorem dX11_takesKey_22 : decode cX11_takesKey 22 = .ok (.iconst 1, 1) := by decide +kernel
theorem dX11_takesKey_23 : decode cX11_takesKey 23 = .ok (.iadd, 1) := by decide +kernel
theorem dX11_takesKey_24 : decode cX11_takesKey 24 = .ok (.iaload, 1) := by decide +kernel
theorem dX11_takesKey_25 : decode cX11_takesKey 25 = .ok (.aload_n 0, 1) := by decide +kernel
theorem dX11_takesKey_26 : decode cX11_takesKey 26 = .ok (.getfield 32, 3) := by decide +kernel
theorem dX11_takesKey_29 : decode cX11_takesKey 29 = .ok (.iload_n 1, 1) := by decide +kernel
theorem dX11_takesKey_30 : decode cX11_takesKey 30 = .ok (.iaload, 1) := by decide +kernel
theorem dX11_takesKey_31 : decode cX11_takesKey 31 = .ok (.isub, 1) := by decide +kernel
theorem dX11_takesKey_32 : decode cX11_takesKey 32 = .ok (.istore_n 2, 1) := by decide +kernel
theorem dX11_takesKey_33 : decode cX11_takesKey 33 = .ok (.iload_n 2, 1) := by decide +kernel
theorem dX11_takesKey_34 : decode cX11_takesKey 34 = .ok (.aload_n 0, 1) := by decide +kernel
theorem dX11_takesKey_35 : decode cX11_takesKey 35 = .ok (.getfield 190, 3) := by decide +kernel
theorem dX11_takesKey_38 : decode cX11_takesKey 38 = .ok (.aload_n 0, 1) := by decide +kernel
theorem dX11_takesKey_39 : decode cX11_takesKey 39 = .ok (.getfield 193, 3) := by decide +kernel
theorem dX11_takesKey_42 : decode cX11_takesKey 42 = .ok (.isub, 1) := by decide +kernel
theorem dX11_takesKey_43 : decode cX11_takesKey 43 = .ok (.if_icmp .ne 7, 3) := by decide +kernel
theorem dX11_takesKey_46 : decode cX11_takesKey 46 = .ok (.iconst 1, 1) := by decide +kernel
theorem dX11_takesKey_47 : decode cX11_takesKey 47 = .ok (.goto 4, 3) := by decide +kernel
theorem dX11_takesKey_50 : decode cX11_takesKey 50 = .ok (.iconst 0, 1) := by decide +kernel
theorem dX11_takesKey_51 : decode cX11_takesKey 51 = .ok (.istore_n 3, 1) := by decide +kernel
theorem dX11_takesKey_52 : decode cX11_takesKey 52 = .ok (.iconst 0, 1) := by decide +kernel
theorem dX11_takesKey_53 : decode cX11_takesKey 53 = .ok (.istore 4, 2) := by decide +kernel
theorem dX11_takesKey_55 : decode cX11_takesKey 55 = .ok (.iload 4, 2) := by decide +kernel
theorem dX11_takesKey_57 : decode cX11_takesKey 57 = .ok (.iload_n 2, 1) := by decide +kernel
theorem dX11_takesKey_58 : decode cX11_takesKey 58 = .ok (.if_icmp .ge 48, 3) := by decide +kernel
theorem dX11_takesKey_61 : decode cX11_takesKey 61 = .ok (.iload_n 3, 1) := by decide +kernel
theorem dX11_takesKey_62 : decode cX11_takesKey 62 = .ok (.ifCond .eq 44, 3) := by decide +kernel
theorem dX11_takesKey_65 : decode cX11_takesKey 65 = .ok (.aload_n 0, 1) := by decide +kernel
theorem dX11_takesKey_66 : decode cX11_takesKey 66 = .ok (.getfield 25, 3) := by decide +kernel
theorem dX11_takesKey_69 : decode cX11_takesKey 69 = .ok (.aload_n 0, 1) := by decide +kernel
theorem dX11_takesKey_70 : decode cX11_takesKey 70 = .ok (.getfield 193, 3) := by decide +kernel
theorem dX11_takesKey_73 : decode cX11_takesKey 73 = .ok (.iload 4, 2) := by decide +kernel
theorem dX11_takesKey_75 : decode cX11_takesKey 75 = .ok (.iadd, 1) := by decide +kernel
theorem dX11_takesKey_76 : decode cX11_takesKey 76 = .ok (.iaload, 1) := by decide +kernel
theorem dX11_takesKey_77 : decode cX11_takesKey 77 = .ok (.aload_n 0, 1) := by decide +kernel
theorem dX11_takesKey_78 : decode cX11_takesKey 78 = .ok (.getfield 28, 3) := by decide +kernel
theorem dX11_takesKey_81 : decode cX11_takesKey 81 = .ok (.aload_n 0, 1) := by decide +kernel
theorem dX11_takesKey_82 : decode cX11_takesKey 82 = .ok (.getfield 32, 3) := by decide +kernel
theorem dX11_takesKey_85 : decode cX11_takesKey 85 = .ok (.iload_n 1, 1) := by decide +kernel
theorem dX11_takesKey_86 : decode cX11_takesKey 86 = .ok (.iaload, 1) := by decide +kernel
theorem dX11_takesKey_87 : decode cX11_takesKey 87 = .ok (.iload 4, 2) := by decide +kernel
theorem dX11_takesKey_89 : decode cX11_takesKey 89 = .ok (.iadd, 1) := by decide +kernel
theorem dX11_takesKey_90 : decode cX11_takesKey 90 = .ok (.caload, 1) := by decide +kernel
theorem dX11_takesKey_91 : decode cX11_takesKey 91 = .ok (.if_icmp .ne 7, 3) := by decide +kernel
theorem dX11_takesKey_94 : decode cX11_takesKey 94 = .ok (.iconst 1, 1) := by decide +kernel
theorem dX11_takesKey_95 : decode cX11_takesKey 95 = .ok (.goto 4, 3) := by decide +kernel
theorem dX11_takesKey_98 : decode cX11_takesKey 98 = .ok (.iconst 0, 1) := by decide +kernel
theorem dX11_takesKey_99 : decode cX11_takesKey 99 = .ok (.istore_n 3, 1) := by decide +kernel
theorem dX11_takesKey_100 : decode cX11_takesKey 100 = .ok (.iinc 4 1, 3) := by decide +kernel
theorem dX11_takesKey_103 : decode cX11_takesKey 103 = .ok (.goto (-48), 3) := by decide +kernel
theorem dX11_takesKey_106 : decode cX11_takesKey 106 = .ok (.iload_n 3, 1) := by decide +kernel
theorem dX11_takesKey_107 : decode cX11_takesKey 107 = .ok (.ifCond .eq 14, 3) := by decide +kernel
theorem dX11_takesKey_110 : decode cX11_takesKey 110 = .ok (.aload_n 0, 1) := by decide +kernel
theorem dX11_takesKey_111 : decode cX11_takesKey 111 = .ok (.iload_n 1, 1) := by decide +kernel
theorem dX11_takesKey_112 : decode cX11_takesKey 112 = .ok (.putfield 211, 3) := by decide +kernel
theorem dX11_takesKey_115 : decode cX11_takesKey 115 = .ok (.aload_n 0, 1) := by decide +kernel
theorem dX11_takesKey_116 : decode cX11_takesKey 116 = .ok (.invokevirtual 214, 3) := by decide +kernel
theorem dX11_takesKey_119 : decode cX11_takesKey 119 = .ok (.iconst 1, 1) := by decide +kernel
theorem dX11_takesKey_120 : decode cX11_takesKey 120 = .ok (.ireturn, 1) := by decide +kernel
theorem dX11_takesKey_121 : decode cX11_takesKey 121 = .ok (.iinc 1 1, 3) := by decide +kernel
theorem dX11_takesKey_124 : decode cX11_takesKey 124 = .ok (.goto (-112), 3) := by decide +kernel
theorem dX11_takesKey_127 : decode cX11_takesKey 127 = .ok (.iconst 0, 1) := by decide +kernel
theorem dX11_takesKey_128 : decode cX11_takesKey 128 = .ok (.ireturn, 1) := by decide +kernel
theorem dX11_nameOf_0 : decode cX11_nameOf 0 = .ok (.aload_n 0, 1) := by decide +kernel
theorem dX11_nameOf_1 : decode cX11_nameOf 1 = .ok (.getfield 211, 3) := by decide +kernel
theorem dX11_nameOf_4 : decode cX11_nameOf 4 = .ok (.lookupswitch 82 #[(0, 28), (1, 50)], 28) := by decide +kernel
theorem dX11_nameOf_32 : decode cX11_nameOf 32 = .ok (.iload_n 1, 1) := by decide +kernel
theorem dX11_nameOf_33 : decode cX11_nameOf 33 = .ok (.bipush 119, 2) := by decide +kernel
theorem dX11_nameOf_35 : decode cX11_nameOf 35 = .ok (.if_icmp .ne 7, 3) := by decide +kernel
theorem dX11_nameOf_38 : decode cX11_nameOf 38 = .ok (.iconst 0, 1) := by decide +kernel
theorem dX11_nameOf_39 : decode cX11_nameOf 39 = .ok (.goto 14, 3) := by decide +kernel
theorem dX11_nameOf_42 : decode cX11_nameOf 42 = .ok (.iload_n 1, 1) := by decide +kernel
theorem dX11_nameOf_43 : decode cX11_nameOf 43 = .ok (.bipush 108, 2) := by decide +kernel
theorem dX11_nameOf_45 : decode cX11_nameOf 45 = .ok (.if_icmp .ne 7, 3) := by decide +kernel
theorem dX11_nameOf_48 : decode cX11_nameOf 48 = .ok (.iconst 1, 1) := by decide +kernel
theorem dX11_nameOf_49 : decode cX11_nameOf 49 = .ok (.goto 4, 3) := by decide +kernel
theorem dX11_nameOf_52 : decode cX11_nameOf 52 = .ok (.iconst (-1), 1) := by decide +kernel
theorem dX11_nameOf_53 : decode cX11_nameOf 53 = .ok (.ireturn, 1) := by decide +kernel
theorem dX11_nameOf_54 : decode cX11_nameOf 54 = .ok (.iload_n 1, 1) := by decide +kernel
theorem dX11_nameOf_55 : decode cX11_nameOf 55 = .ok (.bipush 115, 2) := by decide +kernel
theorem dX11_nameOf_57 : decode cX11_nameOf 57 = .ok (.if_icmp .ne 7, 3) := by decide +kernel
theorem dX11_nameOf_60 : decode cX11_nameOf 60 = .ok (.iconst 0, 1) := by decide +kernel
theorem dX11_nameOf_61 : decode cX11_nameOf 61 = .ok (.goto 24, 3) := by decide +kernel
theorem dX11_nameOf_64 : decode cX11_nameOf 64 = .ok (.iload_n 1, 1) := by decide +kernel
theorem dX11_nameOf_65 : decode cX11_nameOf 65 = .ok (.bipush 119, 2) := by decide +kernel
theorem dX11_nameOf_67 : decode cX11_nameOf 67 = .ok (.if_icmp .ne 7, 3) := by decide +kernel
theorem dX11_nameOf_70 : decode cX11_nameOf 70 = .ok (.iconst 1, 1) := by decide +kernel
theorem dX11_nameOf_71 : decode cX11_nameOf 71 = .ok (.goto 14, 3) := by decide +kernel
theorem dX11_nameOf_74 : decode cX11_nameOf 74 = .ok (.iload_n 1, 1) := by decide +kernel
theorem dX11_nameOf_75 : decode cX11_nameOf 75 = .ok (.bipush 100, 2) := by decide +kernel
theorem dX11_nameOf_77 : decode cX11_nameOf 77 = .ok (.if_icmp .ne 7, 3) := by decide +kernel
theorem dX11_nameOf_80 : decode cX11_nameOf 80 = .ok (.iconst 2, 1) := by decide +kernel
theorem dX11_nameOf_81 : decode cX11_nameOf 81 = .ok (.goto 4, 3) := by decide +kernel
theorem dX11_nameOf_84 : decode cX11_nameOf 84 = .ok (.iconst (-1), 1) := by decide +kernel
theorem dX11_nameOf_85 : decode cX11_nameOf 85 = .ok (.ireturn, 1) := by decide +kernel
theorem dX11_nameOf_86 : decode cX11_nameOf 86 = .ok (.iload_n 1, 1) := by decide +kernel
theorem dX11_nameOf_87 : decode cX11_nameOf 87 = .ok (.bipush 119, 2) := by decide +kernel
theorem dX11_nameOf_89 : decode cX11_nameOf 89 = .ok (.if_icmp .ne 7, 3) := by decide +kernel
theorem dX11_nameOf_92 : decode cX11_nameOf 92 = .ok (.iconst 0, 1) := by decide +kernel
theorem dX11_nameOf_93 : decode cX11_nameOf 93 = .ok (.goto 14, 3) := by decide +kernel
theorem dX11_nameOf_96 : decode cX11_nameOf 96 = .ok (.iload_n 1, 1) := by decide +kernel
theorem dX11_nameOf_97 : decode cX11_nameOf 97 = .ok (.bipush 98, 2) := by decide +kernel
theorem dX11_nameOf_99 : decode cX11_nameOf 99 = .ok (.if_icmp .ne 7, 3) := by decide +kernel
theorem dX11_nameOf_102 : decode cX11_nameOf 102 = .ok (.iconst 1, 1) := by decide +kernel
theorem dX11_nameOf_103 : decode cX11_nameOf 103 = .ok (.goto 4, 3) := by decide +kernel
theorem dX11_nameOf_106 : decode cX11_nameOf 106 = .ok (.iconst (-1), 1) := by decide +kernel
theorem dX11_nameOf_107 : decode cX11_nameOf 107 = .ok (.ireturn, 1) := by decide +kernel
theorem dX11_rank_0 : decode cX11_rank 0 = .ok (.iload_n 0, 1) := by decide +kernel
theorem dX11_rank_1 : decode cX11_rank 1 = .ok (.iconst (-1), 1) := by decide +kernel
theorem dX11_rank_2 : decode cX11_rank 2 = .ok (.if_icmp .ne 7, 3) := by decide +kernel
theorem dX11_rank_5 : decode cX11_rank 5 = .ok (.iconst 1, 1) := by decide +kernel
theorem dX11_rank_6 : decode cX11_rank 6 = .ok (.goto 45, 3) := by decide +kernel
theorem dX11_rank_9 : decode cX11_rank 9 = .ok (.iload_n 0, 1) := by decide +kernel
theorem dX11_rank_10 : decode cX11_rank 10 = .ok (.bipush (-2), 2) := by decide +kernel
theorem dX11_rank_12 : decode cX11_rank 12 = .ok (.if_icmp .ne 7, 3) := by decide +kernel
theorem dX11_rank_15 : decode cX11_rank 15 = .ok (.iconst 2, 1) := by decide +kernel
theorem dX11_rank_16 : decode cX11_rank 16 = .ok (.goto 35, 3) := by decide +kernel
theorem dX11_rank_19 : decode cX11_rank 19 = .ok (.iload_n 0, 1) := by decide +kernel
theorem dX11_rank_20 : decode cX11_rank 20 = .ok (.bipush (-5), 2) := by decide +kernel
theorem dX11_rank_22 : decode cX11_rank 22 = .ok (.if_icmp .lt 7, 3) := by decide +kernel
theorem dX11_rank_25 : decode cX11_rank 25 = .ok (.iconst 3, 1) := by decide +kernel
theorem dX11_rank_26 : decode cX11_rank 26 = .ok (.goto 25, 3) := by decide +kernel
theorem dX11_rank_29 : decode cX11_rank 29 = .ok (.iload_n 0, 1) := by decide +kernel
theorem dX11_rank_30 : decode cX11_rank 30 = .ok (.bipush (-7), 2) := by decide +kernel
theorem dX11_rank_32 : decode cX11_rank 32 = .ok (.if_icmp .lt 7, 3) := by decide +kernel
theorem dX11_rank_35 : decode cX11_rank 35 = .ok (.iconst 4, 1) := by decide +kernel
theorem dX11_rank_36 : decode cX11_rank 36 = .ok (.goto 15, 3) := by decide +kernel
theorem dX11_rank_39 : decode cX11_rank 39 = .ok (.iload_n 0, 1) := by decide +kernel
theorem dX11_rank_40 : decode cX11_rank 40 = .ok (.bipush (-9), 2) := by decide +kernel
theorem dX11_rank_42 : decode cX11_rank 42 = .ok (.if_icmp .lt 7, 3) := by decide +kernel
theorem dX11_rank_45 : decode cX11_rank 45 = .ok (.iconst 5, 1) := by decide +kernel
theorem dX11_rank_46 : decode cX11_rank 46 = .ok (.goto 5, 3) := by decide +kernel
theorem dX11_rank_49 : decode cX11_rank 49 = .ok (.bipush 6, 2) := by decide +kernel
theorem dX11_rank_51 : decode cX11_rank 51 = .ok (.ireturn, 1) := by decide +kernel
theorem dX11_settle_0 : decode cX11_settle 0 = .ok (.aload_n 0, 1) := by decide +kernel
theorem dX11_settle_1 : decode cX11_settle 1 = .ok (.getfield 217, 3) := by decide +kernel
theorem dX11_settle_4 : decode cX11_settle 4 = .ok (.ifCond .le 78, 3) := by decide +kernel
theorem dX11_settle_7 : decode cX11_settle 7 = .ok (.aload_n 0, 1) := by decide +kernel
theorem dX11_settle_8 : decode cX11_settle 8 = .ok (.getfield 38, 3) := by decide +kernel
theorem dX11_settle_11 : decode cX11_settle 11 = .ok (.aload_n 0, 1) := by decide +kernel
theorem dX11_settle_12 : decode cX11_settle 12 = .ok (.getfield 217, 3) := by decide +kernel
theorem dX11_settle_15 : decode cX11_settle 15 = .ok (.iconst 1, 1) := by decide +kernel
theorem dX11_settle_16 : decode cX11_settle 16 = .ok (.isub, 1) := by decide +kernel
theorem dX11_settle_17 : decode cX11_settle 17 = .ok (.iaload, 1) := by decide +kernel
theorem dX11_settle_18 : decode cX11_settle 18 = .ok (.bipush (-11), 2) := by decide +kernel
theorem dX11_settle_20 : decode cX11_settle 20 = .ok (.if_icmp .eq 62, 3) := by decide +kernel
theorem dX11_settle_23 : decode cX11_settle 23 = .ok (.aload_n 0, 1) := by decide +kernel
theorem dX11_settle_24 : decode cX11_settle 24 = .ok (.getfield 38, 3) := by decide +kernel
theorem dX11_settle_27 : decode cX11_settle 27 = .ok (.aload_n 0, 1) := by decide +kernel
theorem dX11_settle_28 : decode cX11_settle 28 = .ok (.getfield 217, 3) := by decide +kernel
theorem dX11_settle_31 : decode cX11_settle 31 = .ok (.iconst 1, 1) := by decide +kernel
theorem dX11_settle_32 : decode cX11_settle 32 = .ok (.isub, 1) := by decide +kernel
theorem dX11_settle_33 : decode cX11_settle 33 = .ok (.iaload, 1) := by decide +kernel
theorem dX11_settle_34 : decode cX11_settle 34 = .ok (.invokestatic 220, 3) := by decide +kernel
theorem dX11_settle_37 : decode cX11_settle 37 = .ok (.iload_n 1, 1) := by decide +kernel
theorem dX11_settle_38 : decode cX11_settle 38 = .ok (.if_icmp .lt 44, 3) := by decide +kernel
theorem dX11_settle_41 : decode cX11_settle 41 = .ok (.aload_n 0, 1) := by decide +kernel
theorem dX11_settle_42 : decode cX11_settle 42 = .ok (.dup, 1) := by decide +kernel
theorem dX11_settle_43 : decode cX11_settle 43 = .ok (.getfield 217, 3) := by decide +kernel
theorem dX11_settle_46 : decode cX11_settle 46 = .ok (.iconst 1, 1) := by decide +kernel
theorem dX11_settle_47 : decode cX11_settle 47 = .ok (.isub, 1) := by decide +kernel
theorem dX11_settle_48 : decode cX11_settle 48 = .ok (.putfield 217, 3) := by decide +kernel
theorem dX11_settle_51 : decode cX11_settle 51 = .ok (.aload_n 0, 1) := by decide +kernel
theorem dX11_settle_52 : decode cX11_settle 52 = .ok (.getfield 35, 3) := by decide +kernel
theorem dX11_settle_55 : decode cX11_settle 55 = .ok (.aload_n 0, 1) := by decide +kernel
theorem dX11_settle_56 : decode cX11_settle 56 = .ok (.getfield 223, 3) := by decide +kernel
theorem dX11_settle_59 : decode cX11_settle 59 = .ok (.aload_n 0, 1) := by decide +kernel
theorem dX11_settle_60 : decode cX11_settle 60 = .ok (.getfield 38, 3) := by decide +kernel
theorem dX11_settle_63 : decode cX11_settle 63 = .ok (.aload_n 0, 1) := by decide +kernel
theorem dX11_settle_64 : decode cX11_settle 64 = .ok (.getfield 217, 3) := by decide +kernel
theorem dX11_settle_67 : decode cX11_settle 67 = .ok (.iaload, 1) := by decide +kernel
theorem dX11_settle_68 : decode cX11_settle 68 = .ok (.iastore, 1) := by decide +kernel
theorem dX11_settle_69 : decode cX11_settle 69 = .ok (.aload_n 0, 1) := by decide +kernel
theorem dX11_settle_70 : decode cX11_settle 70 = .ok (.dup, 1) := by decide +kernel
theorem dX11_settle_71 : decode cX11_settle 71 = .ok (.getfield 223, 3) := by decide +kernel
theorem dX11_settle_74 : decode cX11_settle 74 = .ok (.iconst 1, 1) := by decide +kernel
theorem dX11_settle_75 : decode cX11_settle 75 = .ok (.iadd, 1) := by decide +kernel
theorem dX11_settle_76 : decode cX11_settle 76 = .ok (.putfield 223, 3) := by decide +kernel
theorem dX11_settle_79 : decode cX11_settle 79 = .ok (.goto (-79), 3) := by decide +kernel
theorem dX11_settle_82 : decode cX11_settle 82 = .ok (.return_, 1) := by decide +kernel
theorem dX11_signHere_0 : decode cX11_signHere 0 = .ok (.aload_n 0, 1) := by decide +kernel
theorem dX11_signHere_1 : decode cX11_signHere 1 = .ok (.getfield 199, 3) := by decide +kernel
theorem dX11_signHere_4 : decode cX11_signHere 4 = .ok (.iconst 3, 1) := by decide +kernel
theorem dX11_signHere_5 : decode cX11_signHere 5 = .ok (.if_icmp .eq 5, 3) := by decide +kernel
theorem dX11_signHere_8 : decode cX11_signHere 8 = .ok (.iconst 0, 1) := by decide +kernel
theorem dX11_signHere_9 : decode cX11_signHere 9 = .ok (.ireturn, 1) := by decide +kernel
theorem dX11_signHere_10 : decode cX11_signHere 10 = .ok (.aload_n 0, 1) := by decide +kernel
theorem dX11_signHere_11 : decode cX11_signHere 11 = .ok (.getfield 205, 3) := by decide +kernel
theorem dX11_signHere_14 : decode cX11_signHere 14 = .ok (.lookupswitch 108 #[(38, 84), (42, 102), (43, 96), (45, 99), (47, 105), (60, 87), (61, 90), (62, 93), (124, 82)], 82) := by decide +kernel
theorem dX11_signHere_96 : decode cX11_signHere 96 = .ok (.iconst (-1), 1) := by decide +kernel
theorem dX11_signHere_97 : decode cX11_signHere 97 = .ok (.ireturn, 1) := by decide +kernel
theorem dX11_signHere_98 : decode cX11_signHere 98 = .ok (.bipush (-2), 2) := by decide +kernel
theorem dX11_signHere_100 : decode cX11_signHere 100 = .ok (.ireturn, 1) := by decide +kernel
theorem dX11_signHere_101 : decode cX11_signHere 101 = .ok (.bipush (-3), 2) := by decide +kernel
theorem dX11_signHere_103 : decode cX11_signHere 103 = .ok (.ireturn, 1) := by decide +kernel
theorem dX11_signHere_104 : decode cX11_signHere 104 = .ok (.bipush (-4), 2) := by decide +kernel
theorem dX11_signHere_106 : decode cX11_signHere 106 = .ok (.ireturn, 1) := by decide +kernel
theorem dX11_signHere_107 : decode cX11_signHere 107 = .ok (.bipush (-5), 2) := by decide +kernel
theorem dX11_signHere_109 : decode cX11_signHere 109 = .ok (.ireturn, 1) := by decide +kernel
theorem dX11_signHere_110 : decode cX11_signHere 110 = .ok (.bipush (-6), 2) := by decide +kernel
theorem dX11_signHere_112 : decode cX11_signHere 112 = .ok (.ireturn, 1) := by decide +kernel
theorem dX11_signHere_113 : decode cX11_signHere 113 = .ok (.bipush (-7), 2) := by decide +kernel
theorem dX11_signHere_115 : decode cX11_signHere 115 = .ok (.ireturn, 1) := by decide +kernel
theorem dX11_signHere_116 : decode cX11_signHere 116 = .ok (.bipush (-8), 2) := by decide +kernel
theorem dX11_signHere_118 : decode cX11_signHere 118 = .ok (.ireturn, 1) := by decide +kernel
theorem dX11_signHere_119 : decode cX11_signHere 119 = .ok (.bipush (-9), 2) := by decide +kernel
theorem dX11_signHere_121 : decode cX11_signHere 121 = .ok (.ireturn, 1) := by decide +kernel
theorem dX11_signHere_122 : decode cX11_signHere 122 = .ok (.iconst 0, 1) := by decide +kernel
theorem dX11_signHere_123 : decode cX11_signHere 123 = .ok (.ireturn, 1) := by decide +kernel
theorem dX11_takesPart_0 : decode cX11_takesPart 0 = .ok (.aload_n 0, 1) := by decide +kernel
theorem dX11_takesPart_1 : decode cX11_takesPart 1 = .ok (.getfield 199, 3) := by decide +kernel
theorem dX11_takesPart_4 : decode cX11_takesPart 4 = .ok (.iconst 1, 1) := by decide +kernel
theorem dX11_takesPart_5 : decode cX11_takesPart 5 = .ok (.if_icmp .ne 31, 3) := by decide +kernel
theorem dX11_takesPart_8 : decode cX11_takesPart 8 = .ok (.aload_n 0, 1) := by decide +kernel
theorem dX11_takesPart_9 : decode cX11_takesPart 9 = .ok (.getfield 190, 3) := by decide +kernel
theorem dX11_takesPart_12 : decode cX11_takesPart 12 = .ok (.aload_n 0, 1) := by decide +kernel
theorem dX11_takesPart_13 : decode cX11_takesPart 13 = .ok (.getfield 193, 3) := by decide +kernel
theorem dX11_takesPart_16 : decode cX11_takesPart 16 = .ok (.isub, 1) := by decide +kernel
theorem dX11_takesPart_17 : decode cX11_takesPart 17 = .ok (.iconst 1, 1) := by decide +kernel
theorem dX11_takesPart_18 : decode cX11_takesPart 18 = .ok (.if_icmp .ne 18, 3) := by decide +kernel
theorem dX11_takesPart_21 : decode cX11_takesPart 21 = .ok (.aload_n 0, 1) := by decide +kernel
theorem dX11_takesPart_22 : decode cX11_takesPart 22 = .ok (.aload_n 0, 1) := by decide +kernel
theorem dX11_takesPart_23 : decode cX11_takesPart 23 = .ok (.getfield 205, 3) := by decide +kernel
theorem dX11_takesPart_26 : decode cX11_takesPart 26 = .ok (.invokevirtual 226, 3) := by decide +kernel
theorem dX11_takesPart_29 : decode cX11_takesPart 29 = .ok (.ifCond .lt 7, 3) := by decide +kernel
theorem dX11_takesPart_32 : decode cX11_takesPart 32 = .ok (.iconst 1, 1) := by decide +kernel
theorem dX11_takesPart_33 : decode cX11_takesPart 33 = .ok (.goto 4, 3) := by decide +kernel
theorem dX11_takesPart_36 : decode cX11_takesPart 36 = .ok (.iconst 0, 1) := by decide +kernel
theorem dX11_takesPart_37 : decode cX11_takesPart 37 = .ok (.istore_n 1, 1) := by decide +kernel
theorem dX11_takesPart_38 : decode cX11_takesPart 38 = .ok (.aload_n 0, 1) := by decide +kernel
theorem dX11_takesPart_39 : decode cX11_takesPart 39 = .ok (.getfield 199, 3) := by decide +kernel
theorem dX11_takesPart_42 : decode cX11_takesPart 42 = .ok (.iconst 2, 1) := by decide +kernel
theorem dX11_takesPart_43 : decode cX11_takesPart 43 = .ok (.if_icmp .eq 9, 3) := by decide +kernel
theorem dX11_takesPart_46 : decode cX11_takesPart 46 = .ok (.iload_n 1, 1) := by decide +kernel
theorem dX11_takesPart_47 : decode cX11_takesPart 47 = .ok (.ifCond .ne 5, 3) := by decide +kernel
theorem dX11_takesPart_50 : decode cX11_takesPart 50 = .ok (.iconst 0, 1) := by decide +kernel
theorem dX11_takesPart_51 : decode cX11_takesPart 51 = .ok (.ireturn, 1) := by decide +kernel
theorem dX11_takesPart_52 : decode cX11_takesPart 52 = .ok (.aload_n 0, 1) := by decide +kernel
theorem dX11_takesPart_53 : decode cX11_takesPart 53 = .ok (.getfield 35, 3) := by decide +kernel
theorem dX11_takesPart_56 : decode cX11_takesPart 56 = .ok (.aload_n 0, 1) := by decide +kernel
theorem dX11_takesPart_57 : decode cX11_takesPart 57 = .ok (.getfield 223, 3) := by decide +kernel
theorem dX11_takesPart_60 : decode cX11_takesPart 60 = .ok (.aload_n 0, 1) := by decide +kernel
theorem dX11_takesPart_61 : decode cX11_takesPart 61 = .ok (.getfield 199, 3) := by decide +kernel
theorem dX11_takesPart_64 : decode cX11_takesPart 64 = .ok (.iconst 2, 1) := by decide +kernel
theorem dX11_takesPart_65 : decode cX11_takesPart 65 = .ok (.if_icmp .ne 10, 3) := by decide +kernel
theorem dX11_takesPart_68 : decode cX11_takesPart 68 = .ok (.aload_n 0, 1) := by decide +kernel
theorem dX11_takesPart_69 : decode cX11_takesPart 69 = .ok (.getfield 205, 3) := by decide +kernel
theorem dX11_takesPart_72 : decode cX11_takesPart 72 = .ok (.goto 15, 3) := by decide +kernel
theorem dX11_takesPart_75 : decode cX11_takesPart 75 = .ok (.sipush 10000, 3) := by decide +kernel
theorem dX11_takesPart_78 : decode cX11_takesPart 78 = .ok (.aload_n 0, 1) := by decide +kernel
theorem dX11_takesPart_79 : decode cX11_takesPart 79 = .ok (.aload_n 0, 1) := by decide +kernel
theorem dX11_takesPart_80 : decode cX11_takesPart 80 = .ok (.getfield 205, 3) := by decide +kernel
theorem dX11_takesPart_83 : decode cX11_takesPart 83 = .ok (.invokevirtual 226, 3) := by decide +kernel
theorem dX11_takesPart_86 : decode cX11_takesPart 86 = .ok (.iadd, 1) := by decide +kernel
theorem dX11_takesPart_87 : decode cX11_takesPart 87 = .ok (.iastore, 1) := by decide +kernel
theorem dX11_takesPart_88 : decode cX11_takesPart 88 = .ok (.aload_n 0, 1) := by decide +kernel
theorem dX11_takesPart_89 : decode cX11_takesPart 89 = .ok (.dup, 1) := by decide +kernel
theorem dX11_takesPart_90 : decode cX11_takesPart 90 = .ok (.getfield 223, 3) := by decide +kernel
theorem dX11_takesPart_93 : decode cX11_takesPart 93 = .ok (.iconst 1, 1) := by decide +kernel
theorem dX11_takesPart_94 : decode cX11_takesPart 94 = .ok (.iadd, 1) := by decide +kernel
theorem dX11_takesPart_95 : decode cX11_takesPart 95 = .ok (.putfield 223, 3) := by decide +kernel
theorem dX11_takesPart_98 : decode cX11_takesPart 98 = .ok (.aload_n 0, 1) := by decide +kernel
theorem dX11_takesPart_99 : decode cX11_takesPart 99 = .ok (.dup, 1) := by decide +kernel
theorem dX11_takesPart_100 : decode cX11_takesPart 100 = .ok (.getfield 229, 3) := by decide +kernel
theorem dX11_takesPart_103 : decode cX11_takesPart 103 = .ok (.iconst 1, 1) := by decide +kernel
theorem dX11_takesPart_104 : decode cX11_takesPart 104 = .ok (.iadd, 1) := by decide +kernel
theorem dX11_takesPart_105 : decode cX11_takesPart 105 = .ok (.putfield 229, 3) := by decide +kernel
theorem dX11_takesPart_108 : decode cX11_takesPart 108 = .ok (.aload_n 0, 1) := by decide +kernel
theorem dX11_takesPart_109 : decode cX11_takesPart 109 = .ok (.bipush 6, 2) := by decide +kernel
theorem dX11_takesPart_111 : decode cX11_takesPart 111 = .ok (.invokevirtual 232, 3) := by decide +kernel
theorem dX11_takesPart_114 : decode cX11_takesPart 114 = .ok (.aload_n 0, 1) := by decide +kernel
theorem dX11_takesPart_115 : decode cX11_takesPart 115 = .ok (.invokevirtual 214, 3) := by decide +kernel
theorem dX11_takesPart_118 : decode cX11_takesPart 118 = .ok (.iconst 1, 1) := by decide +kernel
theorem dX11_takesPart_119 : decode cX11_takesPart 119 = .ok (.ireturn, 1) := by decide +kernel
theorem dX11_takesE_0 : decode cX11_takesE 0 = .ok (.iconst 0, 1) := by decide +kernel
theorem dX11_takesE_1 : decode cX11_takesE 1 = .ok (.istore_n 1, 1) := by decide +kernel
theorem dX11_takesE_2 : decode cX11_takesE 2 = .ok (.iconst 0, 1) := by decide +kernel
theorem dX11_takesE_3 : decode cX11_takesE 3 = .ok (.istore_n 2, 1) := by decide +kernel
theorem dX11_takesE_4 : decode cX11_takesE 4 = .ok (.iconst 1, 1) := by decide +kernel
theorem dX11_takesE_5 : decode cX11_takesE 5 = .ok (.istore_n 3, 1) := by decide +kernel
theorem dX11_takesE_6 : decode cX11_takesE 6 = .ok (.aload_n 0, 1) := by decide +kernel
theorem dX11_takesE_7 : decode cX11_takesE 7 = .ok (.iconst 0, 1) := by decide +kernel
theorem dX11_takesE_8 : decode cX11_takesE 8 = .ok (.putfield 223, 3) := by decide +kernel
theorem dX11_takesE_11 : decode cX11_takesE 11 = .ok (.aload_n 0, 1) := by decide +kernel
theorem dX11_takesE_12 : decode cX11_takesE 12 = .ok (.iconst 0, 1) := by decide +kernel
theorem dX11_takesE_13 : decode cX11_takesE 13 = .ok (.putfield 229, 3) := by decide +kernel
theorem dX11_takesE_16 : decode cX11_takesE 16 = .ok (.aload_n 0, 1) := by decide +kernel
theorem dX11_takesE_17 : decode cX11_takesE 17 = .ok (.iconst 0, 1) := by decide +kernel
theorem dX11_takesE_18 : decode cX11_takesE 18 = .ok (.putfield 217, 3) := by decide +kernel
theorem dX11_takesE_21 : decode cX11_takesE 21 = .ok (.aload_n 0, 1) := by decide +kernel
theorem dX11_takesE_22 : decode cX11_takesE 22 = .ok (.getfield 41, 3) := by decide +kernel
theorem dX11_takesE_25 : decode cX11_takesE 25 = .ok (.iconst 0, 1) := by decide +kernel
theorem dX11_takesE_26 : decode cX11_takesE 26 = .ok (.iconst 0, 1) := by decide +kernel
theorem dX11_takesE_27 : decode cX11_takesE 27 = .ok (.bastore, 1) := by decide +kernel
theorem dX11_takesE_28 : decode cX11_takesE 28 = .ok (.iload_n 3, 1) := by decide +kernel
theorem dX11_takesE_29 : decode cX11_takesE 29 = .ok (.ifCond .ne 10, 3) := by decide +kernel
theorem dX11_takesE_32 : decode cX11_takesE 32 = .ok (.aload_n 0, 1) := by decide +kernel
theorem dX11_takesE_33 : decode cX11_takesE 33 = .ok (.getfield 199, 3) := by decide +kernel
theorem dX11_takesE_36 : decode cX11_takesE 36 = .ok (.ifCond .eq 309, 3) := by decide +kernel
theorem dX11_takesE_39 : decode cX11_takesE 39 = .ok (.iload_n 3, 1) := by decide +kernel
theorem dX11_takesE_40 : decode cX11_takesE 40 = .ok (.ifCond .eq 140, 3) := by decide +kernel
theorem dX11_takesE_43 : decode cX11_takesE 43 = .ok (.aload_n 0, 1) := by decide +kernel
theorem dX11_takesE_44 : decode cX11_takesE 44 = .ok (.getfield 199, 3) := by decide +kernel
theorem dX11_takesE_47 : decode cX11_takesE 47 = .ok (.iconst 3, 1) := by decide +kernel
theorem dX11_takesE_48 : decode cX11_takesE 48 = .ok (.if_icmp .ne 49, 3) := by decide +kernel
theorem dX11_takesE_51 : decode cX11_takesE 51 = .ok (.aload_n 0, 1) := by decide +kernel
theorem dX11_takesE_52 : decode cX11_takesE 52 = .ok (.getfield 205, 3) := by decide +kernel
theorem dX11_takesE_55 : decode cX11_takesE 55 = .ok (.bipush 33, 2) := by decide +kernel
theorem dX11_takesE_57 : decode cX11_takesE 57 = .ok (.if_icmp .ne 40, 3) := by decide +kernel
theorem dX11_takesE_60 : decode cX11_takesE 60 = .ok (.iload_n 2, 1) := by decide +kernel
theorem dX11_takesE_61 : decode cX11_takesE 61 = .ok (.bipush 8, 2) := by decide +kernel
theorem dX11_takesE_63 : decode cX11_takesE 63 = .ok (.if_icmp .ge 34, 3) := by decide +kernel
theorem dX11_takesE_66 : decode cX11_takesE 66 = .ok (.aload_n 0, 1) := by decide +kernel
theorem dX11_takesE_67 : decode cX11_takesE 67 = .ok (.getfield 38, 3) := by decide +kernel
theorem dX11_takesE_70 : decode cX11_takesE 70 = .ok (.aload_n 0, 1) := by decide +kernel
theorem dX11_takesE_71 : decode cX11_takesE 71 = .ok (.getfield 217, 3) := by decide +kernel
theorem dX11_takesE_74 : decode cX11_takesE 74 = .ok (.bipush (-10), 2) := by decide +kernel
theorem dX11_takesE_76 : decode cX11_takesE 76 = .ok (.iastore, 1) := by decide +kernel
theorem dX11_takesE_77 : decode cX11_takesE 77 = .ok (.aload_n 0, 1) := by decide +kernel
theorem dX11_takesE_78 : decode cX11_takesE 78 = .ok (.dup, 1) := by decide +kernel
theorem dX11_takesE_79 : decode cX11_takesE 79 = .ok (.getfield 217, 3) := by decide +kernel
theorem dX11_takesE_82 : decode cX11_takesE 82 = .ok (.iconst 1, 1) := by decide +kernel
theorem dX11_takesE_83 : decode cX11_takesE 83 = .ok (.iadd, 1) := by decide +kernel
theorem dX11_takesE_84 : decode cX11_takesE 84 = .ok (.putfield 217, 3) := by decide +kernel
theorem dX11_takesE_87 : decode cX11_takesE 87 = .ok (.iinc 2 1, 3) := by decide +kernel
theorem dX11_takesE_90 : decode cX11_takesE 90 = .ok (.aload_n 0, 1) := by decide +kernel
theorem dX11_takesE_91 : decode cX11_takesE 91 = .ok (.invokevirtual 214, 3) := by decide +kernel
theorem dX11_takesE_94 : decode cX11_takesE 94 = .ok (.goto 78, 3) := by decide +kernel
theorem dX11_takesE_97 : decode cX11_takesE 97 = .ok (.aload_n 0, 1) := by decide +kernel
theorem dX11_takesE_98 : decode cX11_takesE 98 = .ok (.getfield 199, 3) := by decide +kernel
theorem dX11_takesE_101 : decode cX11_takesE 101 = .ok (.iconst 3, 1) := by decide +kernel
theorem dX11_takesE_102 : decode cX11_takesE 102 = .ok (.if_icmp .ne 56, 3) := by decide +kernel
theorem dX11_takesE_105 : decode cX11_takesE 105 = .ok (.aload_n 0, 1) := by decide +kernel
theorem dX11_takesE_106 : decode cX11_takesE 106 = .ok (.getfield 205, 3) := by decide +kernel
theorem dX11_takesE_109 : decode cX11_takesE 109 = .ok (.bipush 40, 2) := by decide +kernel
theorem dX11_takesE_111 : decode cX11_takesE 111 = .ok (.if_icmp .ne 47, 3) := by decide +kernel
theorem dX11_takesE_114 : decode cX11_takesE 114 = .ok (.iload_n 1, 1) := by decide +kernel
theorem dX11_takesE_115 : decode cX11_takesE 115 = .ok (.bipush 8, 2) := by decide +kernel
theorem dX11_takesE_117 : decode cX11_takesE 117 = .ok (.if_icmp .ge 41, 3) := by decide +kernel
theorem dX11_takesE_120 : decode cX11_takesE 120 = .ok (.aload_n 0, 1) := by decide +kernel
theorem dX11_takesE_121 : decode cX11_takesE 121 = .ok (.getfield 38, 3) := by decide +kernel
theorem dX11_takesE_124 : decode cX11_takesE 124 = .ok (.aload_n 0, 1) := by decide +kernel
theorem dX11_takesE_125 : decode cX11_takesE 125 = .ok (.getfield 217, 3) := by decide +kernel
theorem dX11_takesE_128 : decode cX11_takesE 128 = .ok (.bipush (-11), 2) := by decide +kernel
theorem dX11_takesE_130 : decode cX11_takesE 130 = .ok (.iastore, 1) := by decide +kernel
theorem dX11_takesE_131 : decode cX11_takesE 131 = .ok (.aload_n 0, 1) := by decide +kernel
theorem dX11_takesE_132 : decode cX11_takesE 132 = .ok (.dup, 1) := by decide +kernel
theorem dX11_takesE_133 : decode cX11_takesE 133 = .ok (.getfield 217, 3) := by decide +kernel
theorem dX11_takesE_136 : decode cX11_takesE 136 = .ok (.iconst 1, 1) := by decide +kernel
theorem dX11_takesE_137 : decode cX11_takesE 137 = .ok (.iadd, 1) := by decide +kernel
theorem dX11_takesE_138 : decode cX11_takesE 138 = .ok (.putfield 217, 3) := by decide +kernel
theorem dX11_takesE_141 : decode cX11_takesE 141 = .ok (.iinc 1 1, 3) := by decide +kernel
theorem dX11_takesE_144 : decode cX11_takesE 144 = .ok (.aload_n 0, 1) := by decide +kernel
theorem dX11_takesE_145 : decode cX11_takesE 145 = .ok (.getfield 41, 3) := by decide +kernel
theorem dX11_takesE_148 : decode cX11_takesE 148 = .ok (.iload_n 1, 1) := by decide +kernel
theorem dX11_takesE_149 : decode cX11_takesE 149 = .ok (.iconst 0, 1) := by decide +kernel
theorem dX11_takesE_150 : decode cX11_takesE 150 = .ok (.bastore, 1) := by decide +kernel
theorem dX11_takesE_151 : decode cX11_takesE 151 = .ok (.aload_n 0, 1) := by decide +kernel
theorem dX11_takesE_152 : decode cX11_takesE 152 = .ok (.invokevirtual 214, 3) := by decide +kernel
theorem dX11_takesE_155 : decode cX11_takesE 155 = .ok (.goto 17, 3) := by decide +kernel
theorem dX11_takesE_158 : decode cX11_takesE 158 = .ok (.aload_n 0, 1) := by decide +kernel
theorem dX11_takesE_159 : decode cX11_takesE 159 = .ok (.invokevirtual 235, 3) := by decide +kernel
theorem dX11_takesE_162 : decode cX11_takesE 162 = .ok (.ifCond .eq 8, 3) := by decide +kernel
theorem dX11_takesE_165 : decode cX11_takesE 165 = .ok (.iconst 0, 1) := by decide +kernel
theorem dX11_takesE_166 : decode cX11_takesE 166 = .ok (.istore_n 3, 1) := by decide +kernel
theorem dX11_takesE_167 : decode cX11_takesE 167 = .ok (.goto 5, 3) := by decide +kernel
theorem dX11_takesE_170 : decode cX11_takesE 170 = .ok (.iconst 0, 1) := by decide +kernel
theorem dX11_takesE_171 : decode cX11_takesE 171 = .ok (.ireturn, 1) := by decide +kernel
theorem dX11_takesE_172 : decode cX11_takesE 172 = .ok (.aload_n 0, 1) := by decide +kernel
theorem dX11_takesE_173 : decode cX11_takesE 173 = .ok (.invokevirtual 239, 3) := by decide +kernel
theorem dX11_takesE_176 : decode cX11_takesE 176 = .ok (.istore_n 2, 1) := by decide +kernel
theorem dX11_takesE_177 : decode cX11_takesE 177 = .ok (.goto (-149), 3) := by decide +kernel
theorem dX11_takesE_180 : decode cX11_takesE 180 = .ok (.aload_n 0, 1) := by decide +kernel
theorem dX11_takesE_181 : decode cX11_takesE 181 = .ok (.getfield 199, 3) := by decide +kernel
theorem dX11_takesE_184 : decode cX11_takesE 184 = .ok (.iconst 3, 1) := by decide +kernel
theorem dX11_takesE_185 : decode cX11_takesE 185 = .ok (.if_icmp .ne 52, 3) := by decide +kernel
theorem dX11_takesE_188 : decode cX11_takesE 188 = .ok (.aload_n 0, 1) := by decide +kernel
theorem dX11_takesE_189 : decode cX11_takesE 189 = .ok (.getfield 205, 3) := by decide +kernel
theorem dX11_takesE_192 : decode cX11_takesE 192 = .ok (.bipush 41, 2) := by decide +kernel
theorem dX11_takesE_194 : decode cX11_takesE 194 = .ok (.if_icmp .ne 43, 3) := by decide +kernel
theorem dX11_takesE_197 : decode cX11_takesE 197 = .ok (.iload_n 1, 1) := by decide +kernel
theorem dX11_takesE_198 : decode cX11_takesE 198 = .ok (.ifCond .le 39, 3) := by decide +kernel
theorem dX11_takesE_201 : decode cX11_takesE 201 = .ok (.aload_n 0, 1) := by decide +kernel
theorem dX11_takesE_202 : decode cX11_takesE 202 = .ok (.iconst 0, 1) := by decide +kernel
theorem dX11_takesE_203 : decode cX11_takesE 203 = .ok (.invokevirtual 232, 3) := by decide +kernel
theorem dX11_takesE_206 : decode cX11_takesE 206 = .ok (.aload_n 0, 1) := by decide +kernel
theorem dX11_takesE_207 : decode cX11_takesE 207 = .ok (.dup, 1) := by decide +kernel
theorem dX11_takesE_208 : decode cX11_takesE 208 = .ok (.getfield 217, 3) := by decide +kernel
theorem dX11_takesE_211 : decode cX11_takesE 211 = .ok (.iconst 1, 1) := by decide +kernel
theorem dX11_takesE_212 : decode cX11_takesE 212 = .ok (.isub, 1) := by decide +kernel
theorem dX11_takesE_213 : decode cX11_takesE 213 = .ok (.putfield 217, 3) := by decide +kernel
theorem dX11_takesE_216 : decode cX11_takesE 216 = .ok (.iinc 1 (-1), 3) := by decide +kernel
theorem dX11_takesE_219 : decode cX11_takesE 219 = .ok (.aload_n 0, 1) := by decide +kernel
theorem dX11_takesE_220 : decode cX11_takesE 220 = .ok (.bipush 6, 2) := by decide +kernel
theorem dX11_takesE_222 : decode cX11_takesE 222 = .ok (.invokevirtual 232, 3) := by decide +kernel
theorem dX11_takesE_225 : decode cX11_takesE 225 = .ok (.aload_n 0, 1) := by decide +kernel
theorem dX11_takesE_226 : decode cX11_takesE 226 = .ok (.invokevirtual 239, 3) := by decide +kernel
theorem dX11_takesE_229 : decode cX11_takesE 229 = .ok (.istore_n 2, 1) := by decide +kernel
theorem dX11_takesE_230 : decode cX11_takesE 230 = .ok (.aload_n 0, 1) := by decide +kernel
theorem dX11_takesE_231 : decode cX11_takesE 231 = .ok (.invokevirtual 214, 3) := by decide +kernel
theorem dX11_takesE_234 : decode cX11_takesE 234 = .ok (.goto (-206), 3) := by decide +kernel
theorem dX11_takesE_237 : decode cX11_takesE 237 = .ok (.aload_n 0, 1) := by decide +kernel
theorem dX11_takesE_238 : decode cX11_takesE 238 = .ok (.invokevirtual 242, 3) := by decide +kernel
theorem dX11_takesE_241 : decode cX11_takesE 241 = .ok (.istore 4, 2) := by decide +kernel
theorem dX11_takesE_243 : decode cX11_takesE 243 = .ok (.iload 4, 2) := by decide +kernel
theorem dX11_takesE_245 : decode cX11_takesE 245 = .ok (.ifCond .eq 21, 3) := by decide +kernel
theorem dX11_takesE_248 : decode cX11_takesE 248 = .ok (.iload 4, 2) := by decide +kernel
theorem dX11_takesE_250 : decode cX11_takesE 250 = .ok (.invokestatic 220, 3) := by decide +kernel
theorem dX11_takesE_253 : decode cX11_takesE 253 = .ok (.iconst 3, 1) := by decide +kernel
theorem dX11_takesE_254 : decode cX11_takesE 254 = .ok (.if_icmp .ne 14, 3) := by decide +kernel
theorem dX11_takesE_257 : decode cX11_takesE 257 = .ok (.aload_n 0, 1) := by decide +kernel
theorem dX11_takesE_258 : decode cX11_takesE 258 = .ok (.getfield 41, 3) := by decide +kernel
theorem dX11_takesE_261 : decode cX11_takesE 261 = .ok (.iload_n 1, 1) := by decide +kernel
theorem dX11_takesE_262 : decode cX11_takesE 262 = .ok (.baload, 1) := by decide +kernel
theorem dX11_takesE_263 : decode cX11_takesE 263 = .ok (.ifCond .eq 5, 3) := by decide +kernel
theorem dX11_takesE_266 : decode cX11_takesE 266 = .ok (.iconst 0, 1) := by decide +kernel
theorem dX11_takesE_267 : decode cX11_takesE 267 = .ok (.ireturn, 1) := by decide +kernel
theorem dX11_takesE_268 : decode cX11_takesE 268 = .ok (.aload_n 0, 1) := by decide +kernel
theorem dX11_takesE_269 : decode cX11_takesE 269 = .ok (.getfield 41, 3) := by decide +kernel
theorem dX11_takesE_272 : decode cX11_takesE 272 = .ok (.iload_n 1, 1) := by decide +kernel
theorem dX11_takesE_273 : decode cX11_takesE 273 = .ok (.iload 4, 2) := by decide +kernel
theorem dX11_takesE_275 : decode cX11_takesE 275 = .ok (.invokestatic 220, 3) := by decide +kernel
theorem dX11_takesE_278 : decode cX11_takesE 278 = .ok (.iconst 3, 1) := by decide +kernel
theorem dX11_takesE_279 : decode cX11_takesE 279 = .ok (.if_icmp .eq 21, 3) := by decide +kernel
theorem dX11_takesE_282 : decode cX11_takesE 282 = .ok (.iload 4, 2) := by decide +kernel
theorem dX11_takesE_284 : decode cX11_takesE 284 = .ok (.invokestatic 220, 3) := by decide +kernel
theorem dX11_takesE_287 : decode cX11_takesE 287 = .ok (.iconst 3, 1) := by decide +kernel
theorem dX11_takesE_288 : decode cX11_takesE 288 = .ok (.if_icmp .le 16, 3) := by decide +kernel
theorem dX11_takesE_291 : decode cX11_takesE 291 = .ok (.aload_n 0, 1) := by decide +kernel
theorem dX11_takesE_292 : decode cX11_takesE 292 = .ok (.getfield 41, 3) := by decide +kernel
theorem dX11_takesE_295 : decode cX11_takesE 295 = .ok (.iload_n 1, 1) := by decide +kernel
theorem dX11_takesE_296 : decode cX11_takesE 296 = .ok (.baload, 1) := by decide +kernel
theorem dX11_takesE_297 : decode cX11_takesE 297 = .ok (.ifCond .eq 7, 3) := by decide +kernel
theorem dX11_takesE_300 : decode cX11_takesE 300 = .ok (.iconst 1, 1) := by decide +kernel
theorem dX11_takesE_301 : decode cX11_takesE 301 = .ok (.goto 4, 3) := by decide +kernel
theorem dX11_takesE_304 : decode cX11_takesE 304 = .ok (.iconst 0, 1) := by decide +kernel
theorem dX11_takesE_305 : decode cX11_takesE 305 = .ok (.bastore, 1) := by decide +kernel
theorem dX11_takesE_306 : decode cX11_takesE 306 = .ok (.aload_n 0, 1) := by decide +kernel
theorem dX11_takesE_307 : decode cX11_takesE 307 = .ok (.iload 4, 2) := by decide +kernel
theorem dX11_takesE_309 : decode cX11_takesE 309 = .ok (.invokestatic 220, 3) := by decide +kernel
theorem dX11_takesE_312 : decode cX11_takesE 312 = .ok (.invokevirtual 232, 3) := by decide +kernel
theorem dX11_takesE_315 : decode cX11_takesE 315 = .ok (.aload_n 0, 1) := by decide +kernel
theorem dX11_takesE_316 : decode cX11_takesE 316 = .ok (.getfield 38, 3) := by decide +kernel
theorem dX11_takesE_319 : decode cX11_takesE 319 = .ok (.aload_n 0, 1) := by decide +kernel
theorem dX11_takesE_320 : decode cX11_takesE 320 = .ok (.getfield 217, 3) := by decide +kernel
theorem dX11_takesE_323 : decode cX11_takesE 323 = .ok (.iload 4, 2) := by decide +kernel
theorem dX11_takesE_325 : decode cX11_takesE 325 = .ok (.iastore, 1) := by decide +kernel
theorem dX11_takesE_326 : decode cX11_takesE 326 = .ok (.aload_n 0, 1) := by decide +kernel
theorem dX11_takesE_327 : decode cX11_takesE 327 = .ok (.dup, 1) := by decide +kernel
theorem dX11_takesE_328 : decode cX11_takesE 328 = .ok (.getfield 217, 3) := by decide +kernel
theorem dX11_takesE_331 : decode cX11_takesE 331 = .ok (.iconst 1, 1) := by decide +kernel
theorem dX11_takesE_332 : decode cX11_takesE 332 = .ok (.iadd, 1) := by decide +kernel
theorem dX11_takesE_333 : decode cX11_takesE 333 = .ok (.putfield 217, 3) := by decide +kernel
theorem dX11_takesE_336 : decode cX11_takesE 336 = .ok (.iconst 1, 1) := by decide +kernel
theorem dX11_takesE_337 : decode cX11_takesE 337 = .ok (.istore_n 3, 1) := by decide +kernel
theorem dX11_takesE_338 : decode cX11_takesE 338 = .ok (.aload_n 0, 1) := by decide +kernel
theorem dX11_takesE_339 : decode cX11_takesE 339 = .ok (.invokevirtual 214, 3) := by decide +kernel
theorem dX11_takesE_342 : decode cX11_takesE 342 = .ok (.goto (-314), 3) := by decide +kernel
theorem dX11_takesE_345 : decode cX11_takesE 345 = .ok (.aload_n 0, 1) := by decide +kernel
theorem dX11_takesE_346 : decode cX11_takesE 346 = .ok (.iconst 0, 1) := by decide +kernel
theorem dX11_takesE_347 : decode cX11_takesE 347 = .ok (.invokevirtual 232, 3) := by decide +kernel
theorem dX11_takesE_350 : decode cX11_takesE 350 = .ok (.iload_n 1, 1) := by decide +kernel
theorem dX11_takesE_351 : decode cX11_takesE 351 = .ok (.ifCond .ne 7, 3) := by decide +kernel
theorem dX11_takesE_354 : decode cX11_takesE 354 = .ok (.iconst 1, 1) := by decide +kernel
theorem dX11_takesE_355 : decode cX11_takesE 355 = .ok (.goto 4, 3) := by decide +kernel
theorem dX11_takesE_358 : decode cX11_takesE 358 = .ok (.iconst 0, 1) := by decide +kernel
theorem dX11_takesE_359 : decode cX11_takesE 359 = .ok (.ireturn, 1) := by decide +kernel
theorem dX11_notsOpen_0 : decode cX11_notsOpen 0 = .ok (.iconst 0, 1) := by decide +kernel
theorem dX11_notsOpen_1 : decode cX11_notsOpen 1 = .ok (.istore_n 1, 1) := by decide +kernel
theorem dX11_notsOpen_2 : decode cX11_notsOpen 2 = .ok (.iconst 0, 1) := by decide +kernel
theorem dX11_notsOpen_3 : decode cX11_notsOpen 3 = .ok (.istore_n 2, 1) := by decide +kernel
theorem dX11_notsOpen_4 : decode cX11_notsOpen 4 = .ok (.iload_n 2, 1) := by decide +kernel
theorem dX11_notsOpen_5 : decode cX11_notsOpen 5 = .ok (.aload_n 0, 1) := by decide +kernel
theorem dX11_notsOpen_6 : decode cX11_notsOpen 6 = .ok (.getfield 217, 3) := by decide +kernel
theorem dX11_notsOpen_9 : decode cX11_notsOpen 9 = .ok (.if_icmp .ge 28, 3) := by decide +kernel
theorem dX11_notsOpen_12 : decode cX11_notsOpen 12 = .ok (.iload_n 1, 1) := by decide +kernel
theorem dX11_notsOpen_13 : decode cX11_notsOpen 13 = .ok (.aload_n 0, 1) := by decide +kernel
theorem dX11_notsOpen_14 : decode cX11_notsOpen 14 = .ok (.getfield 38, 3) := by decide +kernel
theorem dX11_notsOpen_17 : decode cX11_notsOpen 17 = .ok (.iload_n 2, 1) := by decide +kernel
theorem dX11_notsOpen_18 : decode cX11_notsOpen 18 = .ok (.iaload, 1) := by decide +kernel
theorem dX11_notsOpen_19 : decode cX11_notsOpen 19 = .ok (.bipush (-10), 2) := by decide +kernel
theorem dX11_notsOpen_21 : decode cX11_notsOpen 21 = .ok (.if_icmp .ne 7, 3) := by decide +kernel
theorem dX11_notsOpen_24 : decode cX11_notsOpen 24 = .ok (.iconst 1, 1) := by decide +kernel
theorem dX11_notsOpen_25 : decode cX11_notsOpen 25 = .ok (.goto 4, 3) := by decide +kernel
theorem dX11_notsOpen_28 : decode cX11_notsOpen 28 = .ok (.iconst 0, 1) := by decide +kernel
theorem dX11_notsOpen_29 : decode cX11_notsOpen 29 = .ok (.iadd, 1) := by decide +kernel
theorem dX11_notsOpen_30 : decode cX11_notsOpen 30 = .ok (.istore_n 1, 1) := by decide +kernel
theorem dX11_notsOpen_31 : decode cX11_notsOpen 31 = .ok (.iinc 2 1, 3) := by decide +kernel
theorem dX11_notsOpen_34 : decode cX11_notsOpen 34 = .ok (.goto (-30), 3) := by decide +kernel
theorem dX11_notsOpen_37 : decode cX11_notsOpen 37 = .ok (.iload_n 1, 1) := by decide +kernel
theorem dX11_notsOpen_38 : decode cX11_notsOpen 38 = .ok (.ireturn, 1) := by decide +kernel
theorem dX11_text_0 : decode cX11_text 0 = .ok (.aload_n 0, 1) := by decide +kernel
theorem dX11_text_1 : decode cX11_text 1 = .ok (.iconst 0, 1) := by decide +kernel
theorem dX11_text_2 : decode cX11_text 2 = .ok (.putfield 190, 3) := by decide +kernel
theorem dX11_text_5 : decode cX11_text 5 = .ok (.aload_n 0, 1) := by decide +kernel
theorem dX11_text_6 : decode cX11_text 6 = .ok (.iconst (-1), 1) := by decide +kernel
theorem dX11_text_7 : decode cX11_text 7 = .ok (.putfield 196, 3) := by decide +kernel
theorem dX11_text_10 : decode cX11_text 10 = .ok (.aload_n 0, 1) := by decide +kernel
theorem dX11_text_11 : decode cX11_text 11 = .ok (.invokevirtual 214, 3) := by decide +kernel
theorem dX11_text_14 : decode cX11_text 14 = .ok (.aload_n 0, 1) := by decide +kernel
theorem dX11_text_15 : decode cX11_text 15 = .ok (.invokevirtual 245, 3) := by decide +kernel
theorem dX11_text_18 : decode cX11_text 18 = .ok (.ifCond .eq 14, 3) := by decide +kernel
theorem dX11_text_21 : decode cX11_text 21 = .ok (.aload_n 0, 1) := by decide +kernel
theorem dX11_text_22 : decode cX11_text 22 = .ok (.invokevirtual 248, 3) := by decide +kernel
theorem dX11_text_25 : decode cX11_text 25 = .ok (.ifCond .eq 7, 3) := by decide +kernel
theorem dX11_text_28 : decode cX11_text 28 = .ok (.iconst 1, 1) := by decide +kernel
theorem dX11_text_29 : decode cX11_text 29 = .ok (.goto 4, 3) := by decide +kernel
theorem dX11_text_32 : decode cX11_text 32 = .ok (.iconst 0, 1) := by decide +kernel
theorem dX11_text_33 : decode cX11_text 33 = .ok (.istore_n 1, 1) := by decide +kernel
theorem dX11_text_34 : decode cX11_text 34 = .ok (.aload_n 0, 1) := by decide +kernel
theorem dX11_text_35 : decode cX11_text 35 = .ok (.iconst 0, 1) := by decide +kernel
theorem dX11_text_36 : decode cX11_text 36 = .ok (.putfield 186, 3) := by decide +kernel
theorem dX11_text_39 : decode cX11_text 39 = .ok (.iload_n 1, 1) := by decide +kernel
theorem dX11_text_40 : decode cX11_text 40 = .ok (.ifCond .ne 11, 3) := by decide +kernel
theorem dX11_text_43 : decode cX11_text 43 = .ok (.bipush (-100), 2) := by decide +kernel
theorem dX11_text_45 : decode cX11_text 45 = .ok (.aload_n 0, 1) := by decide +kernel
theorem dX11_text_46 : decode cX11_text 46 = .ok (.getfield 193, 3) := by decide +kernel
theorem dX11_text_49 : decode cX11_text 49 = .ok (.isub, 1) := by decide +kernel
theorem dX11_text_50 : decode cX11_text 50 = .ok (.ireturn, 1) := by decide +kernel
theorem dX11_text_51 : decode cX11_text 51 = .ok (.aload_n 0, 1) := by decide +kernel
theorem dX11_text_52 : decode cX11_text 52 = .ok (.getfield 9, 3) := by decide +kernel
theorem dX11_text_55 : decode cX11_text 55 = .ok (.bipush 9, 2) := by decide +kernel
theorem dX11_text_57 : decode cX11_text 57 = .ok (.iaload, 1) := by decide +kernel
theorem dX11_text_58 : decode cX11_text 58 = .ok (.bipush 14, 2) := by decide +kernel
theorem dX11_text_60 : decode cX11_text 60 = .ok (.if_icmp .ne 6, 3) := by decide +kernel
theorem dX11_text_63 : decode cX11_text 63 = .ok (.ldc 91, 2) := by decide +kernel
theorem dX11_text_65 : decode cX11_text 65 = .ok (.ireturn, 1) := by decide +kernel
theorem dX11_text_66 : decode cX11_text 66 = .ok (.aload_n 0, 1) := by decide +kernel
theorem dX11_text_67 : decode cX11_text 67 = .ok (.getfield 9, 3) := by decide +kernel
theorem dX11_text_70 : decode cX11_text 70 = .ok (.bipush 9, 2) := by decide +kernel
theorem dX11_text_72 : decode cX11_text 72 = .ok (.iaload, 1) := by decide +kernel
theorem dX11_text_73 : decode cX11_text 73 = .ok (.istore_n 2, 1) := by decide +kernel
theorem dX11_text_74 : decode cX11_text 74 = .ok (.aload_n 0, 1) := by decide +kernel
theorem dX11_text_75 : decode cX11_text 75 = .ok (.getfield 9, 3) := by decide +kernel
theorem dX11_text_78 : decode cX11_text 78 = .ok (.bipush 116, 2) := by decide +kernel
theorem dX11_text_80 : decode cX11_text 80 = .ok (.iconst 2, 1) := by decide +kernel
theorem dX11_text_81 : decode cX11_text 81 = .ok (.iload_n 2, 1) := by decide +kernel
theorem dX11_text_82 : decode cX11_text 82 = .ok (.imul, 1) := by decide +kernel
theorem dX11_text_83 : decode cX11_text 83 = .ok (.iadd, 1) := by decide +kernel
theorem dX11_text_84 : decode cX11_text 84 = .ok (.sipush 1000, 3) := by decide +kernel
theorem dX11_text_87 : decode cX11_text 87 = .ok (.aload_n 0, 1) := by decide +kernel
theorem dX11_text_88 : decode cX11_text 88 = .ok (.getfield 211, 3) := by decide +kernel
theorem dX11_text_91 : decode cX11_text 91 = .ok (.imul, 1) := by decide +kernel
theorem dX11_text_92 : decode cX11_text 92 = .ok (.aload_n 0, 1) := by decide +kernel
theorem dX11_text_93 : decode cX11_text 93 = .ok (.getfield 223, 3) := by decide +kernel
theorem dX11_text_96 : decode cX11_text 96 = .ok (.iadd, 1) := by decide +kernel
theorem dX11_text_97 : decode cX11_text 97 = .ok (.iastore, 1) := by decide +kernel
theorem dX11_text_98 : decode cX11_text 98 = .ok (.aload_n 0, 1) := by decide +kernel
theorem dX11_text_99 : decode cX11_text 99 = .ok (.getfield 9, 3) := by decide +kernel
theorem dX11_text_102 : decode cX11_text 102 = .ok (.bipush 116, 2) := by decide +kernel
theorem dX11_text_104 : decode cX11_text 104 = .ok (.iconst 2, 1) := by decide +kernel
theorem dX11_text_105 : decode cX11_text 105 = .ok (.iload_n 2, 1) := by decide +kernel
theorem dX11_text_106 : decode cX11_text 106 = .ok (.imul, 1) := by decide +kernel
theorem dX11_text_107 : decode cX11_text 107 = .ok (.iadd, 1) := by decide +kernel
theorem dX11_text_108 : decode cX11_text 108 = .ok (.iconst 1, 1) := by decide +kernel
theorem dX11_text_109 : decode cX11_text 109 = .ok (.iadd, 1) := by decide +kernel
theorem dX11_text_110 : decode cX11_text 110 = .ok (.aload_n 0, 1) := by decide +kernel
theorem dX11_text_111 : decode cX11_text 111 = .ok (.getfield 229, 3) := by decide +kernel
theorem dX11_text_114 : decode cX11_text 114 = .ok (.iastore, 1) := by decide +kernel
theorem dX11_text_115 : decode cX11_text 115 = .ok (.iconst 0, 1) := by decide +kernel
theorem dX11_text_116 : decode cX11_text 116 = .ok (.istore_n 3, 1) := by decide +kernel
theorem dX11_text_117 : decode cX11_text 117 = .ok (.iload_n 3, 1) := by decide +kernel
theorem dX11_text_118 : decode cX11_text 118 = .ok (.aload_n 0, 1) := by decide +kernel
theorem dX11_text_119 : decode cX11_text 119 = .ok (.getfield 223, 3) := by decide +kernel
theorem dX11_text_122 : decode cX11_text 122 = .ok (.if_icmp .ge 30, 3) := by decide +kernel
theorem dX11_text_125 : decode cX11_text 125 = .ok (.aload_n 0, 1) := by decide +kernel
theorem dX11_text_126 : decode cX11_text 126 = .ok (.getfield 9, 3) := by decide +kernel
theorem dX11_text_129 : decode cX11_text 129 = .ok (.sipush 144, 3) := by decide +kernel
theorem dX11_text_132 : decode cX11_text 132 = .ok (.bipush 96, 2) := by decide +kernel
theorem dX11_text_134 : decode cX11_text 134 = .ok (.iload_n 2, 1) := by decide +kernel
theorem dX11_text_135 : decode cX11_text 135 = .ok (.imul, 1) := by decide +kernel
theorem dX11_text_136 : decode cX11_text 136 = .ok (.iadd, 1) := by decide +kernel
theorem dX11_text_137 : decode cX11_text 137 = .ok (.iload_n 3, 1) := by decide +kernel
theorem dX11_text_138 : decode cX11_text 138 = .ok (.iadd, 1) := by decide +kernel
theorem dX11_text_139 : decode cX11_text 139 = .ok (.aload_n 0, 1) := by decide +kernel
theorem dX11_text_140 : decode cX11_text 140 = .ok (.getfield 35, 3) := by decide +kernel
theorem dX11_text_143 : decode cX11_text 143 = .ok (.iload_n 3, 1) := by decide +kernel
theorem dX11_text_144 : decode cX11_text 144 = .ok (.iaload, 1) := by decide +kernel
theorem dX11_text_145 : decode cX11_text 145 = .ok (.iastore, 1) := by decide +kernel
theorem dX11_text_146 : decode cX11_text 146 = .ok (.iinc 3 1, 3) := by decide +kernel
theorem dX11_text_149 : decode cX11_text 149 = .ok (.goto (-32), 3) := by decide +kernel
theorem dX11_text_152 : decode cX11_text 152 = .ok (.aload_n 0, 1) := by decide +kernel
theorem dX11_text_153 : decode cX11_text 153 = .ok (.getfield 9, 3) := by decide +kernel
theorem dX11_text_156 : decode cX11_text 156 = .ok (.bipush 9, 2) := by decide +kernel
theorem dX11_text_158 : decode cX11_text 158 = .ok (.dup2, 1) := by decide +kernel
theorem dX11_text_159 : decode cX11_text 159 = .ok (.iaload, 1) := by decide +kernel
theorem dX11_text_160 : decode cX11_text 160 = .ok (.iconst 1, 1) := by decide +kernel
theorem dX11_text_161 : decode cX11_text 161 = .ok (.iadd, 1) := by decide +kernel
theorem dX11_text_162 : decode cX11_text 162 = .ok (.iastore, 1) := by decide +kernel
theorem dX11_text_163 : decode cX11_text 163 = .ok (.iload_n 2, 1) := by decide +kernel
theorem dX11_text_164 : decode cX11_text 164 = .ok (.ireturn, 1) := by decide +kernel
theorem dX11_textTold_0 : decode cX11_textTold 0 = .ok (.iload_n 1, 1) := by decide +kernel
theorem dX11_textTold_1 : decode cX11_textTold 1 = .ok (.iconst 0, 1) := by decide +kernel
theorem dX11_textTold_2 : decode cX11_textTold 2 = .ok (.aload_n 0, 1) := by decide +kernel
theorem dX11_textTold_3 : decode cX11_textTold 3 = .ok (.getfield 9, 3) := by decide +kernel
theorem dX11_textTold_6 : decode cX11_textTold 6 = .ok (.bipush 9, 2) := by decide +kernel
theorem dX11_textTold_8 : decode cX11_textTold 8 = .ok (.iaload, 1) := by decide +kernel
theorem dX11_textTold_9 : decode cX11_textTold 9 = .ok (.iconst 1, 1) := by decide +kernel
theorem dX11_textTold_10 : decode cX11_textTold 10 = .ok (.isub, 1) := by decide +kernel
theorem dX11_textTold_11 : decode cX11_textTold 11 = .ok (.invokestatic 78, 3) := by decide +kernel
theorem dX11_textTold_14 : decode cX11_textTold 14 = .ok (.ifCond .eq 12, 3) := by decide +kernel
theorem dX11_textTold_17 : decode cX11_textTold 17 = .ok (.iload_n 2, 1) := by decide +kernel
theorem dX11_textTold_18 : decode cX11_textTold 18 = .ok (.iconst 0, 1) := by decide +kernel
theorem dX11_textTold_19 : decode cX11_textTold 19 = .ok (.iconst 1, 1) := by decide +kernel
theorem dX11_textTold_20 : decode cX11_textTold 20 = .ok (.invokestatic 78, 3) := by decide +kernel
theorem dX11_textTold_23 : decode cX11_textTold 23 = .ok (.ifCond .ne 6, 3) := by decide +kernel
theorem dX11_textTold_26 : decode cX11_textTold 26 = .ok (.ldc 90, 2) := by decide +kernel
theorem dX11_textTold_28 : decode cX11_textTold 28 = .ok (.ireturn, 1) := by decide +kernel
theorem dX11_textTold_29 : decode cX11_textTold 29 = .ok (.iload_n 2, 1) := by decide +kernel
theorem dX11_textTold_30 : decode cX11_textTold 30 = .ok (.ifCond .ne 21, 3) := by decide +kernel
theorem dX11_textTold_33 : decode cX11_textTold 33 = .ok (.aload_n 0, 1) := by decide +kernel
theorem dX11_textTold_34 : decode cX11_textTold 34 = .ok (.getfield 9, 3) := by decide +kernel
theorem dX11_textTold_37 : decode cX11_textTold 37 = .ok (.bipush 116, 2) := by decide +kernel
theorem dX11_textTold_39 : decode cX11_textTold 39 = .ok (.iconst 2, 1) := by decide +kernel
theorem dX11_textTold_40 : decode cX11_textTold 40 = .ok (.iload_n 1, 1) := by decide +kernel
theorem dX11_textTold_41 : decode cX11_textTold 41 = .ok (.imul, 1) := by decide +kernel
theorem dX11_textTold_42 : decode cX11_textTold 42 = .ok (.iadd, 1) := by decide +kernel
theorem dX11_textTold_43 : decode cX11_textTold 43 = .ok (.iaload, 1) := by decide +kernel
theorem dX11_textTold_44 : decode cX11_textTold 44 = .ok (.sipush 1000, 3) := by decide +kernel
theorem dX11_textTold_47 : decode cX11_textTold 47 = .ok (.idiv, 1) := by decide +kernel
theorem dX11_textTold_48 : decode cX11_textTold 48 = .ok (.goto 16, 3) := by decide +kernel
theorem dX11_textTold_51 : decode cX11_textTold 51 = .ok (.aload_n 0, 1) := by decide +kernel
theorem dX11_textTold_52 : decode cX11_textTold 52 = .ok (.getfield 9, 3) := by decide +kernel
theorem dX11_textTold_55 : decode cX11_textTold 55 = .ok (.bipush 116, 2) := by decide +kernel
theorem dX11_textTold_57 : decode cX11_textTold 57 = .ok (.iconst 2, 1) := by decide +kernel
theorem dX11_textTold_58 : decode cX11_textTold 58 = .ok (.iload_n 1, 1) := by decide +kernel
theorem dX11_textTold_59 : decode cX11_textTold 59 = .ok (.imul, 1) := by decide +kernel
theorem dX11_textTold_60 : decode cX11_textTold 60 = .ok (.iadd, 1) := by decide +kernel
theorem dX11_textTold_61 : decode cX11_textTold 61 = .ok (.iconst 1, 1) := by decide +kernel
theorem dX11_textTold_62 : decode cX11_textTold 62 = .ok (.iadd, 1) := by decide +kernel
theorem dX11_textTold_63 : decode cX11_textTold 63 = .ok (.iaload, 1) := by decide +kernel
theorem dX11_textTold_64 : decode cX11_textTold 64 = .ok (.ireturn, 1) := by decide +kernel
theorem dX11_counts_0 : decode cX11_counts 0 = .ok (.aload_n 0, 1) := by decide +kernel
theorem dX11_counts_1 : decode cX11_counts 1 = .ok (.getfield 9, 3) := by decide +kernel
theorem dX11_counts_4 : decode cX11_counts 4 = .ok (.bipush 9, 2) := by decide +kernel
theorem dX11_counts_6 : decode cX11_counts 6 = .ok (.iaload, 1) := by decide +kernel
theorem dX11_counts_7 : decode cX11_counts 7 = .ok (.iconst 1, 1) := by decide +kernel
theorem dX11_counts_8 : decode cX11_counts 8 = .ok (.isub, 1) := by decide +kernel
theorem dX11_counts_9 : decode cX11_counts 9 = .ok (.istore_n 2, 1) := by decide +kernel
theorem dX11_counts_10 : decode cX11_counts 10 = .ok (.iload_n 2, 1) := by decide +kernel
theorem dX11_counts_11 : decode cX11_counts 11 = .ok (.ifCond .lt 30, 3) := by decide +kernel
theorem dX11_counts_14 : decode cX11_counts 14 = .ok (.aload_n 0, 1) := by decide +kernel
theorem dX11_counts_15 : decode cX11_counts 15 = .ok (.getfield 9, 3) := by decide +kernel
theorem dX11_counts_18 : decode cX11_counts 18 = .ok (.bipush 116, 2) := by decide +kernel
theorem dX11_counts_20 : decode cX11_counts 20 = .ok (.iconst 2, 1) := by decide +kernel
theorem dX11_counts_21 : decode cX11_counts 21 = .ok (.iload_n 2, 1) := by decide +kernel
theorem dX11_counts_22 : decode cX11_counts 22 = .ok (.imul, 1) := by decide +kernel
theorem dX11_counts_23 : decode cX11_counts 23 = .ok (.iadd, 1) := by decide +kernel
theorem dX11_counts_24 : decode cX11_counts 24 = .ok (.iaload, 1) := by decide +kernel
theorem dX11_counts_25 : decode cX11_counts 25 = .ok (.sipush 1000, 3) := by decide +kernel
theorem dX11_counts_28 : decode cX11_counts 28 = .ok (.idiv, 1) := by decide +kernel
theorem dX11_counts_29 : decode cX11_counts 29 = .ok (.iload_n 1, 1) := by decide +kernel
theorem dX11_counts_30 : decode cX11_counts 30 = .ok (.if_icmp .ne 5, 3) := by decide +kernel
theorem dX11_counts_33 : decode cX11_counts 33 = .ok (.iload_n 2, 1) := by decide +kernel
theorem dX11_counts_34 : decode cX11_counts 34 = .ok (.ireturn, 1) := by decide +kernel
theorem dX11_counts_35 : decode cX11_counts 35 = .ok (.iinc 2 (-1), 3) := by decide +kernel
theorem dX11_counts_38 : decode cX11_counts 38 = .ok (.goto (-28), 3) := by decide +kernel
theorem dX11_counts_41 : decode cX11_counts 41 = .ok (.iconst (-1), 1) := by decide +kernel
theorem dX11_counts_42 : decode cX11_counts 42 = .ok (.ireturn, 1) := by decide +kernel
theorem dX11_why_0 : decode cX11_why 0 = .ok (.iload_n 1, 1) := by decide +kernel
theorem dX11_why_1 : decode cX11_why 1 = .ok (.iconst 0, 1) := by decide +kernel
theorem dX11_why_2 : decode cX11_why 2 = .ok (.iconst 2, 1) := by decide +kernel
theorem dX11_why_3 : decode cX11_why 3 = .ok (.invokestatic 78, 3) := by decide +kernel
theorem dX11_why_6 : decode cX11_why 6 = .ok (.ifCond .ne 6, 3) := by decide +kernel
theorem dX11_why_9 : decode cX11_why 9 = .ok (.ldc 90, 2) := by decide +kernel
theorem dX11_why_11 : decode cX11_why 11 = .ok (.ireturn, 1) := by decide +kernel
theorem dX11_why_12 : decode cX11_why 12 = .ok (.aload_n 0, 1) := by decide +kernel
theorem dX11_why_13 : decode cX11_why 13 = .ok (.iload_n 1, 1) := by decide +kernel
theorem dX11_why_14 : decode cX11_why 14 = .ok (.invokevirtual 96, 3) := by decide +kernel
theorem dX11_why_17 : decode cX11_why 17 = .ok (.istore_n 2, 1) := by decide +kernel
theorem dX11_why_18 : decode cX11_why 18 = .ok (.iload_n 2, 1) := by decide +kernel
theorem dX11_why_19 : decode cX11_why 19 = .ok (.ifCond .ge 8, 3) := by decide +kernel
theorem dX11_why_22 : decode cX11_why 22 = .ok (.ldc 152, 2) := by decide +kernel
theorem dX11_why_24 : decode cX11_why 24 = .ok (.goto 4, 3) := by decide +kernel
theorem dX11_why_27 : decode cX11_why 27 = .ok (.iload_n 2, 1) := by decide +kernel
theorem dX11_why_28 : decode cX11_why 28 = .ok (.ireturn, 1) := by decide +kernel
theorem dX11_two_0 : decode cX11_two 0 = .ok (.iload_n 0, 1) := by decide +kernel
theorem dX11_two_1 : decode cX11_two 1 = .ok (.tableswitch 120 (-8) (-1) #[116, 112, 108, 97, 86, 75, 61, 47], 47) := by decide +kernel
theorem dX11_two_48 : decode cX11_two 48 = .ok (.iload_n 1, 1) := by decide +kernel
theorem dX11_two_49 : decode cX11_two 49 = .ok (.ifCond .ne 7, 3) := by decide +kernel
theorem dX11_two_52 : decode cX11_two 52 = .ok (.iload_n 2, 1) := by decide +kernel
theorem dX11_two_53 : decode cX11_two 53 = .ok (.ifCond .eq 7, 3) := by decide +kernel
theorem dX11_two_56 : decode cX11_two 56 = .ok (.iconst 1, 1) := by decide +kernel
theorem dX11_two_57 : decode cX11_two 57 = .ok (.goto 4, 3) := by decide +kernel
theorem dX11_two_60 : decode cX11_two 60 = .ok (.iconst 0, 1) := by decide +kernel
theorem dX11_two_61 : decode cX11_two 61 = .ok (.ireturn, 1) := by decide +kernel
theorem dX11_two_62 : decode cX11_two 62 = .ok (.iload_n 1, 1) := by decide +kernel
theorem dX11_two_63 : decode cX11_two 63 = .ok (.ifCond .eq 11, 3) := by decide +kernel
theorem dX11_two_66 : decode cX11_two 66 = .ok (.iload_n 2, 1) := by decide +kernel
theorem dX11_two_67 : decode cX11_two 67 = .ok (.ifCond .eq 7, 3) := by decide +kernel
theorem dX11_two_70 : decode cX11_two 70 = .ok (.iconst 1, 1) := by decide +kernel
theorem dX11_two_71 : decode cX11_two 71 = .ok (.goto 4, 3) := by decide +kernel
theorem dX11_two_74 : decode cX11_two 74 = .ok (.iconst 0, 1) := by decide +kernel
theorem dX11_two_75 : decode cX11_two 75 = .ok (.ireturn, 1) := by decide +kernel
theorem dX11_two_76 : decode cX11_two 76 = .ok (.iload_n 1, 1) := by decide +kernel
theorem dX11_two_77 : decode cX11_two 77 = .ok (.iload_n 2, 1) := by decide +kernel
theorem dX11_two_78 : decode cX11_two 78 = .ok (.if_icmp .ge 7, 3) := by decide +kernel
theorem dX11_two_81 : decode cX11_two 81 = .ok (.iconst 1, 1) := by decide +kernel
theorem dX11_two_82 : decode cX11_two 82 = .ok (.goto 4, 3) := by decide +kernel
theorem dX11_two_85 : decode cX11_two 85 = .ok (.iconst 0, 1) := by decide +kernel
theorem dX11_two_86 : decode cX11_two 86 = .ok (.ireturn, 1) := by decide +kernel
theorem dX11_two_87 : decode cX11_two 87 = .ok (.iload_n 1, 1) := by decide +kernel
theorem dX11_two_88 : decode cX11_two 88 = .ok (.iload_n 2, 1) := by decide +kernel
theorem dX11_two_89 : decode cX11_two 89 = .ok (.if_icmp .ne 7, 3) := by decide +kernel
theorem dX11_two_92 : decode cX11_two 92 = .ok (.iconst 1, 1) := by decide +kernel
theorem dX11_two_93 : decode cX11_two 93 = .ok (.goto 4, 3) := by decide +kernel
theorem dX11_two_96 : decode cX11_two 96 = .ok (.iconst 0, 1) := by decide +kernel
theorem dX11_two_97 : decode cX11_two 97 = .ok (.ireturn, 1) := by decide +kernel
theorem dX11_two_98 : decode cX11_two 98 = .ok (.iload_n 1, 1) := by decide +kernel
theorem dX11_two_99 : decode cX11_two 99 = .ok (.iload_n 2, 1) := by decide +kernel
theorem dX11_two_100 : decode cX11_two 100 = .ok (.if_icmp .le 7, 3) := by decide +kernel
theorem dX11_two_103 : decode cX11_two 103 = .ok (.iconst 1, 1) := by decide +kernel
theorem dX11_two_104 : decode cX11_two 104 = .ok (.goto 4, 3) := by decide +kernel
theorem dX11_two_107 : decode cX11_two 107 = .ok (.iconst 0, 1) := by decide +kernel
theorem dX11_two_108 : decode cX11_two 108 = .ok (.ireturn, 1) := by decide +kernel
theorem dX11_two_109 : decode cX11_two 109 = .ok (.iload_n 1, 1) := by decide +kernel
theorem dX11_two_110 : decode cX11_two 110 = .ok (.iload_n 2, 1) := by decide +kernel
theorem dX11_two_111 : decode cX11_two 111 = .ok (.iadd, 1) := by decide +kernel
theorem dX11_two_112 : decode cX11_two 112 = .ok (.ireturn, 1) := by decide +kernel
theorem dX11_two_113 : decode cX11_two 113 = .ok (.iload_n 1, 1) := by decide +kernel
theorem dX11_two_114 : decode cX11_two 114 = .ok (.iload_n 2, 1) := by decide +kernel
theorem dX11_two_115 : decode cX11_two 115 = .ok (.isub, 1) := by decide +kernel
theorem dX11_two_116 : decode cX11_two 116 = .ok (.ireturn, 1) := by decide +kernel
theorem dX11_two_117 : decode cX11_two 117 = .ok (.iload_n 1, 1) := by decide +kernel
theorem dX11_two_118 : decode cX11_two 118 = .ok (.iload_n 2, 1) := by decide +kernel
theorem dX11_two_119 : decode cX11_two 119 = .ok (.imul, 1) := by decide +kernel
theorem dX11_two_120 : decode cX11_two 120 = .ok (.ireturn, 1) := by decide +kernel
theorem dX11_two_121 : decode cX11_two 121 = .ok (.iload_n 2, 1) := by decide +kernel
theorem dX11_two_122 : decode cX11_two 122 = .ok (.ifCond .ne 7, 3) := by decide +kernel
theorem dX11_two_125 : decode cX11_two 125 = .ok (.iconst 0, 1) := by decide +kernel
theorem dX11_two_126 : decode cX11_two 126 = .ok (.goto 6, 3) := by decide +kernel
theorem dX11_two_129 : decode cX11_two 129 = .ok (.iload_n 1, 1) := by decide +kernel
theorem dX11_two_130 : decode cX11_two 130 = .ok (.iload_n 2, 1) := by decide +kernel
theorem dX11_two_131 : decode cX11_two 131 = .ok (.idiv, 1) := by decide +kernel
theorem dX11_two_132 : decode cX11_two 132 = .ok (.ireturn, 1) := by decide +kernel
