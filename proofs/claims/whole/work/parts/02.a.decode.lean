-- decode rows, by program
theorem dX0_init_0 : decode cX0_init 0 = .ok (.aload_n 0, 1) := by decide +kernel
theorem dX0_init_1 : decode cX0_init 1 = .ok (.invokespecial 3, 3) := by decide +kernel
theorem dX0_init_4 : decode cX0_init 4 = .ok (.aload_n 0, 1) := by decide +kernel
theorem dX0_init_5 : decode cX0_init 5 = .ok (.bipush 30, 2) := by decide +kernel
theorem dX0_init_7 : decode cX0_init 7 = .ok (.newarray .int, 2) := by decide +kernel
theorem dX0_init_9 : decode cX0_init 9 = .ok (.putfield 9, 3) := by decide +kernel
theorem dX0_init_12 : decode cX0_init 12 = .ok (.aload_n 0, 1) := by decide +kernel
theorem dX0_init_13 : decode cX0_init 13 = .ok (.bipush 30, 2) := by decide +kernel
theorem dX0_init_15 : decode cX0_init 15 = .ok (.newarray .int, 2) := by decide +kernel
theorem dX0_init_17 : decode cX0_init 17 = .ok (.putfield 15, 3) := by decide +kernel
theorem dX0_init_20 : decode cX0_init 20 = .ok (.aload_n 0, 1) := by decide +kernel
theorem dX0_init_21 : decode cX0_init 21 = .ok (.bipush 6, 2) := by decide +kernel
theorem dX0_init_23 : decode cX0_init 23 = .ok (.newarray .int, 2) := by decide +kernel
theorem dX0_init_25 : decode cX0_init 25 = .ok (.putfield 18, 3) := by decide +kernel
theorem dX0_init_28 : decode cX0_init 28 = .ok (.aload_n 0, 1) := by decide +kernel
theorem dX0_init_29 : decode cX0_init 29 = .ok (.iconst 0, 1) := by decide +kernel
theorem dX0_init_30 : decode cX0_init 30 = .ok (.putfield 21, 3) := by decide +kernel
theorem dX0_init_33 : decode cX0_init 33 = .ok (.aload_n 0, 1) := by decide +kernel
theorem dX0_init_34 : decode cX0_init 34 = .ok (.iconst 0, 1) := by decide +kernel
theorem dX0_init_35 : decode cX0_init 35 = .ok (.putfield 25, 3) := by decide +kernel
theorem dX0_init_38 : decode cX0_init 38 = .ok (.aload_n 0, 1) := by decide +kernel
theorem dX0_init_39 : decode cX0_init 39 = .ok (.iconst 0, 1) := by decide +kernel
theorem dX0_init_40 : decode cX0_init 40 = .ok (.putfield 28, 3) := by decide +kernel
theorem dX0_init_43 : decode cX0_init 43 = .ok (.aload_n 0, 1) := by decide +kernel
theorem dX0_init_44 : decode cX0_init 44 = .ok (.iconst 0, 1) := by decide +kernel
theorem dX0_init_45 : decode cX0_init 45 = .ok (.putfield 31, 3) := by decide +kernel
theorem dX0_init_48 : decode cX0_init 48 = .ok (.iconst 0, 1) := by decide +kernel
theorem dX0_init_49 : decode cX0_init 49 = .ok (.istore_n 1, 1) := by decide +kernel
theorem dX0_init_50 : decode cX0_init 50 = .ok (.iload_n 1, 1) := by decide +kernel
theorem dX0_init_51 : decode cX0_init 51 = .ok (.bipush 6, 2) := by decide +kernel
theorem dX0_init_53 : decode cX0_init 53 = .ok (.if_icmp .ge 17, 3) := by decide +kernel
theorem dX0_init_56 : decode cX0_init 56 = .ok (.aload_n 0, 1) := by decide +kernel
theorem dX0_init_57 : decode cX0_init 57 = .ok (.getfield 18, 3) := by decide +kernel
theorem dX0_init_60 : decode cX0_init 60 = .ok (.iload_n 1, 1) := by decide +kernel
theorem dX0_init_61 : decode cX0_init 61 = .ok (.ldc 34, 2) := by decide +kernel
theorem dX0_init_63 : decode cX0_init 63 = .ok (.iastore, 1) := by decide +kernel
theorem dX0_init_64 : decode cX0_init 64 = .ok (.iinc 1 1, 3) := by decide +kernel
theorem dX0_init_67 : decode cX0_init 67 = .ok (.goto (-17), 3) := by decide +kernel
theorem dX0_init_70 : decode cX0_init 70 = .ok (.return_, 1) := by decide +kernel
theorem dX0_grow_0 : decode cX0_grow 0 = .ok (.iload_n 2, 1) := by decide +kernel
theorem dX0_grow_1 : decode cX0_grow 1 = .ok (.ifCond .gt 4, 3) := by decide +kernel
theorem dX0_grow_4 : decode cX0_grow 4 = .ok (.return_, 1) := by decide +kernel
theorem dX0_grow_5 : decode cX0_grow 5 = .ok (.aload_n 0, 1) := by decide +kernel
theorem dX0_grow_6 : decode cX0_grow 6 = .ok (.getfield 21, 3) := by decide +kernel
theorem dX0_grow_9 : decode cX0_grow 9 = .ok (.iconst 1, 1) := by decide +kernel
theorem dX0_grow_10 : decode cX0_grow 10 = .ok (.isub, 1) := by decide +kernel
theorem dX0_grow_11 : decode cX0_grow 11 = .ok (.istore_n 3, 1) := by decide +kernel
theorem dX0_grow_12 : decode cX0_grow 12 = .ok (.iload_n 3, 1) := by decide +kernel
theorem dX0_grow_13 : decode cX0_grow 13 = .ok (.ifCond .lt 35, 3) := by decide +kernel
theorem dX0_grow_16 : decode cX0_grow 16 = .ok (.aload_n 0, 1) := by decide +kernel
theorem dX0_grow_17 : decode cX0_grow 17 = .ok (.getfield 21, 3) := by decide +kernel
theorem dX0_grow_20 : decode cX0_grow 20 = .ok (.bipush 30, 2) := by decide +kernel
theorem dX0_grow_22 : decode cX0_grow 22 = .ok (.if_icmp .ge 13, 3) := by decide +kernel
theorem dX0_grow_25 : decode cX0_grow 25 = .ok (.aload_n 0, 1) := by decide +kernel
theorem dX0_grow_26 : decode cX0_grow 26 = .ok (.getfield 9, 3) := by decide +kernel
theorem dX0_grow_29 : decode cX0_grow 29 = .ok (.iload_n 3, 1) := by decide +kernel
theorem dX0_grow_30 : decode cX0_grow 30 = .ok (.iaload, 1) := by decide +kernel
theorem dX0_grow_31 : decode cX0_grow 31 = .ok (.iload_n 1, 1) := by decide +kernel
theorem dX0_grow_32 : decode cX0_grow 32 = .ok (.if_icmp .ne 16, 3) := by decide +kernel
theorem dX0_grow_35 : decode cX0_grow 35 = .ok (.aload_n 0, 1) := by decide +kernel
theorem dX0_grow_36 : decode cX0_grow 36 = .ok (.getfield 15, 3) := by decide +kernel
theorem dX0_grow_39 : decode cX0_grow 39 = .ok (.iload_n 3, 1) := by decide +kernel
theorem dX0_grow_40 : decode cX0_grow 40 = .ok (.dup2, 1) := by decide +kernel
theorem dX0_grow_41 : decode cX0_grow 41 = .ok (.iaload, 1) := by decide +kernel
theorem dX0_grow_42 : decode cX0_grow 42 = .ok (.iload_n 2, 1) := by decide +kernel
theorem dX0_grow_43 : decode cX0_grow 43 = .ok (.iadd, 1) := by decide +kernel
theorem dX0_grow_44 : decode cX0_grow 44 = .ok (.iastore, 1) := by decide +kernel
theorem dX0_grow_45 : decode cX0_grow 45 = .ok (.goto 33, 3) := by decide +kernel
theorem dX0_grow_48 : decode cX0_grow 48 = .ok (.aload_n 0, 1) := by decide +kernel
theorem dX0_grow_49 : decode cX0_grow 49 = .ok (.getfield 9, 3) := by decide +kernel
theorem dX0_grow_52 : decode cX0_grow 52 = .ok (.aload_n 0, 1) := by decide +kernel
theorem dX0_grow_53 : decode cX0_grow 53 = .ok (.getfield 21, 3) := by decide +kernel
theorem dX0_grow_56 : decode cX0_grow 56 = .ok (.iload_n 1, 1) := by decide +kernel
theorem dX0_grow_57 : decode cX0_grow 57 = .ok (.iastore, 1) := by decide +kernel
theorem dX0_grow_58 : decode cX0_grow 58 = .ok (.aload_n 0, 1) := by decide +kernel
theorem dX0_grow_59 : decode cX0_grow 59 = .ok (.getfield 15, 3) := by decide +kernel
theorem dX0_grow_62 : decode cX0_grow 62 = .ok (.aload_n 0, 1) := by decide +kernel
theorem dX0_grow_63 : decode cX0_grow 63 = .ok (.getfield 21, 3) := by decide +kernel
theorem dX0_grow_66 : decode cX0_grow 66 = .ok (.iload_n 2, 1) := by decide +kernel
theorem dX0_grow_67 : decode cX0_grow 67 = .ok (.iastore, 1) := by decide +kernel
theorem dX0_grow_68 : decode cX0_grow 68 = .ok (.aload_n 0, 1) := by decide +kernel
theorem dX0_grow_69 : decode cX0_grow 69 = .ok (.dup, 1) := by decide +kernel
theorem dX0_grow_70 : decode cX0_grow 70 = .ok (.getfield 21, 3) := by decide +kernel
theorem dX0_grow_73 : decode cX0_grow 73 = .ok (.iconst 1, 1) := by decide +kernel
theorem dX0_grow_74 : decode cX0_grow 74 = .ok (.iadd, 1) := by decide +kernel
theorem dX0_grow_75 : decode cX0_grow 75 = .ok (.putfield 21, 3) := by decide +kernel
theorem dX0_grow_78 : decode cX0_grow 78 = .ok (.aload_n 0, 1) := by decide +kernel
theorem dX0_grow_79 : decode cX0_grow 79 = .ok (.dup, 1) := by decide +kernel
theorem dX0_grow_80 : decode cX0_grow 80 = .ok (.getfield 25, 3) := by decide +kernel
theorem dX0_grow_83 : decode cX0_grow 83 = .ok (.iload_n 2, 1) := by decide +kernel
theorem dX0_grow_84 : decode cX0_grow 84 = .ok (.iadd, 1) := by decide +kernel
theorem dX0_grow_85 : decode cX0_grow 85 = .ok (.putfield 25, 3) := by decide +kernel
theorem dX0_grow_88 : decode cX0_grow 88 = .ok (.return_, 1) := by decide +kernel
theorem dX0_melt_0 : decode cX0_melt 0 = .ok (.iload_n 1, 1) := by decide +kernel
theorem dX0_melt_1 : decode cX0_melt 1 = .ok (.aload_n 0, 1) := by decide +kernel
theorem dX0_melt_2 : decode cX0_melt 2 = .ok (.getfield 25, 3) := by decide +kernel
theorem dX0_melt_5 : decode cX0_melt 5 = .ok (.invokestatic 35, 3) := by decide +kernel
theorem dX0_melt_8 : decode cX0_melt 8 = .ok (.istore_n 2, 1) := by decide +kernel
theorem dX0_melt_9 : decode cX0_melt 9 = .ok (.aload_n 0, 1) := by decide +kernel
theorem dX0_melt_10 : decode cX0_melt 10 = .ok (.dup, 1) := by decide +kernel
theorem dX0_melt_11 : decode cX0_melt 11 = .ok (.getfield 25, 3) := by decide +kernel
theorem dX0_melt_14 : decode cX0_melt 14 = .ok (.iload_n 2, 1) := by decide +kernel
theorem dX0_melt_15 : decode cX0_melt 15 = .ok (.isub, 1) := by decide +kernel
theorem dX0_melt_16 : decode cX0_melt 16 = .ok (.putfield 25, 3) := by decide +kernel
theorem dX0_melt_19 : decode cX0_melt 19 = .ok (.aload_n 0, 1) := by decide +kernel
theorem dX0_melt_20 : decode cX0_melt 20 = .ok (.dup, 1) := by decide +kernel
theorem dX0_melt_21 : decode cX0_melt 21 = .ok (.getfield 31, 3) := by decide +kernel
theorem dX0_melt_24 : decode cX0_melt 24 = .ok (.iload_n 2, 1) := by decide +kernel
theorem dX0_melt_25 : decode cX0_melt 25 = .ok (.iadd, 1) := by decide +kernel
theorem dX0_melt_26 : decode cX0_melt 26 = .ok (.putfield 31, 3) := by decide +kernel
theorem dX0_melt_29 : decode cX0_melt 29 = .ok (.aload_n 0, 1) := by decide +kernel
theorem dX0_melt_30 : decode cX0_melt 30 = .ok (.getfield 21, 3) := by decide +kernel
theorem dX0_melt_33 : decode cX0_melt 33 = .ok (.iconst 1, 1) := by decide +kernel
theorem dX0_melt_34 : decode cX0_melt 34 = .ok (.isub, 1) := by decide +kernel
theorem dX0_melt_35 : decode cX0_melt 35 = .ok (.istore_n 3, 1) := by decide +kernel
theorem dX0_melt_36 : decode cX0_melt 36 = .ok (.iload_n 3, 1) := by decide +kernel
theorem dX0_melt_37 : decode cX0_melt 37 = .ok (.ifCond .lt 60, 3) := by decide +kernel
theorem dX0_melt_40 : decode cX0_melt 40 = .ok (.iload_n 2, 1) := by decide +kernel
theorem dX0_melt_41 : decode cX0_melt 41 = .ok (.ifCond .le 56, 3) := by decide +kernel
theorem dX0_melt_44 : decode cX0_melt 44 = .ok (.iload_n 2, 1) := by decide +kernel
theorem dX0_melt_45 : decode cX0_melt 45 = .ok (.aload_n 0, 1) := by decide +kernel
theorem dX0_melt_46 : decode cX0_melt 46 = .ok (.getfield 15, 3) := by decide +kernel
theorem dX0_melt_49 : decode cX0_melt 49 = .ok (.iload_n 3, 1) := by decide +kernel
theorem dX0_melt_50 : decode cX0_melt 50 = .ok (.iaload, 1) := by decide +kernel
theorem dX0_melt_51 : decode cX0_melt 51 = .ok (.invokestatic 35, 3) := by decide +kernel
theorem dX0_melt_54 : decode cX0_melt 54 = .ok (.istore 4, 2) := by decide +kernel
theorem dX0_melt_56 : decode cX0_melt 56 = .ok (.aload_n 0, 1) := by decide +kernel
theorem dX0_melt_57 : decode cX0_melt 57 = .ok (.getfield 15, 3) := by decide +kernel
theorem dX0_melt_60 : decode cX0_melt 60 = .ok (.iload_n 3, 1) := by decide +kernel
theorem dX0_melt_61 : decode cX0_melt 61 = .ok (.dup2, 1) := by decide +kernel
theorem dX0_melt_62 : decode cX0_melt 62 = .ok (.iaload, 1) := by decide +kernel
theorem dX0_melt_63 : decode cX0_melt 63 = .ok (.iload 4, 2) := by decide +kernel
theorem dX0_melt_65 : decode cX0_melt 65 = .ok (.isub, 1) := by decide +kernel
theorem dX0_melt_66 : decode cX0_melt 66 = .ok (.iastore, 1) := by decide +kernel
theorem dX0_melt_67 : decode cX0_melt 67 = .ok (.iload_n 2, 1) := by decide +kernel
theorem dX0_melt_68 : decode cX0_melt 68 = .ok (.iload 4, 2) := by decide +kernel
theorem dX0_melt_70 : decode cX0_melt 70 = .ok (.isub, 1) := by decide +kernel
theorem dX0_melt_71 : decode cX0_melt 71 = .ok (.istore_n 2, 1) := by decide +kernel
theorem dX0_melt_72 : decode cX0_melt 72 = .ok (.aload_n 0, 1) := by decide +kernel
theorem dX0_melt_73 : decode cX0_melt 73 = .ok (.getfield 15, 3) := by decide +kernel
theorem dX0_melt_76 : decode cX0_melt 76 = .ok (.iload_n 3, 1) := by decide +kernel
theorem dX0_melt_77 : decode cX0_melt 77 = .ok (.iaload, 1) := by decide +kernel
theorem dX0_melt_78 : decode cX0_melt 78 = .ok (.ifCond .gt 13, 3) := by decide +kernel
theorem dX0_melt_81 : decode cX0_melt 81 = .ok (.aload_n 0, 1) := by decide +kernel
theorem dX0_melt_82 : decode cX0_melt 82 = .ok (.iload_n 3, 1) := by decide +kernel
theorem dX0_melt_83 : decode cX0_melt 83 = .ok (.putfield 21, 3) := by decide +kernel
theorem dX0_melt_86 : decode cX0_melt 86 = .ok (.aload_n 0, 1) := by decide +kernel
theorem dX0_melt_87 : decode cX0_melt 87 = .ok (.iload_n 3, 1) := by decide +kernel
theorem dX0_melt_88 : decode cX0_melt 88 = .ok (.invokevirtual 41, 3) := by decide +kernel
theorem dX0_melt_91 : decode cX0_melt 91 = .ok (.iinc 3 (-1), 3) := by decide +kernel
theorem dX0_melt_94 : decode cX0_melt 94 = .ok (.goto (-58), 3) := by decide +kernel
theorem dX0_melt_97 : decode cX0_melt 97 = .ok (.return_, 1) := by decide +kernel
theorem dX0_bareThings_0 : decode cX0_bareThings 0 = .ok (.iconst 0, 1) := by decide +kernel
theorem dX0_bareThings_1 : decode cX0_bareThings 1 = .ok (.istore_n 2, 1) := by decide +kernel
theorem dX0_bareThings_2 : decode cX0_bareThings 2 = .ok (.iload_n 2, 1) := by decide +kernel
theorem dX0_bareThings_3 : decode cX0_bareThings 3 = .ok (.bipush 6, 2) := by decide +kernel
theorem dX0_bareThings_5 : decode cX0_bareThings 5 = .ok (.if_icmp .ge 32, 3) := by decide +kernel
theorem dX0_bareThings_8 : decode cX0_bareThings 8 = .ok (.aload_n 0, 1) := by decide +kernel
theorem dX0_bareThings_9 : decode cX0_bareThings 9 = .ok (.getfield 18, 3) := by decide +kernel
theorem dX0_bareThings_12 : decode cX0_bareThings 12 = .ok (.iload_n 2, 1) := by decide +kernel
theorem dX0_bareThings_13 : decode cX0_bareThings 13 = .ok (.iaload, 1) := by decide +kernel
theorem dX0_bareThings_14 : decode cX0_bareThings 14 = .ok (.iload_n 1, 1) := by decide +kernel
theorem dX0_bareThings_15 : decode cX0_bareThings 15 = .ok (.if_icmp .ne 16, 3) := by decide +kernel
theorem dX0_bareThings_18 : decode cX0_bareThings 18 = .ok (.aload_n 0, 1) := by decide +kernel
theorem dX0_bareThings_19 : decode cX0_bareThings 19 = .ok (.getfield 18, 3) := by decide +kernel
theorem dX0_bareThings_22 : decode cX0_bareThings 22 = .ok (.iload_n 2, 1) := by decide +kernel
theorem dX0_bareThings_23 : decode cX0_bareThings 23 = .ok (.bipush 100, 2) := by decide +kernel
theorem dX0_bareThings_25 : decode cX0_bareThings 25 = .ok (.aload_n 0, 1) := by decide +kernel
theorem dX0_bareThings_26 : decode cX0_bareThings 26 = .ok (.getfield 28, 3) := by decide +kernel
theorem dX0_bareThings_29 : decode cX0_bareThings 29 = .ok (.iadd, 1) := by decide +kernel
theorem dX0_bareThings_30 : decode cX0_bareThings 30 = .ok (.iastore, 1) := by decide +kernel
theorem dX0_bareThings_31 : decode cX0_bareThings 31 = .ok (.iinc 2 1, 3) := by decide +kernel
theorem dX0_bareThings_34 : decode cX0_bareThings 34 = .ok (.goto (-32), 3) := by decide +kernel
theorem dX0_bareThings_37 : decode cX0_bareThings 37 = .ok (.return_, 1) := by decide +kernel
theorem dX0_led_0 : decode cX0_led 0 = .ok (.iconst 0, 1) := by decide +kernel
theorem dX0_led_1 : decode cX0_led 1 = .ok (.istore_n 2, 1) := by decide +kernel
theorem dX0_led_2 : decode cX0_led 2 = .ok (.iconst 0, 1) := by decide +kernel
theorem dX0_led_3 : decode cX0_led 3 = .ok (.istore_n 3, 1) := by decide +kernel
theorem dX0_led_4 : decode cX0_led 4 = .ok (.iload_n 3, 1) := by decide +kernel
theorem dX0_led_5 : decode cX0_led 5 = .ok (.aload_n 0, 1) := by decide +kernel
theorem dX0_led_6 : decode cX0_led 6 = .ok (.getfield 21, 3) := by decide +kernel
theorem dX0_led_9 : decode cX0_led 9 = .ok (.if_icmp .ge 28, 3) := by decide +kernel
theorem dX0_led_12 : decode cX0_led 12 = .ok (.aload_n 0, 1) := by decide +kernel
theorem dX0_led_13 : decode cX0_led 13 = .ok (.getfield 9, 3) := by decide +kernel
theorem dX0_led_16 : decode cX0_led 16 = .ok (.iload_n 3, 1) := by decide +kernel
theorem dX0_led_17 : decode cX0_led 17 = .ok (.iaload, 1) := by decide +kernel
theorem dX0_led_18 : decode cX0_led 18 = .ok (.iload_n 1, 1) := by decide +kernel
theorem dX0_led_19 : decode cX0_led 19 = .ok (.if_icmp .ne 12, 3) := by decide +kernel
theorem dX0_led_22 : decode cX0_led 22 = .ok (.iload_n 2, 1) := by decide +kernel
theorem dX0_led_23 : decode cX0_led 23 = .ok (.aload_n 0, 1) := by decide +kernel
theorem dX0_led_24 : decode cX0_led 24 = .ok (.getfield 15, 3) := by decide +kernel
theorem dX0_led_27 : decode cX0_led 27 = .ok (.iload_n 3, 1) := by decide +kernel
theorem dX0_led_28 : decode cX0_led 28 = .ok (.iaload, 1) := by decide +kernel
theorem dX0_led_29 : decode cX0_led 29 = .ok (.iadd, 1) := by decide +kernel
theorem dX0_led_30 : decode cX0_led 30 = .ok (.istore_n 2, 1) := by decide +kernel
theorem dX0_led_31 : decode cX0_led 31 = .ok (.iinc 3 1, 3) := by decide +kernel
theorem dX0_led_34 : decode cX0_led 34 = .ok (.goto (-30), 3) := by decide +kernel
theorem dX0_led_37 : decode cX0_led 37 = .ok (.iload_n 2, 1) := by decide +kernel
theorem dX0_led_38 : decode cX0_led 38 = .ok (.ireturn, 1) := by decide +kernel
theorem dX0_become_0 : decode cX0_become 0 = .ok (.aload_n 0, 1) := by decide +kernel
theorem dX0_become_1 : decode cX0_become 1 = .ok (.aload_n 1, 1) := by decide +kernel
theorem dX0_become_2 : decode cX0_become 2 = .ok (.getfield 21, 3) := by decide +kernel
theorem dX0_become_5 : decode cX0_become 5 = .ok (.putfield 21, 3) := by decide +kernel
theorem dX0_become_8 : decode cX0_become 8 = .ok (.aload_n 0, 1) := by decide +kernel
theorem dX0_become_9 : decode cX0_become 9 = .ok (.aload_n 1, 1) := by decide +kernel
theorem dX0_become_10 : decode cX0_become 10 = .ok (.getfield 25, 3) := by decide +kernel
theorem dX0_become_13 : decode cX0_become 13 = .ok (.putfield 25, 3) := by decide +kernel
theorem dX0_become_16 : decode cX0_become 16 = .ok (.aload_n 0, 1) := by decide +kernel
theorem dX0_become_17 : decode cX0_become 17 = .ok (.aload_n 1, 1) := by decide +kernel
theorem dX0_become_18 : decode cX0_become 18 = .ok (.getfield 28, 3) := by decide +kernel
theorem dX0_become_21 : decode cX0_become 21 = .ok (.putfield 28, 3) := by decide +kernel
theorem dX0_become_24 : decode cX0_become 24 = .ok (.aload_n 0, 1) := by decide +kernel
theorem dX0_become_25 : decode cX0_become 25 = .ok (.aload_n 1, 1) := by decide +kernel
theorem dX0_become_26 : decode cX0_become 26 = .ok (.getfield 31, 3) := by decide +kernel
theorem dX0_become_29 : decode cX0_become 29 = .ok (.putfield 31, 3) := by decide +kernel
theorem dX0_become_32 : decode cX0_become 32 = .ok (.aload_n 1, 1) := by decide +kernel
theorem dX0_become_33 : decode cX0_become 33 = .ok (.getfield 9, 3) := by decide +kernel
theorem dX0_become_36 : decode cX0_become 36 = .ok (.iconst 0, 1) := by decide +kernel
theorem dX0_become_37 : decode cX0_become 37 = .ok (.aload_n 0, 1) := by decide +kernel
theorem dX0_become_38 : decode cX0_become 38 = .ok (.getfield 9, 3) := by decide +kernel
theorem dX0_become_41 : decode cX0_become 41 = .ok (.iconst 0, 1) := by decide +kernel
theorem dX0_become_42 : decode cX0_become 42 = .ok (.aload_n 0, 1) := by decide +kernel
theorem dX0_become_43 : decode cX0_become 43 = .ok (.getfield 21, 3) := by decide +kernel
theorem dX0_become_46 : decode cX0_become 46 = .ok (.invokestatic 45, 3) := by decide +kernel
theorem dX0_become_49 : decode cX0_become 49 = .ok (.aload_n 1, 1) := by decide +kernel
theorem dX0_become_50 : decode cX0_become 50 = .ok (.getfield 15, 3) := by decide +kernel
theorem dX0_become_53 : decode cX0_become 53 = .ok (.iconst 0, 1) := by decide +kernel
theorem dX0_become_54 : decode cX0_become 54 = .ok (.aload_n 0, 1) := by decide +kernel
theorem dX0_become_55 : decode cX0_become 55 = .ok (.getfield 15, 3) := by decide +kernel
theorem dX0_become_58 : decode cX0_become 58 = .ok (.iconst 0, 1) := by decide +kernel
theorem dX0_become_59 : decode cX0_become 59 = .ok (.aload_n 0, 1) := by decide +kernel
theorem dX0_become_60 : decode cX0_become 60 = .ok (.getfield 21, 3) := by decide +kernel
theorem dX0_become_63 : decode cX0_become 63 = .ok (.invokestatic 45, 3) := by decide +kernel
theorem dX0_become_66 : decode cX0_become 66 = .ok (.aload_n 1, 1) := by decide +kernel
theorem dX0_become_67 : decode cX0_become 67 = .ok (.getfield 18, 3) := by decide +kernel
theorem dX0_become_70 : decode cX0_become 70 = .ok (.iconst 0, 1) := by decide +kernel
theorem dX0_become_71 : decode cX0_become 71 = .ok (.aload_n 0, 1) := by decide +kernel
theorem dX0_become_72 : decode cX0_become 72 = .ok (.getfield 18, 3) := by decide +kernel
theorem dX0_become_75 : decode cX0_become 75 = .ok (.iconst 0, 1) := by decide +kernel
theorem dX0_become_76 : decode cX0_become 76 = .ok (.bipush 6, 2) := by decide +kernel
theorem dX0_become_78 : decode cX0_become 78 = .ok (.invokestatic 45, 3) := by decide +kernel
theorem dX0_become_81 : decode cX0_become 81 = .ok (.return_, 1) := by decide +kernel
theorem dX1_has_0 : decode cX1_has 0 = .ok (.iload_n 0, 1) := by decide +kernel
theorem dX1_has_1 : decode cX1_has 1 = .ok (.ifCond .lt 12, 3) := by decide +kernel
theorem dX1_has_4 : decode cX1_has 4 = .ok (.iload_n 0, 1) := by decide +kernel
theorem dX1_has_5 : decode cX1_has 5 = .ok (.iconst 5, 1) := by decide +kernel
theorem dX1_has_6 : decode cX1_has 6 = .ok (.if_icmp .gt 7, 3) := by decide +kernel
theorem dX1_has_9 : decode cX1_has 9 = .ok (.iconst 1, 1) := by decide +kernel
theorem dX1_has_10 : decode cX1_has 10 = .ok (.goto 4, 3) := by decide +kernel
theorem dX1_has_13 : decode cX1_has 13 = .ok (.iconst 0, 1) := by decide +kernel
theorem dX1_has_14 : decode cX1_has 14 = .ok (.ireturn, 1) := by decide +kernel
theorem dX1_isOf_0 : decode cX1_isOf 0 = .ok (.iload_n 0, 1) := by decide +kernel
theorem dX1_isOf_1 : decode cX1_isOf 1 = .ok (.istore_n 2, 1) := by decide +kernel
theorem dX1_isOf_2 : decode cX1_isOf 2 = .ok (.iconst 0, 1) := by decide +kernel
theorem dX1_isOf_3 : decode cX1_isOf 3 = .ok (.istore_n 3, 1) := by decide +kernel
theorem dX1_isOf_4 : decode cX1_isOf 4 = .ok (.iload_n 3, 1) := by decide +kernel
theorem dX1_isOf_5 : decode cX1_isOf 5 = .ok (.getstatic 9, 3) := by decide +kernel
theorem dX1_isOf_8 : decode cX1_isOf 8 = .ok (.arraylength, 1) := by decide +kernel
theorem dX1_isOf_9 : decode cX1_isOf 9 = .ok (.if_icmp .ge 29, 3) := by decide +kernel
theorem dX1_isOf_12 : decode cX1_isOf 12 = .ok (.iload_n 2, 1) := by decide +kernel
theorem dX1_isOf_13 : decode cX1_isOf 13 = .ok (.invokestatic 15, 3) := by decide +kernel
theorem dX1_isOf_16 : decode cX1_isOf 16 = .ok (.ifCond .eq 22, 3) := by decide +kernel
theorem dX1_isOf_19 : decode cX1_isOf 19 = .ok (.iload_n 2, 1) := by decide +kernel
theorem dX1_isOf_20 : decode cX1_isOf 20 = .ok (.iload_n 1, 1) := by decide +kernel
theorem dX1_isOf_21 : decode cX1_isOf 21 = .ok (.if_icmp .ne 5, 3) := by decide +kernel
theorem dX1_isOf_24 : decode cX1_isOf 24 = .ok (.iconst 1, 1) := by decide +kernel
theorem dX1_isOf_25 : decode cX1_isOf 25 = .ok (.ireturn, 1) := by decide +kernel
theorem dX1_isOf_26 : decode cX1_isOf 26 = .ok (.getstatic 9, 3) := by decide +kernel
theorem dX1_isOf_29 : decode cX1_isOf 29 = .ok (.iload_n 2, 1) := by decide +kernel
theorem dX1_isOf_30 : decode cX1_isOf 30 = .ok (.iaload, 1) := by decide +kernel
theorem dX1_isOf_31 : decode cX1_isOf 31 = .ok (.istore_n 2, 1) := by decide +kernel
theorem dX1_isOf_32 : decode cX1_isOf 32 = .ok (.iinc 3 1, 3) := by decide +kernel
theorem dX1_isOf_35 : decode cX1_isOf 35 = .ok (.goto (-31), 3) := by decide +kernel
theorem dX1_isOf_38 : decode cX1_isOf 38 = .ok (.iconst 0, 1) := by decide +kernel
theorem dX1_isOf_39 : decode cX1_isOf 39 = .ok (.ireturn, 1) := by decide +kernel
theorem dX1_gift_0 : decode cX1_gift 0 = .ok (.iload_n 2, 1) := by decide +kernel
theorem dX1_gift_1 : decode cX1_gift 1 = .ok (.iload_n 1, 1) := by decide +kernel
theorem dX1_gift_2 : decode cX1_gift 2 = .ok (.bipush 10, 2) := by decide +kernel
theorem dX1_gift_4 : decode cX1_gift 4 = .ok (.iadd, 1) := by decide +kernel
theorem dX1_gift_5 : decode cX1_gift 5 = .ok (.invokestatic 19, 3) := by decide +kernel
theorem dX1_gift_8 : decode cX1_gift 8 = .ok (.istore_n 3, 1) := by decide +kernel
theorem dX1_gift_9 : decode cX1_gift 9 = .ok (.iload_n 0, 1) := by decide +kernel
theorem dX1_gift_10 : decode cX1_gift 10 = .ok (.tableswitch 50 1 5 #[34, 38, 34, 40, 48], 34) := by decide +kernel
theorem dX1_gift_44 : decode cX1_gift 44 = .ok (.iload_n 1, 1) := by decide +kernel
theorem dX1_gift_45 : decode cX1_gift 45 = .ok (.iconst 2, 1) := by decide +kernel
theorem dX1_gift_46 : decode cX1_gift 46 = .ok (.idiv, 1) := by decide +kernel
theorem dX1_gift_47 : decode cX1_gift 47 = .ok (.ireturn, 1) := by decide +kernel
theorem dX1_gift_48 : decode cX1_gift 48 = .ok (.iload_n 3, 1) := by decide +kernel
theorem dX1_gift_49 : decode cX1_gift 49 = .ok (.ireturn, 1) := by decide +kernel
theorem dX1_gift_50 : decode cX1_gift 50 = .ok (.iload_n 2, 1) := by decide +kernel
theorem dX1_gift_51 : decode cX1_gift 51 = .ok (.iconst 2, 1) := by decide +kernel
theorem dX1_gift_52 : decode cX1_gift 52 = .ok (.iload_n 3, 1) := by decide +kernel
theorem dX1_gift_53 : decode cX1_gift 53 = .ok (.imul, 1) := by decide +kernel
theorem dX1_gift_54 : decode cX1_gift 54 = .ok (.invokestatic 19, 3) := by decide +kernel
theorem dX1_gift_57 : decode cX1_gift 57 = .ok (.ireturn, 1) := by decide +kernel
theorem dX1_gift_58 : decode cX1_gift 58 = .ok (.iconst 0, 1) := by decide +kernel
theorem dX1_gift_59 : decode cX1_gift 59 = .ok (.ireturn, 1) := by decide +kernel
theorem dX1_gift_60 : decode cX1_gift 60 = .ok (.iload_n 1, 1) := by decide +kernel
theorem dX1_gift_61 : decode cX1_gift 61 = .ok (.ireturn, 1) := by decide +kernel
theorem dX1_goesOn_0 : decode cX1_goesOn 0 = .ok (.iload_n 0, 1) := by decide +kernel
theorem dX1_goesOn_1 : decode cX1_goesOn 1 = .ok (.lookupswitch 41 #[(3, 27), (5, 29)], 27) := by decide +kernel
theorem dX1_goesOn_28 : decode cX1_goesOn 28 = .ok (.iconst 2, 1) := by decide +kernel
theorem dX1_goesOn_29 : decode cX1_goesOn 29 = .ok (.ireturn, 1) := by decide +kernel
theorem dX1_goesOn_30 : decode cX1_goesOn 30 = .ok (.iload_n 1, 1) := by decide +kernel
theorem dX1_goesOn_31 : decode cX1_goesOn 31 = .ok (.iconst 2, 1) := by decide +kernel
theorem dX1_goesOn_32 : decode cX1_goesOn 32 = .ok (.irem, 1) := by decide +kernel
theorem dX1_goesOn_33 : decode cX1_goesOn 33 = .ok (.ifCond .ne 7, 3) := by decide +kernel
theorem dX1_goesOn_36 : decode cX1_goesOn 36 = .ok (.iconst 0, 1) := by decide +kernel
theorem dX1_goesOn_37 : decode cX1_goesOn 37 = .ok (.goto 4, 3) := by decide +kernel
theorem dX1_goesOn_40 : decode cX1_goesOn 40 = .ok (.iconst 1, 1) := by decide +kernel
theorem dX1_goesOn_41 : decode cX1_goesOn 41 = .ok (.ireturn, 1) := by decide +kernel
theorem dX1_goesOn_42 : decode cX1_goesOn 42 = .ok (.iconst 1, 1) := by decide +kernel
theorem dX1_goesOn_43 : decode cX1_goesOn 43 = .ok (.ireturn, 1) := by decide +kernel
theorem dX1_worth_0 : decode cX1_worth 0 = .ok (.iload_n 0, 1) := by decide +kernel
theorem dX1_worth_1 : decode cX1_worth 1 = .ok (.tableswitch 62 1 5 #[35, 45, 39, 51, 60], 35) := by decide +kernel
theorem dX1_worth_36 : decode cX1_worth 36 = .ok (.iload_n 1, 1) := by decide +kernel
theorem dX1_worth_37 : decode cX1_worth 37 = .ok (.iconst 5, 1) := by decide +kernel
theorem dX1_worth_38 : decode cX1_worth 38 = .ok (.iadd, 1) := by decide +kernel
theorem dX1_worth_39 : decode cX1_worth 39 = .ok (.ireturn, 1) := by decide +kernel
theorem dX1_worth_40 : decode cX1_worth 40 = .ok (.iconst 2, 1) := by decide +kernel
theorem dX1_worth_41 : decode cX1_worth 41 = .ok (.iload_n 1, 1) := by decide +kernel
theorem dX1_worth_42 : decode cX1_worth 42 = .ok (.iconst 5, 1) := by decide +kernel
theorem dX1_worth_43 : decode cX1_worth 43 = .ok (.iadd, 1) := by decide +kernel
theorem dX1_worth_44 : decode cX1_worth 44 = .ok (.imul, 1) := by decide +kernel
theorem dX1_worth_45 : decode cX1_worth 45 = .ok (.ireturn, 1) := by decide +kernel
theorem dX1_worth_46 : decode cX1_worth 46 = .ok (.sipush 999, 3) := by decide +kernel
theorem dX1_worth_49 : decode cX1_worth 49 = .ok (.iload_n 1, 1) := by decide +kernel
theorem dX1_worth_50 : decode cX1_worth 50 = .ok (.isub, 1) := by decide +kernel
theorem dX1_worth_51 : decode cX1_worth 51 = .ok (.ireturn, 1) := by decide +kernel
theorem dX1_worth_52 : decode cX1_worth 52 = .ok (.sipush 999, 3) := by decide +kernel
theorem dX1_worth_55 : decode cX1_worth 55 = .ok (.iload_n 1, 1) := by decide +kernel
theorem dX1_worth_56 : decode cX1_worth 56 = .ok (.isub, 1) := by decide +kernel
theorem dX1_worth_57 : decode cX1_worth 57 = .ok (.bipush 8, 2) := by decide +kernel
theorem dX1_worth_59 : decode cX1_worth 59 = .ok (.isub, 1) := by decide +kernel
theorem dX1_worth_60 : decode cX1_worth 60 = .ok (.ireturn, 1) := by decide +kernel
theorem dX1_worth_61 : decode cX1_worth 61 = .ok (.iload_n 2, 1) := by decide +kernel
theorem dX1_worth_62 : decode cX1_worth 62 = .ok (.ireturn, 1) := by decide +kernel
theorem dX1_worth_63 : decode cX1_worth 63 = .ok (.iload_n 1, 1) := by decide +kernel
theorem dX1_worth_64 : decode cX1_worth 64 = .ok (.ireturn, 1) := by decide +kernel
theorem dX2_init_0 : decode cX2_init 0 = .ok (.aload_n 0, 1) := by decide +kernel
theorem dX2_init_1 : decode cX2_init 1 = .ok (.invokespecial 1, 3) := by decide +kernel
theorem dX2_init_4 : decode cX2_init 4 = .ok (.aload_n 0, 1) := by decide +kernel
theorem dX2_init_5 : decode cX2_init 5 = .ok (.iload_n 1, 1) := by decide +kernel
theorem dX2_init_6 : decode cX2_init 6 = .ok (.putfield 7, 3) := by decide +kernel
theorem dX2_init_9 : decode cX2_init 9 = .ok (.aload_n 0, 1) := by decide +kernel
theorem dX2_init_10 : decode cX2_init 10 = .ok (.iload_n 2, 1) := by decide +kernel
theorem dX2_init_11 : decode cX2_init 11 = .ok (.putfield 13, 3) := by decide +kernel
theorem dX2_init_14 : decode cX2_init 14 = .ok (.aload_n 0, 1) := by decide +kernel
theorem dX2_init_15 : decode cX2_init 15 = .ok (.iload_n 3, 1) := by decide +kernel
theorem dX2_init_16 : decode cX2_init 16 = .ok (.putfield 16, 3) := by decide +kernel
theorem dX2_init_19 : decode cX2_init 19 = .ok (.aload_n 0, 1) := by decide +kernel
theorem dX2_init_20 : decode cX2_init 20 = .ok (.aload 4, 2) := by decide +kernel
theorem dX2_init_22 : decode cX2_init 22 = .ok (.putfield 19, 3) := by decide +kernel
theorem dX2_init_25 : decode cX2_init 25 = .ok (.aload_n 0, 1) := by decide +kernel
theorem dX2_init_26 : decode cX2_init 26 = .ok (.iload_n 3, 1) := by decide +kernel
theorem dX2_init_27 : decode cX2_init 27 = .ok (.newarray .int, 2) := by decide +kernel
theorem dX2_init_29 : decode cX2_init 29 = .ok (.putfield 23, 3) := by decide +kernel
theorem dX2_init_32 : decode cX2_init 32 = .ok (.return_, 1) := by decide +kernel
theorem dX2_value_0 : decode cX2_value 0 = .ok (.iconst 0, 1) := by decide +kernel
theorem dX2_value_1 : decode cX2_value 1 = .ok (.istore 4, 2) := by decide +kernel
theorem dX2_value_3 : decode cX2_value 3 = .ok (.aload_n 0, 1) := by decide +kernel
theorem dX2_value_4 : decode cX2_value 4 = .ok (.getfield 19, 3) := by decide +kernel
theorem dX2_value_7 : decode cX2_value 7 = .ok (.astore 5, 2) := by decide +kernel
theorem dX2_value_9 : decode cX2_value 9 = .ok (.aload 5, 2) := by decide +kernel
theorem dX2_value_11 : decode cX2_value 11 = .ok (.arraylength, 1) := by decide +kernel
theorem dX2_value_12 : decode cX2_value 12 = .ok (.istore 6, 2) := by decide +kernel
theorem dX2_value_14 : decode cX2_value 14 = .ok (.iconst 0, 1) := by decide +kernel
theorem dX2_value_15 : decode cX2_value 15 = .ok (.istore 7, 2) := by decide +kernel
theorem dX2_value_17 : decode cX2_value 17 = .ok (.iload 7, 2) := by decide +kernel
theorem dX2_value_19 : decode cX2_value 19 = .ok (.iload 6, 2) := by decide +kernel
theorem dX2_value_21 : decode cX2_value 21 = .ok (.if_icmp .ge 157, 3) := by decide +kernel
theorem dX2_value_24 : decode cX2_value 24 = .ok (.aload 5, 2) := by decide +kernel
theorem dX2_value_26 : decode cX2_value 26 = .ok (.iload 7, 2) := by decide +kernel
theorem dX2_value_28 : decode cX2_value 28 = .ok (.iaload, 1) := by decide +kernel
theorem dX2_value_29 : decode cX2_value 29 = .ok (.istore 8, 2) := by decide +kernel
theorem dX2_value_31 : decode cX2_value 31 = .ok (.iload 8, 2) := by decide +kernel
theorem dX2_value_33 : decode cX2_value 33 = .ok (.sipush 10100, 3) := by decide +kernel
theorem dX2_value_36 : decode cX2_value 36 = .ok (.if_icmp .ge 51, 3) := by decide +kernel
theorem dX2_value_39 : decode cX2_value 39 = .ok (.iload 4, 2) := by decide +kernel
theorem dX2_value_41 : decode cX2_value 41 = .ok (.aload_n 0, 1) := by decide +kernel
theorem dX2_value_42 : decode cX2_value 42 = .ok (.getfield 23, 3) := by decide +kernel
theorem dX2_value_45 : decode cX2_value 45 = .ok (.arraylength, 1) := by decide +kernel
theorem dX2_value_46 : decode cX2_value 46 = .ok (.if_icmp .ge 126, 3) := by decide +kernel
theorem dX2_value_49 : decode cX2_value 49 = .ok (.aload_n 0, 1) := by decide +kernel
theorem dX2_value_50 : decode cX2_value 50 = .ok (.getfield 23, 3) := by decide +kernel
theorem dX2_value_53 : decode cX2_value 53 = .ok (.iload 4, 2) := by decide +kernel
theorem dX2_value_55 : decode cX2_value 55 = .ok (.iload 8, 2) := by decide +kernel
theorem dX2_value_57 : decode cX2_value 57 = .ok (.sipush 10000, 3) := by decide +kernel
theorem dX2_value_60 : decode cX2_value 60 = .ok (.if_icmp .ge 8, 3) := by decide +kernel
theorem dX2_value_63 : decode cX2_value 63 = .ok (.iload 8, 2) := by decide +kernel
theorem dX2_value_65 : decode cX2_value 65 = .ok (.goto 15, 3) := by decide +kernel
theorem dX2_value_68 : decode cX2_value 68 = .ok (.iload 8, 2) := by decide +kernel
theorem dX2_value_70 : decode cX2_value 70 = .ok (.sipush 10000, 3) := by decide +kernel
theorem dX2_value_73 : decode cX2_value 73 = .ok (.isub, 1) := by decide +kernel
theorem dX2_value_74 : decode cX2_value 74 = .ok (.iload_n 1, 1) := by decide +kernel
theorem dX2_value_75 : decode cX2_value 75 = .ok (.iload_n 2, 1) := by decide +kernel
theorem dX2_value_76 : decode cX2_value 76 = .ok (.iload_n 3, 1) := by decide +kernel
theorem dX2_value_77 : decode cX2_value 77 = .ok (.invokestatic 26, 3) := by decide +kernel
theorem dX2_value_80 : decode cX2_value 80 = .ok (.iastore, 1) := by decide +kernel
theorem dX2_value_81 : decode cX2_value 81 = .ok (.iinc 4 1, 3) := by decide +kernel
theorem dX2_value_84 : decode cX2_value 84 = .ok (.goto 88, 3) := by decide +kernel
theorem dX2_value_87 : decode cX2_value 87 = .ok (.iload 8, 2) := by decide +kernel
theorem dX2_value_89 : decode cX2_value 89 = .ok (.sipush 10133, 3) := by decide +kernel
theorem dX2_value_92 : decode cX2_value 92 = .ok (.if_icmp .ne 37, 3) := by decide +kernel
theorem dX2_value_95 : decode cX2_value 95 = .ok (.iload 4, 2) := by decide +kernel
theorem dX2_value_97 : decode cX2_value 97 = .ok (.ifCond .le 75, 3) := by decide +kernel
theorem dX2_value_100 : decode cX2_value 100 = .ok (.aload_n 0, 1) := by decide +kernel
theorem dX2_value_101 : decode cX2_value 101 = .ok (.getfield 23, 3) := by decide +kernel
theorem dX2_value_104 : decode cX2_value 104 = .ok (.iload 4, 2) := by decide +kernel
theorem dX2_value_106 : decode cX2_value 106 = .ok (.iconst 1, 1) := by decide +kernel
theorem dX2_value_107 : decode cX2_value 107 = .ok (.isub, 1) := by decide +kernel
theorem dX2_value_108 : decode cX2_value 108 = .ok (.aload_n 0, 1) := by decide +kernel
theorem dX2_value_109 : decode cX2_value 109 = .ok (.getfield 23, 3) := by decide +kernel
theorem dX2_value_112 : decode cX2_value 112 = .ok (.iload 4, 2) := by decide +kernel
theorem dX2_value_114 : decode cX2_value 114 = .ok (.iconst 1, 1) := by decide +kernel
theorem dX2_value_115 : decode cX2_value 115 = .ok (.isub, 1) := by decide +kernel
theorem dX2_value_116 : decode cX2_value 116 = .ok (.iaload, 1) := by decide +kernel
theorem dX2_value_117 : decode cX2_value 117 = .ok (.ifCond .ne 7, 3) := by decide +kernel
theorem dX2_value_120 : decode cX2_value 120 = .ok (.iconst 1, 1) := by decide +kernel
theorem dX2_value_121 : decode cX2_value 121 = .ok (.goto 4, 3) := by decide +kernel
theorem dX2_value_124 : decode cX2_value 124 = .ok (.iconst 0, 1) := by decide +kernel
theorem dX2_value_125 : decode cX2_value 125 = .ok (.iastore, 1) := by decide +kernel
theorem dX2_value_126 : decode cX2_value 126 = .ok (.goto 46, 3) := by decide +kernel
theorem dX2_value_129 : decode cX2_value 129 = .ok (.iload 4, 2) := by decide +kernel
theorem dX2_value_131 : decode cX2_value 131 = .ok (.iconst 1, 1) := by decide +kernel
theorem dX2_value_132 : decode cX2_value 132 = .ok (.if_icmp .le 40, 3) := by decide +kernel
theorem dX2_value_135 : decode cX2_value 135 = .ok (.iinc 4 (-1), 3) := by decide +kernel
theorem dX2_value_138 : decode cX2_value 138 = .ok (.aload_n 0, 1) := by decide +kernel
theorem dX2_value_139 : decode cX2_value 139 = .ok (.getfield 23, 3) := by decide +kernel
theorem dX2_value_142 : decode cX2_value 142 = .ok (.iload 4, 2) := by decide +kernel
theorem dX2_value_144 : decode cX2_value 144 = .ok (.iconst 1, 1) := by decide +kernel
theorem dX2_value_145 : decode cX2_value 145 = .ok (.isub, 1) := by decide +kernel
theorem dX2_value_146 : decode cX2_value 146 = .ok (.iload 8, 2) := by decide +kernel
theorem dX2_value_148 : decode cX2_value 148 = .ok (.sipush 10100, 3) := by decide +kernel
theorem dX2_value_151 : decode cX2_value 151 = .ok (.isub, 1) := by decide +kernel
theorem dX2_value_152 : decode cX2_value 152 = .ok (.aload_n 0, 1) := by decide +kernel
theorem dX2_value_153 : decode cX2_value 153 = .ok (.getfield 23, 3) := by decide +kernel
theorem dX2_value_156 : decode cX2_value 156 = .ok (.iload 4, 2) := by decide +kernel
theorem dX2_value_158 : decode cX2_value 158 = .ok (.iconst 1, 1) := by decide +kernel
theorem dX2_value_159 : decode cX2_value 159 = .ok (.isub, 1) := by decide +kernel
theorem dX2_value_160 : decode cX2_value 160 = .ok (.iaload, 1) := by decide +kernel
theorem dX2_value_161 : decode cX2_value 161 = .ok (.aload_n 0, 1) := by decide +kernel
theorem dX2_value_162 : decode cX2_value 162 = .ok (.getfield 23, 3) := by decide +kernel
theorem dX2_value_165 : decode cX2_value 165 = .ok (.iload 4, 2) := by decide +kernel
theorem dX2_value_167 : decode cX2_value 167 = .ok (.iaload, 1) := by decide +kernel
theorem dX2_value_168 : decode cX2_value 168 = .ok (.invokestatic 30, 3) := by decide +kernel
theorem dX2_value_171 : decode cX2_value 171 = .ok (.iastore, 1) := by decide +kernel
theorem dX2_value_172 : decode cX2_value 172 = .ok (.iinc 7 1, 3) := by decide +kernel
theorem dX2_value_175 : decode cX2_value 175 = .ok (.goto (-158), 3) := by decide +kernel
theorem dX2_value_178 : decode cX2_value 178 = .ok (.iload 4, 2) := by decide +kernel
theorem dX2_value_180 : decode cX2_value 180 = .ok (.ifCond .le 15, 3) := by decide +kernel
theorem dX2_value_183 : decode cX2_value 183 = .ok (.aload_n 0, 1) := by decide +kernel
theorem dX2_value_184 : decode cX2_value 184 = .ok (.getfield 23, 3) := by decide +kernel
theorem dX2_value_187 : decode cX2_value 187 = .ok (.iload 4, 2) := by decide +kernel
theorem dX2_value_189 : decode cX2_value 189 = .ok (.iconst 1, 1) := by decide +kernel
theorem dX2_value_190 : decode cX2_value 190 = .ok (.isub, 1) := by decide +kernel
theorem dX2_value_191 : decode cX2_value 191 = .ok (.iaload, 1) := by decide +kernel
theorem dX2_value_192 : decode cX2_value 192 = .ok (.goto 4, 3) := by decide +kernel
theorem dX2_value_195 : decode cX2_value 195 = .ok (.iconst 0, 1) := by decide +kernel
theorem dX2_value_196 : decode cX2_value 196 = .ok (.ireturn, 1) := by decide +kernel
theorem dX2_named_0 : decode cX2_named 0 = .ok (.iload_n 0, 1) := by decide +kernel
theorem dX2_named_1 : decode cX2_named 1 = .ok (.ifCond .ne 7, 3) := by decide +kernel
theorem dX2_named_4 : decode cX2_named 4 = .ok (.iload_n 1, 1) := by decide +kernel
theorem dX2_named_5 : decode cX2_named 5 = .ok (.goto 13, 3) := by decide +kernel
theorem dX2_named_8 : decode cX2_named 8 = .ok (.iload_n 0, 1) := by decide +kernel
theorem dX2_named_9 : decode cX2_named 9 = .ok (.iconst 1, 1) := by decide +kernel
theorem dX2_named_10 : decode cX2_named 10 = .ok (.if_icmp .ne 7, 3) := by decide +kernel
theorem dX2_named_13 : decode cX2_named 13 = .ok (.iload_n 2, 1) := by decide +kernel
theorem dX2_named_14 : decode cX2_named 14 = .ok (.goto 4, 3) := by decide +kernel
theorem dX2_named_17 : decode cX2_named 17 = .ok (.iload_n 3, 1) := by decide +kernel
theorem dX2_named_18 : decode cX2_named 18 = .ok (.ireturn, 1) := by decide +kernel
theorem dX2_joined_0 : decode cX2_joined 0 = .ok (.iload_n 0, 1) := by decide +kernel
theorem dX2_joined_1 : decode cX2_joined 1 = .ok (.lookupswitch 148 #[(38, 89), (42, 144), (43, 136), (45, 140), (60, 103), (61, 114), (62, 125), (124, 75)], 75) := by decide +kernel
theorem dX2_joined_76 : decode cX2_joined 76 = .ok (.iload_n 1, 1) := by decide +kernel
theorem dX2_joined_77 : decode cX2_joined 77 = .ok (.ifCond .ne 7, 3) := by decide +kernel
theorem dX2_joined_80 : decode cX2_joined 80 = .ok (.iload_n 2, 1) := by decide +kernel
theorem dX2_joined_81 : decode cX2_joined 81 = .ok (.ifCond .eq 7, 3) := by decide +kernel
theorem dX2_joined_84 : decode cX2_joined 84 = .ok (.iconst 1, 1) := by decide +kernel
theorem dX2_joined_85 : decode cX2_joined 85 = .ok (.goto 4, 3) := by decide +kernel
theorem dX2_joined_88 : decode cX2_joined 88 = .ok (.iconst 0, 1) := by decide +kernel
theorem dX2_joined_89 : decode cX2_joined 89 = .ok (.ireturn, 1) := by decide +kernel
theorem dX2_joined_90 : decode cX2_joined 90 = .ok (.iload_n 1, 1) := by decide +kernel
theorem dX2_joined_91 : decode cX2_joined 91 = .ok (.ifCond .eq 11, 3) := by decide +kernel
theorem dX2_joined_94 : decode cX2_joined 94 = .ok (.iload_n 2, 1) := by decide +kernel
theorem dX2_joined_95 : decode cX2_joined 95 = .ok (.ifCond .eq 7, 3) := by decide +kernel
theorem dX2_joined_98 : decode cX2_joined 98 = .ok (.iconst 1, 1) := by decide +kernel
theorem dX2_joined_99 : decode cX2_joined 99 = .ok (.goto 4, 3) := by decide +kernel
theorem dX2_joined_102 : decode cX2_joined 102 = .ok (.iconst 0, 1) := by decide +kernel
theorem dX2_joined_103 : decode cX2_joined 103 = .ok (.ireturn, 1) := by decide +kernel
theorem dX2_joined_104 : decode cX2_joined 104 = .ok (.iload_n 1, 1) := by decide +kernel
theorem dX2_joined_105 : decode cX2_joined 105 = .ok (.iload_n 2, 1) := by decide +kernel
theorem dX2_joined_106 : decode cX2_joined 106 = .ok (.if_icmp .ge 7, 3) := by decide +kernel
theorem dX2_joined_109 : decode cX2_joined 109 = .ok (.iconst 1, 1) := by decide +kernel
theorem dX2_joined_110 : decode cX2_joined 110 = .ok (.goto 4, 3) := by decide +kernel
theorem dX2_joined_113 : decode cX2_joined 113 = .ok (.iconst 0, 1) := by decide +kernel
theorem dX2_joined_114 : decode cX2_joined 114 = .ok (.ireturn, 1) := by decide +kernel
theorem dX2_joined_115 : decode cX2_joined 115 = .ok (.iload_n 1, 1) := by decide +kernel
theorem dX2_joined_116 : decode cX2_joined 116 = .ok (.iload_n 2, 1) := by decide +kernel
theorem dX2_joined_117 : decode cX2_joined 117 = .ok (.if_icmp .ne 7, 3) := by decide +kernel
theorem dX2_joined_120 : decode cX2_joined 120 = .ok (.iconst 1, 1) := by decide +kernel
theorem dX2_joined_121 : decode cX2_joined 121 = .ok (.goto 4, 3) := by decide +kernel
theorem dX2_joined_124 : decode cX2_joined 124 = .ok (.iconst 0, 1) := by decide +kernel
theorem dX2_joined_125 : decode cX2_joined 125 = .ok (.ireturn, 1) := by decide +kernel
theorem dX2_joined_126 : decode cX2_joined 126 = .ok (.iload_n 1, 1) := by decide +kernel
theorem dX2_joined_127 : decode cX2_joined 127 = .ok (.iload_n 2, 1) := by decide +kernel
theorem dX2_joined_128 : decode cX2_joined 128 = .ok (.if_icmp .le 7, 3) := by decide +kernel
theorem dX2_joined_131 : decode cX2_joined 131 = .ok (.iconst 1, 1) := by decide +kernel
theorem dX2_joined_132 : decode cX2_joined 132 = .ok (.goto 4, 3) := by decide +kernel
theorem dX2_joined_135 : decode cX2_joined 135 = .ok (.iconst 0, 1) := by decide +kernel
theorem dX2_joined_136 : decode cX2_joined 136 = .ok (.ireturn, 1) := by decide +kernel
theorem dX2_joined_137 : decode cX2_joined 137 = .ok (.iload_n 1, 1) := by decide +kernel
theorem dX2_joined_138 : decode cX2_joined 138 = .ok (.iload_n 2, 1) := by decide +kernel
theorem dX2_joined_139 : decode cX2_joined 139 = .ok (.iadd, 1) := by decide +kernel
theorem dX2_joined_140 : decode cX2_joined 140 = .ok (.ireturn, 1) := by decide +kernel
theorem dX2_joined_141 : decode cX2_joined 141 = .ok (.iload_n 1, 1) := by decide +kernel
theorem dX2_joined_142 : decode cX2_joined 142 = .ok (.iload_n 2, 1) := by decide +kernel
theorem dX2_joined_143 : decode cX2_joined 143 = .ok (.isub, 1) := by decide +kernel
theorem dX2_joined_144 : decode cX2_joined 144 = .ok (.ireturn, 1) := by decide +kernel
theorem dX2_joined_145 : decode cX2_joined 145 = .ok (.iload_n 1, 1) := by decide +kernel
theorem dX2_joined_146 : decode cX2_joined 146 = .ok (.iload_n 2, 1) := by decide +kernel
theorem dX2_joined_147 : decode cX2_joined 147 = .ok (.imul, 1) := by decide +kernel
theorem dX2_joined_148 : decode cX2_joined 148 = .ok (.ireturn, 1) := by decide +kernel
theorem dX2_joined_149 : decode cX2_joined 149 = .ok (.iload_n 2, 1) := by decide +kernel
theorem dX2_joined_150 : decode cX2_joined 150 = .ok (.ifCond .ne 7, 3) := by decide +kernel
theorem dX2_joined_153 : decode cX2_joined 153 = .ok (.iconst 0, 1) := by decide +kernel
theorem dX2_joined_154 : decode cX2_joined 154 = .ok (.goto 6, 3) := by decide +kernel
theorem dX2_joined_157 : decode cX2_joined 157 = .ok (.iload_n 1, 1) := by decide +kernel
theorem dX2_joined_158 : decode cX2_joined 158 = .ok (.iload_n 2, 1) := by decide +kernel
theorem dX2_joined_159 : decode cX2_joined 159 = .ok (.idiv, 1) := by decide +kernel
theorem dX2_joined_160 : decode cX2_joined 160 = .ok (.ireturn, 1) := by decide +kernel
theorem dX3_init_0 : decode cX3_init 0 = .ok (.aload_n 0, 1) := by decide +kernel
theorem dX3_init_1 : decode cX3_init 1 = .ok (.invokespecial 3, 3) := by decide +kernel
theorem dX3_init_4 : decode cX3_init 4 = .ok (.aload_n 0, 1) := by decide +kernel
theorem dX3_init_5 : decode cX3_init 5 = .ok (.iconst 5, 1) := by decide +kernel
theorem dX3_init_6 : decode cX3_init 6 = .ok (.anewarray 9, 3) := by decide +kernel
theorem dX3_init_9 : decode cX3_init 9 = .ok (.putfield 11, 3) := by decide +kernel
theorem dX3_init_12 : decode cX3_init 12 = .ok (.aload_n 0, 1) := by decide +kernel
theorem dX3_init_13 : decode cX3_init 13 = .ok (.iconst 0, 1) := by decide +kernel
theorem dX3_init_14 : decode cX3_init 14 = .ok (.putfield 17, 3) := by decide +kernel
theorem dX3_init_17 : decode cX3_init 17 = .ok (.aload_n 0, 1) := by decide +kernel
theorem dX3_init_18 : decode cX3_init 18 = .ok (.iconst 0, 1) := by decide +kernel
theorem dX3_init_19 : decode cX3_init 19 = .ok (.putfield 21, 3) := by decide +kernel
theorem dX3_init_22 : decode cX3_init 22 = .ok (.aload_n 0, 1) := by decide +kernel
theorem dX3_init_23 : decode cX3_init 23 = .ok (.iconst 0, 1) := by decide +kernel
theorem dX3_init_24 : decode cX3_init 24 = .ok (.putfield 25, 3) := by decide +kernel
theorem dX3_init_27 : decode cX3_init 27 = .ok (.aload_n 0, 1) := by decide +kernel
theorem dX3_init_28 : decode cX3_init 28 = .ok (.iconst 0, 1) := by decide +kernel
theorem dX3_init_29 : decode cX3_init 29 = .ok (.putfield 28, 3) := by decide +kernel
theorem dX3_init_32 : decode cX3_init 32 = .ok (.iconst 0, 1) := by decide +kernel
theorem dX3_init_33 : decode cX3_init 33 = .ok (.istore_n 1, 1) := by decide +kernel
theorem dX3_init_34 : decode cX3_init 34 = .ok (.iload_n 1, 1) := by decide +kernel
theorem dX3_init_35 : decode cX3_init 35 = .ok (.iconst 5, 1) := by decide +kernel
theorem dX3_init_36 : decode cX3_init 36 = .ok (.if_icmp .ge 22, 3) := by decide +kernel
theorem dX3_init_39 : decode cX3_init 39 = .ok (.aload_n 0, 1) := by decide +kernel
theorem dX3_init_40 : decode cX3_init 40 = .ok (.getfield 11, 3) := by decide +kernel
theorem dX3_init_43 : decode cX3_init 43 = .ok (.iload_n 1, 1) := by decide +kernel
theorem dX3_init_44 : decode cX3_init 44 = .ok (.new 9, 3) := by decide +kernel
theorem dX3_init_47 : decode cX3_init 47 = .ok (.dup, 1) := by decide +kernel
theorem dX3_init_48 : decode cX3_init 48 = .ok (.invokespecial 31, 3) := by decide +kernel
theorem dX3_init_51 : decode cX3_init 51 = .ok (.aastore, 1) := by decide +kernel
theorem dX3_init_52 : decode cX3_init 52 = .ok (.iinc 1 1, 3) := by decide +kernel
theorem dX3_init_55 : decode cX3_init 55 = .ok (.goto (-21), 3) := by decide +kernel
theorem dX3_init_58 : decode cX3_init 58 = .ok (.return_, 1) := by decide +kernel
theorem dX3_thoughtOf_0 : decode cX3_thoughtOf 0 = .ok (.aload_n 0, 1) := by decide +kernel
theorem dX3_thoughtOf_1 : decode cX3_thoughtOf 1 = .ok (.getfield 11, 3) := by decide +kernel
theorem dX3_thoughtOf_4 : decode cX3_thoughtOf 4 = .ok (.iconst 0, 1) := by decide +kernel
theorem dX3_thoughtOf_5 : decode cX3_thoughtOf 5 = .ok (.aaload, 1) := by decide +kernel
theorem dX3_thoughtOf_6 : decode cX3_thoughtOf 6 = .ok (.aload_n 1, 1) := by decide +kernel
theorem dX3_thoughtOf_7 : decode cX3_thoughtOf 7 = .ok (.invokevirtual 32, 3) := by decide +kernel
theorem dX3_thoughtOf_10 : decode cX3_thoughtOf 10 = .ok (.aload_n 0, 1) := by decide +kernel
theorem dX3_thoughtOf_11 : decode cX3_thoughtOf 11 = .ok (.getfield 11, 3) := by decide +kernel
theorem dX3_thoughtOf_14 : decode cX3_thoughtOf 14 = .ok (.iconst 0, 1) := by decide +kernel
theorem dX3_thoughtOf_15 : decode cX3_thoughtOf 15 = .ok (.aaload, 1) := by decide +kernel
theorem dX3_thoughtOf_16 : decode cX3_thoughtOf 16 = .ok (.areturn, 1) := by decide +kernel
theorem dX3_search_0 : decode cX3_search 0 = .ok (.aload_n 0, 1) := by decide +kernel
theorem dX3_search_1 : decode cX3_search 1 = .ok (.iconst 0, 1) := by decide +kernel
theorem dX3_search_2 : decode cX3_search 2 = .ok (.putfield 17, 3) := by decide +kernel
theorem dX3_search_5 : decode cX3_search 5 = .ok (.aload_n 0, 1) := by decide +kernel
theorem dX3_search_6 : decode cX3_search 6 = .ok (.aload_n 1, 1) := by decide +kernel
theorem dX3_search_7 : decode cX3_search 7 = .ok (.iload_n 2, 1) := by decide +kernel
theorem dX3_search_8 : decode cX3_search 8 = .ok (.iconst 5, 1) := by decide +kernel
theorem dX3_search_9 : decode cX3_search 9 = .ok (.invokestatic 36, 3) := by decide +kernel
theorem dX3_search_12 : decode cX3_search 12 = .ok (.iconst 0, 1) := by decide +kernel
theorem dX3_search_13 : decode cX3_search 13 = .ok (.iconst 0, 1) := by decide +kernel
theorem dX3_search_14 : decode cX3_search 14 = .ok (.invokestatic 42, 3) := by decide +kernel
theorem dX3_search_17 : decode cX3_search 17 = .ok (.return_, 1) := by decide +kernel
theorem dX3_branch_0 : decode cX3_branch 0 = .ok (.iload_n 3, 1) := by decide +kernel
theorem dX3_branch_1 : decode cX3_branch 1 = .ok (.iload_n 2, 1) := by decide +kernel
theorem dX3_branch_2 : decode cX3_branch 2 = .ok (.if_icmp .ge 8, 3) := by decide +kernel
theorem dX3_branch_5 : decode cX3_branch 5 = .ok (.iload_n 3, 1) := by decide +kernel
theorem dX3_branch_6 : decode cX3_branch 6 = .ok (.iconst 5, 1) := by decide +kernel
theorem dX3_branch_7 : decode cX3_branch 7 = .ok (.if_icmp .lt 11, 3) := by decide +kernel
theorem dX3_branch_10 : decode cX3_branch 10 = .ok (.aload_n 0, 1) := by decide +kernel
theorem dX3_branch_11 : decode cX3_branch 11 = .ok (.aload_n 1, 1) := by decide +kernel
theorem dX3_branch_12 : decode cX3_branch 12 = .ok (.iload 4, 2) := by decide +kernel
theorem dX3_branch_14 : decode cX3_branch 14 = .ok (.invokevirtual 46, 3) := by decide +kernel
theorem dX3_branch_17 : decode cX3_branch 17 = .ok (.return_, 1) := by decide +kernel
theorem dX3_branch_18 : decode cX3_branch 18 = .ok (.aload_n 0, 1) := by decide +kernel
theorem dX3_branch_19 : decode cX3_branch 19 = .ok (.getfield 11, 3) := by decide +kernel
theorem dX3_branch_22 : decode cX3_branch 22 = .ok (.iload_n 3, 1) := by decide +kernel
theorem dX3_branch_23 : decode cX3_branch 23 = .ok (.aaload, 1) := by decide +kernel
theorem dX3_branch_24 : decode cX3_branch 24 = .ok (.astore 5, 2) := by decide +kernel
theorem dX3_branch_26 : decode cX3_branch 26 = .ok (.iconst (-1), 1) := by decide +kernel
theorem dX3_branch_27 : decode cX3_branch 27 = .ok (.istore 6, 2) := by decide +kernel
theorem dX3_branch_29 : decode cX3_branch 29 = .ok (.iload 6, 2) := by decide +kernel
theorem dX3_branch_31 : decode cX3_branch 31 = .ok (.iconst 1, 1) := by decide +kernel
theorem dX3_branch_32 : decode cX3_branch 32 = .ok (.if_icmp .gt 47, 3) := by decide +kernel
theorem dX3_branch_35 : decode cX3_branch 35 = .ok (.aload 5, 2) := by decide +kernel
theorem dX3_branch_37 : decode cX3_branch 37 = .ok (.aload_n 1, 1) := by decide +kernel
theorem dX3_branch_38 : decode cX3_branch 38 = .ok (.invokevirtual 32, 3) := by decide +kernel
theorem dX3_branch_41 : decode cX3_branch 41 = .ok (.aload 5, 2) := by decide +kernel
theorem dX3_branch_43 : decode cX3_branch 43 = .ok (.iload 6, 2) := by decide +kernel
theorem dX3_branch_45 : decode cX3_branch 45 = .ok (.putfield 50, 3) := by decide +kernel
theorem dX3_branch_48 : decode cX3_branch 48 = .ok (.aload 5, 2) := by decide +kernel
theorem dX3_branch_50 : decode cX3_branch 50 = .ok (.invokevirtual 53, 3) := by decide +kernel
theorem dX3_branch_53 : decode cX3_branch 53 = .ok (.pop, 1) := by decide +kernel
theorem dX3_branch_54 : decode cX3_branch 54 = .ok (.aload_n 0, 1) := by decide +kernel
theorem dX3_branch_55 : decode cX3_branch 55 = .ok (.aload 5, 2) := by decide +kernel
theorem dX3_branch_57 : decode cX3_branch 57 = .ok (.iload_n 2, 1) := by decide +kernel
theorem dX3_branch_58 : decode cX3_branch 58 = .ok (.iload_n 3, 1) := by decide +kernel
theorem dX3_branch_59 : decode cX3_branch 59 = .ok (.iconst 1, 1) := by decide +kernel
theorem dX3_branch_60 : decode cX3_branch 60 = .ok (.iadd, 1) := by decide +kernel
theorem dX3_branch_61 : decode cX3_branch 61 = .ok (.iload 4, 2) := by decide +kernel
theorem dX3_branch_63 : decode cX3_branch 63 = .ok (.iconst 3, 1) := by decide +kernel
theorem dX3_branch_64 : decode cX3_branch 64 = .ok (.imul, 1) := by decide +kernel
theorem dX3_branch_65 : decode cX3_branch 65 = .ok (.iload 6, 2) := by decide +kernel
theorem dX3_branch_67 : decode cX3_branch 67 = .ok (.iadd, 1) := by decide +kernel
theorem dX3_branch_68 : decode cX3_branch 68 = .ok (.iconst 1, 1) := by decide +kernel
theorem dX3_branch_69 : decode cX3_branch 69 = .ok (.iadd, 1) := by decide +kernel
theorem dX3_branch_70 : decode cX3_branch 70 = .ok (.invokestatic 42, 3) := by decide +kernel
theorem dX3_branch_73 : decode cX3_branch 73 = .ok (.iinc 6 1, 3) := by decide +kernel
theorem dX3_branch_76 : decode cX3_branch 76 = .ok (.goto (-47), 3) := by decide +kernel
theorem dX3_branch_79 : decode cX3_branch 79 = .ok (.return_, 1) := by decide +kernel
theorem dX3_weigh_0 : decode cX3_weigh 0 = .ok (.aload_n 1, 1) := by decide +kernel
theorem dX3_weigh_1 : decode cX3_weigh 1 = .ok (.getfield 57, 3) := by decide +kernel
theorem dX3_weigh_4 : decode cX3_weigh 4 = .ok (.invokevirtual 61, 3) := by decide +kernel
theorem dX3_weigh_7 : decode cX3_weigh 7 = .ok (.istore_n 3, 1) := by decide +kernel
theorem dX3_weigh_8 : decode cX3_weigh 8 = .ok (.aload_n 1, 1) := by decide +kernel
theorem dX3_weigh_9 : decode cX3_weigh 9 = .ok (.getfield 66, 3) := by decide +kernel
theorem dX3_weigh_12 : decode cX3_weigh 12 = .ok (.getfield 70, 3) := by decide +kernel
theorem dX3_weigh_15 : decode cX3_weigh 15 = .ok (.istore 4, 2) := by decide +kernel
theorem dX3_weigh_17 : decode cX3_weigh 17 = .ok (.iload_n 3, 1) := by decide +kernel
theorem dX3_weigh_18 : decode cX3_weigh 18 = .ok (.aload_n 0, 1) := by decide +kernel
theorem dX3_weigh_19 : decode cX3_weigh 19 = .ok (.getfield 21, 3) := by decide +kernel
theorem dX3_weigh_22 : decode cX3_weigh 22 = .ok (.if_icmp .lt 20, 3) := by decide +kernel
theorem dX3_weigh_25 : decode cX3_weigh 25 = .ok (.iload_n 3, 1) := by decide +kernel
theorem dX3_weigh_26 : decode cX3_weigh 26 = .ok (.aload_n 0, 1) := by decide +kernel
theorem dX3_weigh_27 : decode cX3_weigh 27 = .ok (.getfield 21, 3) := by decide +kernel
theorem dX3_weigh_30 : decode cX3_weigh 30 = .ok (.if_icmp .ne 16, 3) := by decide +kernel
theorem dX3_weigh_33 : decode cX3_weigh 33 = .ok (.iload 4, 2) := by decide +kernel
theorem dX3_weigh_35 : decode cX3_weigh 35 = .ok (.aload_n 0, 1) := by decide +kernel
theorem dX3_weigh_36 : decode cX3_weigh 36 = .ok (.getfield 25, 3) := by decide +kernel
theorem dX3_weigh_39 : decode cX3_weigh 39 = .ok (.if_icmp .le 7, 3) := by decide +kernel
theorem dX3_weigh_42 : decode cX3_weigh 42 = .ok (.iconst 1, 1) := by decide +kernel
theorem dX3_weigh_43 : decode cX3_weigh 43 = .ok (.goto 4, 3) := by decide +kernel
theorem dX3_weigh_46 : decode cX3_weigh 46 = .ok (.iconst 0, 1) := by decide +kernel
theorem dX3_weigh_47 : decode cX3_weigh 47 = .ok (.istore 5, 2) := by decide +kernel
theorem dX3_weigh_49 : decode cX3_weigh 49 = .ok (.aload_n 0, 1) := by decide +kernel
theorem dX3_weigh_50 : decode cX3_weigh 50 = .ok (.getfield 17, 3) := by decide +kernel
theorem dX3_weigh_53 : decode cX3_weigh 53 = .ok (.ifCond .eq 8, 3) := by decide +kernel
theorem dX3_weigh_56 : decode cX3_weigh 56 = .ok (.iload 5, 2) := by decide +kernel
theorem dX3_weigh_58 : decode cX3_weigh 58 = .ok (.ifCond .eq 24, 3) := by decide +kernel
theorem dX3_weigh_61 : decode cX3_weigh 61 = .ok (.aload_n 0, 1) := by decide +kernel
theorem dX3_weigh_62 : decode cX3_weigh 62 = .ok (.iconst 1, 1) := by decide +kernel
theorem dX3_weigh_63 : decode cX3_weigh 63 = .ok (.putfield 17, 3) := by decide +kernel
theorem dX3_weigh_66 : decode cX3_weigh 66 = .ok (.aload_n 0, 1) := by decide +kernel
theorem dX3_weigh_67 : decode cX3_weigh 67 = .ok (.iload_n 3, 1) := by decide +kernel
theorem dX3_weigh_68 : decode cX3_weigh 68 = .ok (.putfield 21, 3) := by decide +kernel
theorem dX3_weigh_71 : decode cX3_weigh 71 = .ok (.aload_n 0, 1) := by decide +kernel
theorem dX3_weigh_72 : decode cX3_weigh 72 = .ok (.iload 4, 2) := by decide +kernel
theorem dX3_weigh_74 : decode cX3_weigh 74 = .ok (.putfield 25, 3) := by decide +kernel
theorem dX3_weigh_77 : decode cX3_weigh 77 = .ok (.aload_n 0, 1) := by decide +kernel
theorem dX3_weigh_78 : decode cX3_weigh 78 = .ok (.iload_n 2, 1) := by decide +kernel
theorem dX3_weigh_79 : decode cX3_weigh 79 = .ok (.putfield 28, 3) := by decide +kernel
theorem dX3_weigh_82 : decode cX3_weigh 82 = .ok (.return_, 1) := by decide +kernel
theorem dX4_init_0 : decode cX4_init 0 = .ok (.aload_n 0, 1) := by decide +kernel
theorem dX4_init_1 : decode cX4_init 1 = .ok (.invokespecial 3, 3) := by decide +kernel
theorem dX4_init_4 : decode cX4_init 4 = .ok (.aload_n 0, 1) := by decide +kernel
theorem dX4_init_5 : decode cX4_init 5 = .ok (.bipush 96, 2) := by decide +kernel
theorem dX4_init_7 : decode cX4_init 7 = .ok (.newarray .int, 2) := by decide +kernel
theorem dX4_init_9 : decode cX4_init 9 = .ok (.putfield 9, 3) := by decide +kernel
theorem dX4_init_12 : decode cX4_init 12 = .ok (.aload_n 0, 1) := by decide +kernel
theorem dX4_init_13 : decode cX4_init 13 = .ok (.iconst 0, 1) := by decide +kernel
theorem dX4_init_14 : decode cX4_init 14 = .ok (.putfield 15, 3) := by decide +kernel
theorem dX4_init_17 : decode cX4_init 17 = .ok (.aload_n 0, 1) := by decide +kernel
theorem dX4_init_18 : decode cX4_init 18 = .ok (.iconst 0, 1) := by decide +kernel
theorem dX4_init_19 : decode cX4_init 19 = .ok (.putfield 19, 3) := by decide +kernel
theorem dX4_init_22 : decode cX4_init 22 = .ok (.aload_n 0, 1) := by decide +kernel
theorem dX4_init_23 : decode cX4_init 23 = .ok (.iconst 0, 1) := by decide +kernel
theorem dX4_init_24 : decode cX4_init 24 = .ok (.putfield 22, 3) := by decide +kernel
theorem dX4_init_27 : decode cX4_init 27 = .ok (.aload_n 0, 1) := by decide +kernel
theorem dX4_init_28 : decode cX4_init 28 = .ok (.aload_n 0, 1) := by decide +kernel
theorem dX4_init_29 : decode cX4_init 29 = .ok (.getfield 9, 3) := by decide +kernel
theorem dX4_init_32 : decode cX4_init 32 = .ok (.putfield 25, 3) := by decide +kernel
theorem dX4_init_35 : decode cX4_init 35 = .ok (.aload_n 0, 1) := by decide +kernel
theorem dX4_init_36 : decode cX4_init 36 = .ok (.iconst 0, 1) := by decide +kernel
theorem dX4_init_37 : decode cX4_init 37 = .ok (.putfield 28, 3) := by decide +kernel
theorem dX4_init_40 : decode cX4_init 40 = .ok (.aload_n 0, 1) := by decide +kernel
theorem dX4_init_41 : decode cX4_init 41 = .ok (.iconst 0, 1) := by decide +kernel
theorem dX4_init_42 : decode cX4_init 42 = .ok (.putfield 31, 3) := by decide +kernel
theorem dX4_init_45 : decode cX4_init 45 = .ok (.aload_n 0, 1) := by decide +kernel
theorem dX4_init_46 : decode cX4_init 46 = .ok (.iconst 0, 1) := by decide +kernel
theorem dX4_init_47 : decode cX4_init 47 = .ok (.putfield 34, 3) := by decide +kernel
theorem dX4_init_50 : decode cX4_init 50 = .ok (.aload_n 0, 1) := by decide +kernel
theorem dX4_init_51 : decode cX4_init 51 = .ok (.iconst 0, 1) := by decide +kernel
theorem dX4_init_52 : decode cX4_init 52 = .ok (.putfield 37, 3) := by decide +kernel
theorem dX4_init_55 : decode cX4_init 55 = .ok (.return_, 1) := by decide +kernel
theorem dX4_faultOf_0 : decode cX4_faultOf 0 = .ok (.aload_n 0, 1) := by decide +kernel
theorem dX4_faultOf_1 : decode cX4_faultOf 1 = .ok (.aload_n 1, 1) := by decide +kernel
theorem dX4_faultOf_2 : decode cX4_faultOf 2 = .ok (.getfield 40, 3) := by decide +kernel
theorem dX4_faultOf_5 : decode cX4_faultOf 5 = .ok (.putfield 25, 3) := by decide +kernel
theorem dX4_faultOf_8 : decode cX4_faultOf 8 = .ok (.aload_n 0, 1) := by decide +kernel
theorem dX4_faultOf_9 : decode cX4_faultOf 9 = .ok (.aload_n 1, 1) := by decide +kernel
theorem dX4_faultOf_10 : decode cX4_faultOf 10 = .ok (.getfield 43, 3) := by decide +kernel
theorem dX4_faultOf_13 : decode cX4_faultOf 13 = .ok (.aload_n 0, 1) := by decide +kernel
theorem dX4_faultOf_14 : decode cX4_faultOf 14 = .ok (.getfield 25, 3) := by decide +kernel
theorem dX4_faultOf_17 : decode cX4_faultOf 17 = .ok (.arraylength, 1) := by decide +kernel
theorem dX4_faultOf_18 : decode cX4_faultOf 18 = .ok (.invokestatic 44, 3) := by decide +kernel
theorem dX4_faultOf_21 : decode cX4_faultOf 21 = .ok (.putfield 28, 3) := by decide +kernel
theorem dX4_faultOf_24 : decode cX4_faultOf 24 = .ok (.aload_n 0, 1) := by decide +kernel
theorem dX4_faultOf_25 : decode cX4_faultOf 25 = .ok (.iconst 0, 1) := by decide +kernel
theorem dX4_faultOf_26 : decode cX4_faultOf 26 = .ok (.putfield 15, 3) := by decide +kernel
theorem dX4_faultOf_29 : decode cX4_faultOf 29 = .ok (.aload_n 0, 1) := by decide +kernel
theorem dX4_faultOf_30 : decode cX4_faultOf 30 = .ok (.iconst 0, 1) := by decide +kernel
theorem dX4_faultOf_31 : decode cX4_faultOf 31 = .ok (.putfield 19, 3) := by decide +kernel
theorem dX4_faultOf_34 : decode cX4_faultOf 34 = .ok (.aload_n 0, 1) := by decide +kernel
theorem dX4_faultOf_35 : decode cX4_faultOf 35 = .ok (.iconst 0, 1) := by decide +kernel
theorem dX4_faultOf_36 : decode cX4_faultOf 36 = .ok (.putfield 31, 3) := by decide +kernel
theorem dX4_faultOf_39 : decode cX4_faultOf 39 = .ok (.aload_n 0, 1) := by decide +kernel
theorem dX4_faultOf_40 : decode cX4_faultOf 40 = .ok (.iconst 0, 1) := by decide +kernel
theorem dX4_faultOf_41 : decode cX4_faultOf 41 = .ok (.putfield 37, 3) := by decide +kernel
theorem dX4_faultOf_44 : decode cX4_faultOf 44 = .ok (.aload_n 0, 1) := by decide +kernel
theorem dX4_faultOf_45 : decode cX4_faultOf 45 = .ok (.invokevirtual 50, 3) := by decide +kernel
theorem dX4_faultOf_48 : decode cX4_faultOf 48 = .ok (.aload_n 0, 1) := by decide +kernel
theorem dX4_faultOf_49 : decode cX4_faultOf 49 = .ok (.aload_n 0, 1) := by decide +kernel
theorem dX4_faultOf_50 : decode cX4_faultOf 50 = .ok (.invokevirtual 53, 3) := by decide +kernel
theorem dX4_faultOf_53 : decode cX4_faultOf 53 = .ok (.putfield 22, 3) := by decide +kernel
theorem dX4_faultOf_56 : decode cX4_faultOf 56 = .ok (.aload_n 0, 1) := by decide +kernel
theorem dX4_faultOf_57 : decode cX4_faultOf 57 = .ok (.getfield 22, 3) := by decide +kernel
theorem dX4_faultOf_60 : decode cX4_faultOf 60 = .ok (.ifCond .ge 8, 3) := by decide +kernel
theorem dX4_faultOf_63 : decode cX4_faultOf 63 = .ok (.aload_n 0, 1) := by decide +kernel
theorem dX4_faultOf_64 : decode cX4_faultOf 64 = .ok (.getfield 34, 3) := by decide +kernel
theorem dX4_faultOf_67 : decode cX4_faultOf 67 = .ok (.ireturn, 1) := by decide +kernel
theorem dX4_faultOf_68 : decode cX4_faultOf 68 = .ok (.aload_n 0, 1) := by decide +kernel
theorem dX4_faultOf_69 : decode cX4_faultOf 69 = .ok (.invokevirtual 50, 3) := by decide +kernel
theorem dX4_faultOf_72 : decode cX4_faultOf 72 = .ok (.aload_n 0, 1) := by decide +kernel
theorem dX4_faultOf_73 : decode cX4_faultOf 73 = .ok (.iconst 0, 1) := by decide +kernel
theorem dX4_faultOf_74 : decode cX4_faultOf 74 = .ok (.iconst 0, 1) := by decide +kernel
theorem dX4_faultOf_75 : decode cX4_faultOf 75 = .ok (.iconst 0, 1) := by decide +kernel
theorem dX4_faultOf_76 : decode cX4_faultOf 76 = .ok (.invokevirtual 57, 3) := by decide +kernel
theorem dX4_faultOf_79 : decode cX4_faultOf 79 = .ok (.ifCond .eq 14, 3) := by decide +kernel
theorem dX4_faultOf_82 : decode cX4_faultOf 82 = .ok (.aload_n 0, 1) := by decide +kernel
theorem dX4_faultOf_83 : decode cX4_faultOf 83 = .ok (.getfield 31, 3) := by decide +kernel
theorem dX4_faultOf_86 : decode cX4_faultOf 86 = .ok (.ifCond .ne 7, 3) := by decide +kernel
theorem dX4_faultOf_89 : decode cX4_faultOf 89 = .ok (.iconst (-1), 1) := by decide +kernel
theorem dX4_faultOf_90 : decode cX4_faultOf 90 = .ok (.goto 7, 3) := by decide +kernel
theorem dX4_faultOf_93 : decode cX4_faultOf 93 = .ok (.aload_n 0, 1) := by decide +kernel
theorem dX4_faultOf_94 : decode cX4_faultOf 94 = .ok (.getfield 34, 3) := by decide +kernel
theorem dX4_faultOf_97 : decode cX4_faultOf 97 = .ok (.ireturn, 1) := by decide +kernel
theorem dX4_lawNumbered_0 : decode cX4_lawNumbered 0 = .ok (.aload_n 0, 1) := by decide +kernel
theorem dX4_lawNumbered_1 : decode cX4_lawNumbered 1 = .ok (.getfield 15, 3) := by decide +kernel
theorem dX4_lawNumbered_4 : decode cX4_lawNumbered 4 = .ok (.newarray .int, 2) := by decide +kernel
theorem dX4_lawNumbered_6 : decode cX4_lawNumbered 6 = .ok (.astore_n 2, 1) := by decide +kernel
theorem dX4_lawNumbered_7 : decode cX4_lawNumbered 7 = .ok (.aload_n 0, 1) := by decide +kernel
theorem dX4_lawNumbered_8 : decode cX4_lawNumbered 8 = .ok (.getfield 9, 3) := by decide +kernel
theorem dX4_lawNumbered_11 : decode cX4_lawNumbered 11 = .ok (.iconst 0, 1) := by decide +kernel
theorem dX4_lawNumbered_12 : decode cX4_lawNumbered 12 = .ok (.aload_n 2, 1) := by decide +kernel
theorem dX4_lawNumbered_13 : decode cX4_lawNumbered 13 = .ok (.iconst 0, 1) := by decide +kernel
theorem dX4_lawNumbered_14 : decode cX4_lawNumbered 14 = .ok (.aload_n 0, 1) := by decide +kernel
theorem dX4_lawNumbered_15 : decode cX4_lawNumbered 15 = .ok (.getfield 15, 3) := by decide +kernel
theorem dX4_lawNumbered_18 : decode cX4_lawNumbered 18 = .ok (.invokestatic 61, 3) := by decide +kernel
theorem dX4_lawNumbered_21 : decode cX4_lawNumbered 21 = .ok (.new 67, 3) := by decide +kernel
theorem dX4_lawNumbered_24 : decode cX4_lawNumbered 24 = .ok (.dup, 1) := by decide +kernel
theorem dX4_lawNumbered_25 : decode cX4_lawNumbered 25 = .ok (.iload_n 1, 1) := by decide +kernel
theorem dX4_lawNumbered_26 : decode cX4_lawNumbered 26 = .ok (.aload_n 0, 1) := by decide +kernel
theorem dX4_lawNumbered_27 : decode cX4_lawNumbered 27 = .ok (.getfield 22, 3) := by decide +kernel
theorem dX4_lawNumbered_30 : decode cX4_lawNumbered 30 = .ok (.aload_n 0, 1) := by decide +kernel
theorem dX4_lawNumbered_31 : decode cX4_lawNumbered 31 = .ok (.getfield 19, 3) := by decide +kernel
theorem dX4_lawNumbered_34 : decode cX4_lawNumbered 34 = .ok (.aload_n 2, 1) := by decide +kernel
theorem dX4_lawNumbered_35 : decode cX4_lawNumbered 35 = .ok (.invokespecial 69, 3) := by decide +kernel
theorem dX4_lawNumbered_38 : decode cX4_lawNumbered 38 = .ok (.areturn, 1) := by decide +kernel
theorem dX4_next_0 : decode cX4_next 0 = .ok (.aload_n 0, 1) := by decide +kernel
theorem dX4_next_1 : decode cX4_next 1 = .ok (.getfield 31, 3) := by decide +kernel
theorem dX4_next_4 : decode cX4_next 4 = .ok (.iconst 1, 1) := by decide +kernel
theorem dX4_next_5 : decode cX4_next 5 = .ok (.if_icmp .eq 11, 3) := by decide +kernel
theorem dX4_next_8 : decode cX4_next 8 = .ok (.aload_n 0, 1) := by decide +kernel
theorem dX4_next_9 : decode cX4_next 9 = .ok (.getfield 31, 3) := by decide +kernel
theorem dX4_next_12 : decode cX4_next 12 = .ok (.iconst 2, 1) := by decide +kernel
theorem dX4_next_13 : decode cX4_next 13 = .ok (.if_icmp .ne 10, 3) := by decide +kernel
theorem dX4_next_16 : decode cX4_next 16 = .ok (.aload_n 0, 1) := by decide +kernel
theorem dX4_next_17 : decode cX4_next 17 = .ok (.getfield 37, 3) := by decide +kernel
theorem dX4_next_20 : decode cX4_next 20 = .ok (.goto 4, 3) := by decide +kernel
theorem dX4_next_23 : decode cX4_next 23 = .ok (.iconst (-1), 1) := by decide +kernel
theorem dX4_next_24 : decode cX4_next 24 = .ok (.istore_n 1, 1) := by decide +kernel
theorem dX4_next_25 : decode cX4_next 25 = .ok (.aload_n 0, 1) := by decide +kernel
theorem dX4_next_26 : decode cX4_next 26 = .ok (.aload_n 0, 1) := by decide +kernel
theorem dX4_next_27 : decode cX4_next 27 = .ok (.getfield 37, 3) := by decide +kernel
theorem dX4_next_30 : decode cX4_next 30 = .ok (.putfield 34, 3) := by decide +kernel
theorem dX4_next_33 : decode cX4_next 33 = .ok (.aload_n 0, 1) := by decide +kernel
theorem dX4_next_34 : decode cX4_next 34 = .ok (.getfield 34, 3) := by decide +kernel
theorem dX4_next_37 : decode cX4_next 37 = .ok (.aload_n 0, 1) := by decide +kernel
theorem dX4_next_38 : decode cX4_next 38 = .ok (.getfield 28, 3) := by decide +kernel
theorem dX4_next_41 : decode cX4_next 41 = .ok (.if_icmp .ge 30, 3) := by decide +kernel
theorem dX4_next_44 : decode cX4_next 44 = .ok (.aload_n 0, 1) := by decide +kernel
theorem dX4_next_45 : decode cX4_next 45 = .ok (.getfield 25, 3) := by decide +kernel
theorem dX4_next_48 : decode cX4_next 48 = .ok (.aload_n 0, 1) := by decide +kernel
theorem dX4_next_49 : decode cX4_next 49 = .ok (.getfield 34, 3) := by decide +kernel
theorem dX4_next_52 : decode cX4_next 52 = .ok (.iaload, 1) := by decide +kernel
theorem dX4_next_53 : decode cX4_next 53 = .ok (.bipush 32, 2) := by decide +kernel
theorem dX4_next_55 : decode cX4_next 55 = .ok (.if_icmp .ne 16, 3) := by decide +kernel
theorem dX4_next_58 : decode cX4_next 58 = .ok (.aload_n 0, 1) := by decide +kernel
theorem dX4_next_59 : decode cX4_next 59 = .ok (.dup, 1) := by decide +kernel
theorem dX4_next_60 : decode cX4_next 60 = .ok (.getfield 34, 3) := by decide +kernel
theorem dX4_next_63 : decode cX4_next 63 = .ok (.iconst 1, 1) := by decide +kernel
theorem dX4_next_64 : decode cX4_next 64 = .ok (.iadd, 1) := by decide +kernel
theorem dX4_next_65 : decode cX4_next 65 = .ok (.putfield 34, 3) := by decide +kernel
theorem dX4_next_68 : decode cX4_next 68 = .ok (.goto (-35), 3) := by decide +kernel
theorem dX4_next_71 : decode cX4_next 71 = .ok (.aload_n 0, 1) := by decide +kernel
theorem dX4_next_72 : decode cX4_next 72 = .ok (.aload_n 0, 1) := by decide +kernel
theorem dX4_next_73 : decode cX4_next 73 = .ok (.getfield 34, 3) := by decide +kernel
theorem dX4_next_76 : decode cX4_next 76 = .ok (.putfield 37, 3) := by decide +kernel
theorem dX4_next_79 : decode cX4_next 79 = .ok (.aload_n 0, 1) := by decide +kernel
theorem dX4_next_80 : decode cX4_next 80 = .ok (.getfield 34, 3) := by decide +kernel
theorem dX4_next_83 : decode cX4_next 83 = .ok (.aload_n 0, 1) := by decide +kernel
theorem dX4_next_84 : decode cX4_next 84 = .ok (.getfield 28, 3) := by decide +kernel
theorem dX4_next_87 : decode cX4_next 87 = .ok (.if_icmp .lt 9, 3) := by decide +kernel
theorem dX4_next_90 : decode cX4_next 90 = .ok (.aload_n 0, 1) := by decide +kernel
theorem dX4_next_91 : decode cX4_next 91 = .ok (.iconst 0, 1) := by decide +kernel
theorem dX4_next_92 : decode cX4_next 92 = .ok (.putfield 31, 3) := by decide +kernel
theorem dX4_next_95 : decode cX4_next 95 = .ok (.return_, 1) := by decide +kernel
theorem dX4_next_96 : decode cX4_next 96 = .ok (.aload_n 0, 1) := by decide +kernel
theorem dX4_next_97 : decode cX4_next 97 = .ok (.aload_n 0, 1) := by decide +kernel
theorem dX4_next_98 : decode cX4_next 98 = .ok (.getfield 25, 3) := by decide +kernel
theorem dX4_next_101 : decode cX4_next 101 = .ok (.aload_n 0, 1) := by decide +kernel
theorem dX4_next_102 : decode cX4_next 102 = .ok (.getfield 34, 3) := by decide +kernel
theorem dX4_next_105 : decode cX4_next 105 = .ok (.iaload, 1) := by decide +kernel
theorem dX4_next_106 : decode cX4_next 106 = .ok (.invokestatic 72, 3) := by decide +kernel
theorem dX4_next_109 : decode cX4_next 109 = .ok (.putfield 31, 3) := by decide +kernel
theorem dX4_next_112 : decode cX4_next 112 = .ok (.aload_n 0, 1) := by decide +kernel
theorem dX4_next_113 : decode cX4_next 113 = .ok (.dup, 1) := by decide +kernel
theorem dX4_next_114 : decode cX4_next 114 = .ok (.getfield 37, 3) := by decide +kernel
theorem dX4_next_117 : decode cX4_next 117 = .ok (.iconst 1, 1) := by decide +kernel
theorem dX4_next_118 : decode cX4_next 118 = .ok (.iadd, 1) := by decide +kernel
theorem dX4_next_119 : decode cX4_next 119 = .ok (.putfield 37, 3) := by decide +kernel
theorem dX4_next_122 : decode cX4_next 122 = .ok (.aload_n 0, 1) := by decide +kernel
theorem dX4_next_123 : decode cX4_next 123 = .ok (.getfield 31, 3) := by decide +kernel
theorem dX4_next_126 : decode cX4_next 126 = .ok (.iconst 3, 1) := by decide +kernel
theorem dX4_next_127 : decode cX4_next 127 = .ok (.if_icmp .ne 4, 3) := by decide +kernel
theorem dX4_next_130 : decode cX4_next 130 = .ok (.return_, 1) := by decide +kernel
theorem dX4_next_131 : decode cX4_next 131 = .ok (.aload_n 0, 1) := by decide +kernel
theorem dX4_next_132 : decode cX4_next 132 = .ok (.getfield 37, 3) := by decide +kernel
theorem dX4_next_135 : decode cX4_next 135 = .ok (.aload_n 0, 1) := by decide +kernel
theorem dX4_next_136 : decode cX4_next 136 = .ok (.getfield 28, 3) := by decide +kernel
theorem dX4_next_139 : decode cX4_next 139 = .ok (.if_icmp .ge 35, 3) := by decide +kernel
theorem dX4_next_142 : decode cX4_next 142 = .ok (.aload_n 0, 1) := by decide +kernel
theorem dX4_next_143 : decode cX4_next 143 = .ok (.getfield 25, 3) := by decide +kernel
theorem dX4_next_146 : decode cX4_next 146 = .ok (.aload_n 0, 1) := by decide +kernel
theorem dX4_next_147 : decode cX4_next 147 = .ok (.getfield 37, 3) := by decide +kernel
theorem dX4_next_150 : decode cX4_next 150 = .ok (.iaload, 1) := by decide +kernel
theorem dX4_next_151 : decode cX4_next 151 = .ok (.invokestatic 72, 3) := by decide +kernel
theorem dX4_next_154 : decode cX4_next 154 = .ok (.aload_n 0, 1) := by decide +kernel
theorem dX4_next_155 : decode cX4_next 155 = .ok (.getfield 31, 3) := by decide +kernel
theorem dX4_next_158 : decode cX4_next 158 = .ok (.if_icmp .ne 16, 3) := by decide +kernel
theorem dX4_next_161 : decode cX4_next 161 = .ok (.aload_n 0, 1) := by decide +kernel
theorem dX4_next_162 : decode cX4_next 162 = .ok (.dup, 1) := by decide +kernel
theorem dX4_next_163 : decode cX4_next 163 = .ok (.getfield 37, 3) := by decide +kernel
theorem dX4_next_166 : decode cX4_next 166 = .ok (.iconst 1, 1) := by decide +kernel
theorem dX4_next_167 : decode cX4_next 167 = .ok (.iadd, 1) := by decide +kernel
theorem dX4_next_168 : decode cX4_next 168 = .ok (.putfield 37, 3) := by decide +kernel
theorem dX4_next_171 : decode cX4_next 171 = .ok (.goto (-40), 3) := by decide +kernel
theorem dX4_next_174 : decode cX4_next 174 = .ok (.aload_n 0, 1) := by decide +kernel
theorem dX4_next_175 : decode cX4_next 175 = .ok (.getfield 34, 3) := by decide +kernel
theorem dX4_next_178 : decode cX4_next 178 = .ok (.iload_n 1, 1) := by decide +kernel
theorem dX4_next_179 : decode cX4_next 179 = .ok (.if_icmp .ne 8, 3) := by decide +kernel
theorem dX4_next_182 : decode cX4_next 182 = .ok (.aload_n 0, 1) := by decide +kernel
theorem dX4_next_183 : decode cX4_next 183 = .ok (.iconst 4, 1) := by decide +kernel
theorem dX4_next_184 : decode cX4_next 184 = .ok (.putfield 31, 3) := by decide +kernel
theorem dX4_next_187 : decode cX4_next 187 = .ok (.return_, 1) := by decide +kernel
theorem dX4_sortOf_0 : decode cX4_sortOf 0 = .ok (.iload_n 0, 1) := by decide +kernel
theorem dX4_sortOf_1 : decode cX4_sortOf 1 = .ok (.bipush 97, 2) := by decide +kernel
theorem dX4_sortOf_3 : decode cX4_sortOf 3 = .ok (.if_icmp .lt 11, 3) := by decide +kernel
theorem dX4_sortOf_6 : decode cX4_sortOf 6 = .ok (.iload_n 0, 1) := by decide +kernel
theorem dX4_sortOf_7 : decode cX4_sortOf 7 = .ok (.bipush 122, 2) := by decide +kernel
theorem dX4_sortOf_9 : decode cX4_sortOf 9 = .ok (.if_icmp .gt 5, 3) := by decide +kernel
theorem dX4_sortOf_12 : decode cX4_sortOf 12 = .ok (.iconst 1, 1) := by decide +kernel
theorem dX4_sortOf_13 : decode cX4_sortOf 13 = .ok (.ireturn, 1) := by decide +kernel
theorem dX4_sortOf_14 : decode cX4_sortOf 14 = .ok (.iload_n 0, 1) := by decide +kernel
theorem dX4_sortOf_15 : decode cX4_sortOf 15 = .ok (.bipush 48, 2) := by decide +kernel
theorem dX4_sortOf_17 : decode cX4_sortOf 17 = .ok (.if_icmp .lt 13, 3) := by decide +kernel
theorem dX4_sortOf_20 : decode cX4_sortOf 20 = .ok (.iload_n 0, 1) := by decide +kernel
theorem dX4_sortOf_21 : decode cX4_sortOf 21 = .ok (.bipush 57, 2) := by decide +kernel
theorem dX4_sortOf_23 : decode cX4_sortOf 23 = .ok (.if_icmp .gt 7, 3) := by decide +kernel
theorem dX4_sortOf_26 : decode cX4_sortOf 26 = .ok (.iconst 2, 1) := by decide +kernel
theorem dX4_sortOf_27 : decode cX4_sortOf 27 = .ok (.goto 4, 3) := by decide +kernel
theorem dX4_sortOf_30 : decode cX4_sortOf 30 = .ok (.iconst 3, 1) := by decide +kernel
theorem dX4_sortOf_31 : decode cX4_sortOf 31 = .ok (.ireturn, 1) := by decide +kernel
theorem dX4_byteAtHand_0 : decode cX4_byteAtHand 0 = .ok (.aload_n 0, 1) := by decide +kernel
theorem dX4_byteAtHand_1 : decode cX4_byteAtHand 1 = .ok (.getfield 34, 3) := by decide +kernel
theorem dX4_byteAtHand_4 : decode cX4_byteAtHand 4 = .ok (.ifCond .lt 26, 3) := by decide +kernel
theorem dX4_byteAtHand_7 : decode cX4_byteAtHand 7 = .ok (.aload_n 0, 1) := by decide +kernel
theorem dX4_byteAtHand_8 : decode cX4_byteAtHand 8 = .ok (.getfield 34, 3) := by decide +kernel
theorem dX4_byteAtHand_11 : decode cX4_byteAtHand 11 = .ok (.aload_n 0, 1) := by decide +kernel
theorem dX4_byteAtHand_12 : decode cX4_byteAtHand 12 = .ok (.getfield 28, 3) := by decide +kernel
theorem dX4_byteAtHand_15 : decode cX4_byteAtHand 15 = .ok (.if_icmp .ge 15, 3) := by decide +kernel
theorem dX4_byteAtHand_18 : decode cX4_byteAtHand 18 = .ok (.aload_n 0, 1) := by decide +kernel
theorem dX4_byteAtHand_19 : decode cX4_byteAtHand 19 = .ok (.getfield 25, 3) := by decide +kernel
theorem dX4_byteAtHand_22 : decode cX4_byteAtHand 22 = .ok (.aload_n 0, 1) := by decide +kernel
theorem dX4_byteAtHand_23 : decode cX4_byteAtHand 23 = .ok (.getfield 34, 3) := by decide +kernel
theorem dX4_byteAtHand_26 : decode cX4_byteAtHand 26 = .ok (.iaload, 1) := by decide +kernel
theorem dX4_byteAtHand_27 : decode cX4_byteAtHand 27 = .ok (.goto 4, 3) := by decide +kernel
theorem dX4_byteAtHand_30 : decode cX4_byteAtHand 30 = .ok (.iconst 0, 1) := by decide +kernel
theorem dX4_byteAtHand_31 : decode cX4_byteAtHand 31 = .ok (.ireturn, 1) := by decide +kernel
theorem dX4_isSign_0 : decode cX4_isSign 0 = .ok (.aload_n 0, 1) := by decide +kernel
theorem dX4_isSign_1 : decode cX4_isSign 1 = .ok (.getfield 31, 3) := by decide +kernel
theorem dX4_isSign_4 : decode cX4_isSign 4 = .ok (.iconst 3, 1) := by decide +kernel
theorem dX4_isSign_5 : decode cX4_isSign 5 = .ok (.if_icmp .ne 15, 3) := by decide +kernel
theorem dX4_isSign_8 : decode cX4_isSign 8 = .ok (.aload_n 0, 1) := by decide +kernel
theorem dX4_isSign_9 : decode cX4_isSign 9 = .ok (.invokevirtual 76, 3) := by decide +kernel
theorem dX4_isSign_12 : decode cX4_isSign 12 = .ok (.iload_n 1, 1) := by decide +kernel
theorem dX4_isSign_13 : decode cX4_isSign 13 = .ok (.if_icmp .ne 7, 3) := by decide +kernel
theorem dX4_isSign_16 : decode cX4_isSign 16 = .ok (.iconst 1, 1) := by decide +kernel
theorem dX4_isSign_17 : decode cX4_isSign 17 = .ok (.goto 4, 3) := by decide +kernel
theorem dX4_isSign_20 : decode cX4_isSign 20 = .ok (.iconst 0, 1) := by decide +kernel
theorem dX4_isSign_21 : decode cX4_isSign 21 = .ok (.ireturn, 1) := by decide +kernel
theorem dX4_keyAtHand_0 : decode cX4_keyAtHand 0 = .ok (.aload_n 0, 1) := by decide +kernel
theorem dX4_keyAtHand_1 : decode cX4_keyAtHand 1 = .ok (.getfield 31, 3) := by decide +kernel
theorem dX4_keyAtHand_4 : decode cX4_keyAtHand 4 = .ok (.iconst 1, 1) := by decide +kernel
theorem dX4_keyAtHand_5 : decode cX4_keyAtHand 5 = .ok (.if_icmp .ne 16, 3) := by decide +kernel
theorem dX4_keyAtHand_8 : decode cX4_keyAtHand 8 = .ok (.aload_n 0, 1) := by decide +kernel
theorem dX4_keyAtHand_9 : decode cX4_keyAtHand 9 = .ok (.getfield 37, 3) := by decide +kernel
theorem dX4_keyAtHand_12 : decode cX4_keyAtHand 12 = .ok (.aload_n 0, 1) := by decide +kernel
theorem dX4_keyAtHand_13 : decode cX4_keyAtHand 13 = .ok (.getfield 34, 3) := by decide +kernel
theorem dX4_keyAtHand_16 : decode cX4_keyAtHand 16 = .ok (.isub, 1) := by decide +kernel
theorem dX4_keyAtHand_17 : decode cX4_keyAtHand 17 = .ok (.iconst 4, 1) := by decide +kernel
theorem dX4_keyAtHand_18 : decode cX4_keyAtHand 18 = .ok (.if_icmp .eq 5, 3) := by decide +kernel
theorem dX4_keyAtHand_21 : decode cX4_keyAtHand 21 = .ok (.iconst (-1), 1) := by decide +kernel
theorem dX4_keyAtHand_22 : decode cX4_keyAtHand 22 = .ok (.ireturn, 1) := by decide +kernel
theorem dX4_keyAtHand_23 : decode cX4_keyAtHand 23 = .ok (.iconst 0, 1) := by decide +kernel
theorem dX4_keyAtHand_24 : decode cX4_keyAtHand 24 = .ok (.istore_n 1, 1) := by decide +kernel
theorem dX4_keyAtHand_25 : decode cX4_keyAtHand 25 = .ok (.iload_n 1, 1) := by decide +kernel
theorem dX4_keyAtHand_26 : decode cX4_keyAtHand 26 = .ok (.iconst 3, 1) := by decide +kernel
theorem dX4_keyAtHand_27 : decode cX4_keyAtHand 27 = .ok (.if_icmp .ge 64, 3) := by decide +kernel
theorem dX4_keyAtHand_30 : decode cX4_keyAtHand 30 = .ok (.iconst 1, 1) := by decide +kernel
theorem dX4_keyAtHand_31 : decode cX4_keyAtHand 31 = .ok (.istore_n 2, 1) := by decide +kernel
theorem dX4_keyAtHand_32 : decode cX4_keyAtHand 32 = .ok (.iconst 0, 1) := by decide +kernel
theorem dX4_keyAtHand_33 : decode cX4_keyAtHand 33 = .ok (.istore_n 3, 1) := by decide +kernel
theorem dX4_keyAtHand_34 : decode cX4_keyAtHand 34 = .ok (.iload_n 3, 1) := by decide +kernel
theorem dX4_keyAtHand_35 : decode cX4_keyAtHand 35 = .ok (.iconst 4, 1) := by decide +kernel
theorem dX4_keyAtHand_36 : decode cX4_keyAtHand 36 = .ok (.if_icmp .ge 43, 3) := by decide +kernel
theorem dX4_keyAtHand_39 : decode cX4_keyAtHand 39 = .ok (.iload_n 2, 1) := by decide +kernel
theorem dX4_keyAtHand_40 : decode cX4_keyAtHand 40 = .ok (.ifCond .eq 31, 3) := by decide +kernel
theorem dX4_keyAtHand_43 : decode cX4_keyAtHand 43 = .ok (.aload_n 0, 1) := by decide +kernel
theorem dX4_keyAtHand_44 : decode cX4_keyAtHand 44 = .ok (.getfield 25, 3) := by decide +kernel
theorem dX4_keyAtHand_47 : decode cX4_keyAtHand 47 = .ok (.aload_n 0, 1) := by decide +kernel
theorem dX4_keyAtHand_48 : decode cX4_keyAtHand 48 = .ok (.getfield 34, 3) := by decide +kernel
theorem dX4_keyAtHand_51 : decode cX4_keyAtHand 51 = .ok (.iload_n 3, 1) := by decide +kernel
theorem dX4_keyAtHand_52 : decode cX4_keyAtHand 52 = .ok (.iadd, 1) := by decide +kernel
theorem dX4_keyAtHand_53 : decode cX4_keyAtHand 53 = .ok (.iaload, 1) := by decide +kernel
theorem dX4_keyAtHand_54 : decode cX4_keyAtHand 54 = .ok (.ldc 79, 2) := by decide +kernel
theorem dX4_keyAtHand_56 : decode cX4_keyAtHand 56 = .ok (.iconst 4, 1) := by decide +kernel
theorem dX4_keyAtHand_57 : decode cX4_keyAtHand 57 = .ok (.iload_n 1, 1) := by decide +kernel
theorem dX4_keyAtHand_58 : decode cX4_keyAtHand 58 = .ok (.imul, 1) := by decide +kernel
theorem dX4_keyAtHand_59 : decode cX4_keyAtHand 59 = .ok (.iload_n 3, 1) := by decide +kernel
theorem dX4_keyAtHand_60 : decode cX4_keyAtHand 60 = .ok (.iadd, 1) := by decide +kernel
theorem dX4_keyAtHand_61 : decode cX4_keyAtHand 61 = .ok (.invokevirtual 81, 3) := by decide +kernel
theorem dX4_keyAtHand_64 : decode cX4_keyAtHand 64 = .ok (.if_icmp .ne 7, 3) := by decide +kernel
theorem dX4_keyAtHand_67 : decode cX4_keyAtHand 67 = .ok (.iconst 1, 1) := by decide +kernel
theorem dX4_keyAtHand_68 : decode cX4_keyAtHand 68 = .ok (.goto 4, 3) := by decide +kernel
theorem dX4_keyAtHand_71 : decode cX4_keyAtHand 71 = .ok (.iconst 0, 1) := by decide +kernel
theorem dX4_keyAtHand_72 : decode cX4_keyAtHand 72 = .ok (.istore_n 2, 1) := by decide +kernel
theorem dX4_keyAtHand_73 : decode cX4_keyAtHand 73 = .ok (.iinc 3 1, 3) := by decide +kernel
theorem dX4_keyAtHand_76 : decode cX4_keyAtHand 76 = .ok (.goto (-42), 3) := by decide +kernel
theorem dX4_keyAtHand_79 : decode cX4_keyAtHand 79 = .ok (.iload_n 2, 1) := by decide +kernel
theorem dX4_keyAtHand_80 : decode cX4_keyAtHand 80 = .ok (.ifCond .eq 5, 3) := by decide +kernel
theorem dX4_keyAtHand_83 : decode cX4_keyAtHand 83 = .ok (.iload_n 1, 1) := by decide +kernel
theorem dX4_keyAtHand_84 : decode cX4_keyAtHand 84 = .ok (.ireturn, 1) := by decide +kernel
theorem dX4_keyAtHand_85 : decode cX4_keyAtHand 85 = .ok (.iinc 1 1, 3) := by decide +kernel
theorem dX4_keyAtHand_88 : decode cX4_keyAtHand 88 = .ok (.goto (-63), 3) := by decide +kernel
theorem dX4_keyAtHand_91 : decode cX4_keyAtHand 91 = .ok (.iconst (-1), 1) := by decide +kernel
theorem dX4_keyAtHand_92 : decode cX4_keyAtHand 92 = .ok (.ireturn, 1) := by decide +kernel
theorem dX4_names_0 : decode cX4_names 0 = .ok (.iload_n 0, 1) := by decide +kernel
theorem dX4_names_1 : decode cX4_names 1 = .ok (.lookupswitch 33 #[(0, 27), (1, 30)], 27) := by decide +kernel
theorem dX4_names_28 : decode cX4_names 28 = .ok (.ldc 87, 2) := by decide +kernel
theorem dX4_names_30 : decode cX4_names 30 = .ok (.areturn, 1) := by decide +kernel
theorem dX4_names_31 : decode cX4_names 31 = .ok (.ldc 89, 2) := by decide +kernel
theorem dX4_names_33 : decode cX4_names 33 = .ok (.areturn, 1) := by decide +kernel
theorem dX4_names_34 : decode cX4_names 34 = .ok (.ldc 91, 2) := by decide +kernel
theorem dX4_names_36 : decode cX4_names 36 = .ok (.areturn, 1) := by decide +kernel
theorem dX4_levelAtHand_0 : decode cX4_levelAtHand 0 = .ok (.aload_n 0, 1) := by decide +kernel
theorem dX4_levelAtHand_1 : decode cX4_levelAtHand 1 = .ok (.getfield 31, 3) := by decide +kernel
theorem dX4_levelAtHand_4 : decode cX4_levelAtHand 4 = .ok (.iconst 3, 1) := by decide +kernel
theorem dX4_levelAtHand_5 : decode cX4_levelAtHand 5 = .ok (.if_icmp .eq 5, 3) := by decide +kernel
theorem dX4_levelAtHand_8 : decode cX4_levelAtHand 8 = .ok (.iconst (-1), 1) := by decide +kernel
theorem dX4_levelAtHand_9 : decode cX4_levelAtHand 9 = .ok (.ireturn, 1) := by decide +kernel
theorem dX4_levelAtHand_10 : decode cX4_levelAtHand 10 = .ok (.aload_n 0, 1) := by decide +kernel
theorem dX4_levelAtHand_11 : decode cX4_levelAtHand 11 = .ok (.invokevirtual 76, 3) := by decide +kernel
theorem dX4_levelAtHand_14 : decode cX4_levelAtHand 14 = .ok (.lookupswitch 92 #[(38, 84), (42, 90), (43, 88), (45, 88), (47, 90), (60, 86), (61, 86), (62, 86), (124, 82)], 82) := by decide +kernel
theorem dX4_levelAtHand_96 : decode cX4_levelAtHand 96 = .ok (.iconst 0, 1) := by decide +kernel
theorem dX4_levelAtHand_97 : decode cX4_levelAtHand 97 = .ok (.ireturn, 1) := by decide +kernel
theorem dX4_levelAtHand_98 : decode cX4_levelAtHand 98 = .ok (.iconst 1, 1) := by decide +kernel
theorem dX4_levelAtHand_99 : decode cX4_levelAtHand 99 = .ok (.ireturn, 1) := by decide +kernel
theorem dX4_levelAtHand_100 : decode cX4_levelAtHand 100 = .ok (.iconst 2, 1) := by decide +kernel
theorem dX4_levelAtHand_101 : decode cX4_levelAtHand 101 = .ok (.ireturn, 1) := by decide +kernel
theorem dX4_levelAtHand_102 : decode cX4_levelAtHand 102 = .ok (.iconst 3, 1) := by decide +kernel
theorem dX4_levelAtHand_103 : decode cX4_levelAtHand 103 = .ok (.ireturn, 1) := by decide +kernel
theorem dX4_levelAtHand_104 : decode cX4_levelAtHand 104 = .ok (.iconst 4, 1) := by decide +kernel
theorem dX4_levelAtHand_105 : decode cX4_levelAtHand 105 = .ok (.ireturn, 1) := by decide +kernel
theorem dX4_levelAtHand_106 : decode cX4_levelAtHand 106 = .ok (.iconst (-1), 1) := by decide +kernel
theorem dX4_levelAtHand_107 : decode cX4_levelAtHand 107 = .ok (.ireturn, 1) := by decide +kernel
theorem dX4_put_0 : decode cX4_put 0 = .ok (.aload_n 0, 1) := by decide +kernel
theorem dX4_put_1 : decode cX4_put 1 = .ok (.getfield 15, 3) := by decide +kernel
theorem dX4_put_4 : decode cX4_put 4 = .ok (.bipush 96, 2) := by decide +kernel
theorem dX4_put_6 : decode cX4_put 6 = .ok (.if_icmp .ge 23, 3) := by decide +kernel
theorem dX4_put_9 : decode cX4_put 9 = .ok (.aload_n 0, 1) := by decide +kernel
theorem dX4_put_10 : decode cX4_put 10 = .ok (.getfield 9, 3) := by decide +kernel
theorem dX4_put_13 : decode cX4_put 13 = .ok (.aload_n 0, 1) := by decide +kernel
theorem dX4_put_14 : decode cX4_put 14 = .ok (.getfield 15, 3) := by decide +kernel
theorem dX4_put_17 : decode cX4_put 17 = .ok (.iload_n 1, 1) := by decide +kernel
theorem dX4_put_18 : decode cX4_put 18 = .ok (.iastore, 1) := by decide +kernel
theorem dX4_put_19 : decode cX4_put 19 = .ok (.aload_n 0, 1) := by decide +kernel
theorem dX4_put_20 : decode cX4_put 20 = .ok (.dup, 1) := by decide +kernel
theorem dX4_put_21 : decode cX4_put 21 = .ok (.getfield 15, 3) := by decide +kernel
theorem dX4_put_24 : decode cX4_put 24 = .ok (.iconst 1, 1) := by decide +kernel
theorem dX4_put_25 : decode cX4_put 25 = .ok (.iadd, 1) := by decide +kernel
theorem dX4_put_26 : decode cX4_put 26 = .ok (.putfield 15, 3) := by decide +kernel
theorem dX4_put_29 : decode cX4_put 29 = .ok (.return_, 1) := by decide +kernel
theorem dX4_level_0 : decode cX4_level 0 = .ok (.iload_n 1, 1) := by decide +kernel
theorem dX4_level_1 : decode cX4_level 1 = .ok (.iconst 4, 1) := by decide +kernel
theorem dX4_level_2 : decode cX4_level 2 = .ok (.if_icmp .le 10, 3) := by decide +kernel
theorem dX4_level_5 : decode cX4_level 5 = .ok (.aload_n 0, 1) := by decide +kernel
theorem dX4_level_6 : decode cX4_level 6 = .ok (.iload_n 2, 1) := by decide +kernel
theorem dX4_level_7 : decode cX4_level 7 = .ok (.iload_n 3, 1) := by decide +kernel
theorem dX4_level_8 : decode cX4_level 8 = .ok (.invokevirtual 93, 3) := by decide +kernel
theorem dX4_level_11 : decode cX4_level 11 = .ok (.ireturn, 1) := by decide +kernel
theorem dX4_level_12 : decode cX4_level 12 = .ok (.aload_n 0, 1) := by decide +kernel
theorem dX4_level_13 : decode cX4_level 13 = .ok (.iload_n 1, 1) := by decide +kernel
theorem dX4_level_14 : decode cX4_level 14 = .ok (.iconst 1, 1) := by decide +kernel
theorem dX4_level_15 : decode cX4_level 15 = .ok (.iadd, 1) := by decide +kernel
theorem dX4_level_16 : decode cX4_level 16 = .ok (.iload_n 2, 1) := by decide +kernel
theorem dX4_level_17 : decode cX4_level 17 = .ok (.iload_n 3, 1) := by decide +kernel
theorem dX4_level_18 : decode cX4_level 18 = .ok (.invokevirtual 57, 3) := by decide +kernel
theorem dX4_level_21 : decode cX4_level 21 = .ok (.ifCond .ne 5, 3) := by decide +kernel
theorem dX4_level_24 : decode cX4_level 24 = .ok (.iconst 0, 1) := by decide +kernel
theorem dX4_level_25 : decode cX4_level 25 = .ok (.ireturn, 1) := by decide +kernel
theorem dX4_level_26 : decode cX4_level 26 = .ok (.iload_n 1, 1) := by decide +kernel
theorem dX4_level_27 : decode cX4_level 27 = .ok (.iconst 2, 1) := by decide +kernel
theorem dX4_level_28 : decode cX4_level 28 = .ok (.if_icmp .ne 7, 3) := by decide +kernel
theorem dX4_level_31 : decode cX4_level 31 = .ok (.iconst 1, 1) := by decide +kernel
theorem dX4_level_32 : decode cX4_level 32 = .ok (.goto 5, 3) := by decide +kernel
theorem dX4_level_35 : decode cX4_level 35 = .ok (.bipush 96, 2) := by decide +kernel
theorem dX4_level_37 : decode cX4_level 37 = .ok (.istore 4, 2) := by decide +kernel
theorem dX4_level_39 : decode cX4_level 39 = .ok (.iconst 0, 1) := by decide +kernel
theorem dX4_level_40 : decode cX4_level 40 = .ok (.istore 5, 2) := by decide +kernel
theorem dX4_level_42 : decode cX4_level 42 = .ok (.iload 5, 2) := by decide +kernel
theorem dX4_level_44 : decode cX4_level 44 = .ok (.iload 4, 2) := by decide +kernel
theorem dX4_level_46 : decode cX4_level 46 = .ok (.if_icmp .ge 51, 3) := by decide +kernel
theorem dX4_level_49 : decode cX4_level 49 = .ok (.aload_n 0, 1) := by decide +kernel
theorem dX4_level_50 : decode cX4_level 50 = .ok (.invokevirtual 97, 3) := by decide +kernel
theorem dX4_level_53 : decode cX4_level 53 = .ok (.iload_n 1, 1) := by decide +kernel
theorem dX4_level_54 : decode cX4_level 54 = .ok (.if_icmp .ne 43, 3) := by decide +kernel
theorem dX4_level_57 : decode cX4_level 57 = .ok (.aload_n 0, 1) := by decide +kernel
theorem dX4_level_58 : decode cX4_level 58 = .ok (.invokevirtual 76, 3) := by decide +kernel
theorem dX4_level_61 : decode cX4_level 61 = .ok (.istore 6, 2) := by decide +kernel
theorem dX4_level_63 : decode cX4_level 63 = .ok (.aload_n 0, 1) := by decide +kernel
theorem dX4_level_64 : decode cX4_level 64 = .ok (.invokevirtual 50, 3) := by decide +kernel
theorem dX4_level_67 : decode cX4_level 67 = .ok (.aload_n 0, 1) := by decide +kernel
theorem dX4_level_68 : decode cX4_level 68 = .ok (.iload_n 1, 1) := by decide +kernel
theorem dX4_level_69 : decode cX4_level 69 = .ok (.iconst 1, 1) := by decide +kernel
theorem dX4_level_70 : decode cX4_level 70 = .ok (.iadd, 1) := by decide +kernel
theorem dX4_level_71 : decode cX4_level 71 = .ok (.iload_n 2, 1) := by decide +kernel
theorem dX4_level_72 : decode cX4_level 72 = .ok (.iload_n 3, 1) := by decide +kernel
theorem dX4_level_73 : decode cX4_level 73 = .ok (.invokevirtual 57, 3) := by decide +kernel
theorem dX4_level_76 : decode cX4_level 76 = .ok (.ifCond .ne 5, 3) := by decide +kernel
theorem dX4_level_79 : decode cX4_level 79 = .ok (.iconst 0, 1) := by decide +kernel
theorem dX4_level_80 : decode cX4_level 80 = .ok (.ireturn, 1) := by decide +kernel
theorem dX4_level_81 : decode cX4_level 81 = .ok (.aload_n 0, 1) := by decide +kernel
theorem dX4_level_82 : decode cX4_level 82 = .ok (.sipush 10100, 3) := by decide +kernel
theorem dX4_level_85 : decode cX4_level 85 = .ok (.iload 6, 2) := by decide +kernel
theorem dX4_level_87 : decode cX4_level 87 = .ok (.iadd, 1) := by decide +kernel
theorem dX4_level_88 : decode cX4_level 88 = .ok (.invokevirtual 100, 3) := by decide +kernel
theorem dX4_level_91 : decode cX4_level 91 = .ok (.iinc 5 1, 3) := by decide +kernel
theorem dX4_level_94 : decode cX4_level 94 = .ok (.goto (-52), 3) := by decide +kernel
theorem dX4_level_97 : decode cX4_level 97 = .ok (.iconst 1, 1) := by decide +kernel
theorem dX4_level_98 : decode cX4_level 98 = .ok (.ireturn, 1) := by decide +kernel
theorem dX4_piece_0 : decode cX4_piece 0 = .ok (.aload_n 0, 1) := by decide +kernel
theorem dX4_piece_1 : decode cX4_piece 1 = .ok (.invokevirtual 104, 3) := by decide +kernel
theorem dX4_piece_4 : decode cX4_piece 4 = .ok (.istore_n 3, 1) := by decide +kernel
theorem dX4_piece_5 : decode cX4_piece 5 = .ok (.iload_n 3, 1) := by decide +kernel
theorem dX4_piece_6 : decode cX4_piece 6 = .ok (.ifCond .lt 24, 3) := by decide +kernel
theorem dX4_piece_9 : decode cX4_piece 9 = .ok (.aload_n 0, 1) := by decide +kernel
theorem dX4_piece_10 : decode cX4_piece 10 = .ok (.iload_n 3, 1) := by decide +kernel
theorem dX4_piece_11 : decode cX4_piece 11 = .ok (.invokevirtual 100, 3) := by decide +kernel
theorem dX4_piece_14 : decode cX4_piece 14 = .ok (.aload_n 0, 1) := by decide +kernel
theorem dX4_piece_15 : decode cX4_piece 15 = .ok (.dup, 1) := by decide +kernel
theorem dX4_piece_16 : decode cX4_piece 16 = .ok (.getfield 19, 3) := by decide +kernel
theorem dX4_piece_19 : decode cX4_piece 19 = .ok (.iconst 1, 1) := by decide +kernel
theorem dX4_piece_20 : decode cX4_piece 20 = .ok (.iadd, 1) := by decide +kernel
theorem dX4_piece_21 : decode cX4_piece 21 = .ok (.putfield 19, 3) := by decide +kernel
theorem dX4_piece_24 : decode cX4_piece 24 = .ok (.aload_n 0, 1) := by decide +kernel
theorem dX4_piece_25 : decode cX4_piece 25 = .ok (.invokevirtual 50, 3) := by decide +kernel
theorem dX4_piece_28 : decode cX4_piece 28 = .ok (.iconst 1, 1) := by decide +kernel
theorem dX4_piece_29 : decode cX4_piece 29 = .ok (.ireturn, 1) := by decide +kernel
theorem dX4_piece_30 : decode cX4_piece 30 = .ok (.aload_n 0, 1) := by decide +kernel
theorem dX4_piece_31 : decode cX4_piece 31 = .ok (.bipush 33, 2) := by decide +kernel
theorem dX4_piece_33 : decode cX4_piece 33 = .ok (.invokevirtual 107, 3) := by decide +kernel
theorem dX4_piece_36 : decode cX4_piece 36 = .ok (.ifCond .eq 35, 3) := by decide +kernel
theorem dX4_piece_39 : decode cX4_piece 39 = .ok (.iload_n 2, 1) := by decide +kernel
theorem dX4_piece_40 : decode cX4_piece 40 = .ok (.bipush 8, 2) := by decide +kernel
theorem dX4_piece_42 : decode cX4_piece 42 = .ok (.if_icmp .ge 29, 3) := by decide +kernel
theorem dX4_piece_45 : decode cX4_piece 45 = .ok (.aload_n 0, 1) := by decide +kernel
theorem dX4_piece_46 : decode cX4_piece 46 = .ok (.invokevirtual 50, 3) := by decide +kernel
theorem dX4_piece_49 : decode cX4_piece 49 = .ok (.aload_n 0, 1) := by decide +kernel
theorem dX4_piece_50 : decode cX4_piece 50 = .ok (.iload_n 1, 1) := by decide +kernel
theorem dX4_piece_51 : decode cX4_piece 51 = .ok (.iload_n 2, 1) := by decide +kernel
theorem dX4_piece_52 : decode cX4_piece 52 = .ok (.iconst 1, 1) := by decide +kernel
theorem dX4_piece_53 : decode cX4_piece 53 = .ok (.iadd, 1) := by decide +kernel
theorem dX4_piece_54 : decode cX4_piece 54 = .ok (.invokevirtual 93, 3) := by decide +kernel
theorem dX4_piece_57 : decode cX4_piece 57 = .ok (.ifCond .ne 5, 3) := by decide +kernel
theorem dX4_piece_60 : decode cX4_piece 60 = .ok (.iconst 0, 1) := by decide +kernel
theorem dX4_piece_61 : decode cX4_piece 61 = .ok (.ireturn, 1) := by decide +kernel
theorem dX4_piece_62 : decode cX4_piece 62 = .ok (.aload_n 0, 1) := by decide +kernel
theorem dX4_piece_63 : decode cX4_piece 63 = .ok (.sipush 10133, 3) := by decide +kernel
theorem dX4_piece_66 : decode cX4_piece 66 = .ok (.invokevirtual 100, 3) := by decide +kernel
theorem dX4_piece_69 : decode cX4_piece 69 = .ok (.iconst 1, 1) := by decide +kernel
theorem dX4_piece_70 : decode cX4_piece 70 = .ok (.ireturn, 1) := by decide +kernel
theorem dX4_piece_71 : decode cX4_piece 71 = .ok (.aload_n 0, 1) := by decide +kernel
theorem dX4_piece_72 : decode cX4_piece 72 = .ok (.bipush 40, 2) := by decide +kernel
theorem dX4_piece_74 : decode cX4_piece 74 = .ok (.invokevirtual 107, 3) := by decide +kernel
theorem dX4_piece_77 : decode cX4_piece 77 = .ok (.ifCond .eq 42, 3) := by decide +kernel
theorem dX4_piece_80 : decode cX4_piece 80 = .ok (.iload_n 1, 1) := by decide +kernel
theorem dX4_piece_81 : decode cX4_piece 81 = .ok (.bipush 8, 2) := by decide +kernel
theorem dX4_piece_83 : decode cX4_piece 83 = .ok (.if_icmp .ge 36, 3) := by decide +kernel
theorem dX4_piece_86 : decode cX4_piece 86 = .ok (.aload_n 0, 1) := by decide +kernel
theorem dX4_piece_87 : decode cX4_piece 87 = .ok (.invokevirtual 50, 3) := by decide +kernel
theorem dX4_piece_90 : decode cX4_piece 90 = .ok (.aload_n 0, 1) := by decide +kernel
theorem dX4_piece_91 : decode cX4_piece 91 = .ok (.iconst 0, 1) := by decide +kernel
theorem dX4_piece_92 : decode cX4_piece 92 = .ok (.iload_n 1, 1) := by decide +kernel
theorem dX4_piece_93 : decode cX4_piece 93 = .ok (.iconst 1, 1) := by decide +kernel
theorem dX4_piece_94 : decode cX4_piece 94 = .ok (.iadd, 1) := by decide +kernel
theorem dX4_piece_95 : decode cX4_piece 95 = .ok (.iload_n 2, 1) := by decide +kernel
theorem dX4_piece_96 : decode cX4_piece 96 = .ok (.invokevirtual 57, 3) := by decide +kernel
theorem dX4_piece_99 : decode cX4_piece 99 = .ok (.ifCond .eq 12, 3) := by decide +kernel
theorem dX4_piece_102 : decode cX4_piece 102 = .ok (.aload_n 0, 1) := by decide +kernel
theorem dX4_piece_103 : decode cX4_piece 103 = .ok (.bipush 41, 2) := by decide +kernel
theorem dX4_piece_105 : decode cX4_piece 105 = .ok (.invokevirtual 107, 3) := by decide +kernel
theorem dX4_piece_108 : decode cX4_piece 108 = .ok (.ifCond .ne 5, 3) := by decide +kernel
theorem dX4_piece_111 : decode cX4_piece 111 = .ok (.iconst 0, 1) := by decide +kernel
theorem dX4_piece_112 : decode cX4_piece 112 = .ok (.ireturn, 1) := by decide +kernel
theorem dX4_piece_113 : decode cX4_piece 113 = .ok (.aload_n 0, 1) := by decide +kernel
theorem dX4_piece_114 : decode cX4_piece 114 = .ok (.invokevirtual 50, 3) := by decide +kernel
theorem dX4_piece_117 : decode cX4_piece 117 = .ok (.iconst 1, 1) := by decide +kernel
theorem dX4_piece_118 : decode cX4_piece 118 = .ok (.ireturn, 1) := by decide +kernel
theorem dX4_piece_119 : decode cX4_piece 119 = .ok (.iconst 0, 1) := by decide +kernel
theorem dX4_piece_120 : decode cX4_piece 120 = .ok (.ireturn, 1) := by decide +kernel
theorem dX4_atomAtHand_0 : decode cX4_atomAtHand 0 = .ok (.aload_n 0, 1) := by decide +kernel
theorem dX4_atomAtHand_1 : decode cX4_atomAtHand 1 = .ok (.getfield 37, 3) := by decide +kernel
theorem dX4_atomAtHand_4 : decode cX4_atomAtHand 4 = .ok (.aload_n 0, 1) := by decide +kernel
theorem dX4_atomAtHand_5 : decode cX4_atomAtHand 5 = .ok (.getfield 34, 3) := by decide +kernel
theorem dX4_atomAtHand_8 : decode cX4_atomAtHand 8 = .ok (.isub, 1) := by decide +kernel
theorem dX4_atomAtHand_9 : decode cX4_atomAtHand 9 = .ok (.istore_n 1, 1) := by decide +kernel
theorem dX4_atomAtHand_10 : decode cX4_atomAtHand 10 = .ok (.aload_n 0, 1) := by decide +kernel
theorem dX4_atomAtHand_11 : decode cX4_atomAtHand 11 = .ok (.getfield 31, 3) := by decide +kernel
theorem dX4_atomAtHand_14 : decode cX4_atomAtHand 14 = .ok (.iconst 2, 1) := by decide +kernel
theorem dX4_atomAtHand_15 : decode cX4_atomAtHand 15 = .ok (.if_icmp .ne 46, 3) := by decide +kernel
theorem dX4_atomAtHand_18 : decode cX4_atomAtHand 18 = .ok (.iload_n 1, 1) := by decide +kernel
theorem dX4_atomAtHand_19 : decode cX4_atomAtHand 19 = .ok (.iconst 4, 1) := by decide +kernel
theorem dX4_atomAtHand_20 : decode cX4_atomAtHand 20 = .ok (.if_icmp .gt 41, 3) := by decide +kernel
theorem dX4_atomAtHand_23 : decode cX4_atomAtHand 23 = .ok (.iconst 0, 1) := by decide +kernel
theorem dX4_atomAtHand_24 : decode cX4_atomAtHand 24 = .ok (.istore_n 2, 1) := by decide +kernel
theorem dX4_atomAtHand_25 : decode cX4_atomAtHand 25 = .ok (.aload_n 0, 1) := by decide +kernel
theorem dX4_atomAtHand_26 : decode cX4_atomAtHand 26 = .ok (.getfield 34, 3) := by decide +kernel
theorem dX4_atomAtHand_29 : decode cX4_atomAtHand 29 = .ok (.istore_n 3, 1) := by decide +kernel
theorem dX4_atomAtHand_30 : decode cX4_atomAtHand 30 = .ok (.iload_n 3, 1) := by decide +kernel
theorem dX4_atomAtHand_31 : decode cX4_atomAtHand 31 = .ok (.aload_n 0, 1) := by decide +kernel
theorem dX4_atomAtHand_32 : decode cX4_atomAtHand 32 = .ok (.getfield 37, 3) := by decide +kernel
theorem dX4_atomAtHand_35 : decode cX4_atomAtHand 35 = .ok (.if_icmp .ge 24, 3) := by decide +kernel
theorem dX4_atomAtHand_38 : decode cX4_atomAtHand 38 = .ok (.iload_n 2, 1) := by decide +kernel
theorem dX4_atomAtHand_39 : decode cX4_atomAtHand 39 = .ok (.bipush 10, 2) := by decide +kernel
theorem dX4_atomAtHand_41 : decode cX4_atomAtHand 41 = .ok (.imul, 1) := by decide +kernel
theorem dX4_atomAtHand_42 : decode cX4_atomAtHand 42 = .ok (.aload_n 0, 1) := by decide +kernel
theorem dX4_atomAtHand_43 : decode cX4_atomAtHand 43 = .ok (.getfield 25, 3) := by decide +kernel
theorem dX4_atomAtHand_46 : decode cX4_atomAtHand 46 = .ok (.iload_n 3, 1) := by decide +kernel
theorem dX4_atomAtHand_47 : decode cX4_atomAtHand 47 = .ok (.iaload, 1) := by decide +kernel
theorem dX4_atomAtHand_48 : decode cX4_atomAtHand 48 = .ok (.iadd, 1) := by decide +kernel
theorem dX4_atomAtHand_49 : decode cX4_atomAtHand 49 = .ok (.bipush 48, 2) := by decide +kernel
theorem dX4_atomAtHand_51 : decode cX4_atomAtHand 51 = .ok (.isub, 1) := by decide +kernel
theorem dX4_atomAtHand_52 : decode cX4_atomAtHand 52 = .ok (.istore_n 2, 1) := by decide +kernel
theorem dX4_atomAtHand_53 : decode cX4_atomAtHand 53 = .ok (.iinc 3 1, 3) := by decide +kernel
theorem dX4_atomAtHand_56 : decode cX4_atomAtHand 56 = .ok (.goto (-26), 3) := by decide +kernel
theorem dX4_atomAtHand_59 : decode cX4_atomAtHand 59 = .ok (.iload_n 2, 1) := by decide +kernel
theorem dX4_atomAtHand_60 : decode cX4_atomAtHand 60 = .ok (.ireturn, 1) := by decide +kernel
theorem dX4_atomAtHand_61 : decode cX4_atomAtHand 61 = .ok (.aload_n 0, 1) := by decide +kernel
theorem dX4_atomAtHand_62 : decode cX4_atomAtHand 62 = .ok (.getfield 31, 3) := by decide +kernel
theorem dX4_atomAtHand_65 : decode cX4_atomAtHand 65 = .ok (.iconst 1, 1) := by decide +kernel
theorem dX4_atomAtHand_66 : decode cX4_atomAtHand 66 = .ok (.if_icmp .ne 38, 3) := by decide +kernel
theorem dX4_atomAtHand_69 : decode cX4_atomAtHand 69 = .ok (.iload_n 1, 1) := by decide +kernel
theorem dX4_atomAtHand_70 : decode cX4_atomAtHand 70 = .ok (.iconst 1, 1) := by decide +kernel
theorem dX4_atomAtHand_71 : decode cX4_atomAtHand 71 = .ok (.if_icmp .ne 33, 3) := by decide +kernel
theorem dX4_atomAtHand_74 : decode cX4_atomAtHand 74 = .ok (.aload_n 0, 1) := by decide +kernel
theorem dX4_atomAtHand_75 : decode cX4_atomAtHand 75 = .ok (.getfield 22, 3) := by decide +kernel
theorem dX4_atomAtHand_78 : decode cX4_atomAtHand 78 = .ok (.invokestatic 111, 3) := by decide +kernel
theorem dX4_atomAtHand_81 : decode cX4_atomAtHand 81 = .ok (.aload_n 0, 1) := by decide +kernel
theorem dX4_atomAtHand_82 : decode cX4_atomAtHand 82 = .ok (.invokevirtual 76, 3) := by decide +kernel
theorem dX4_atomAtHand_85 : decode cX4_atomAtHand 85 = .ok (.i2c, 1) := by decide +kernel
theorem dX4_atomAtHand_86 : decode cX4_atomAtHand 86 = .ok (.invokevirtual 115, 3) := by decide +kernel
theorem dX4_atomAtHand_89 : decode cX4_atomAtHand 89 = .ok (.istore_n 2, 1) := by decide +kernel
theorem dX4_atomAtHand_90 : decode cX4_atomAtHand 90 = .ok (.iload_n 2, 1) := by decide +kernel
theorem dX4_atomAtHand_91 : decode cX4_atomAtHand 91 = .ok (.ifCond .ge 7, 3) := by decide +kernel
theorem dX4_atomAtHand_94 : decode cX4_atomAtHand 94 = .ok (.iconst (-1), 1) := by decide +kernel
theorem dX4_atomAtHand_95 : decode cX4_atomAtHand 95 = .ok (.goto 8, 3) := by decide +kernel
theorem dX4_atomAtHand_98 : decode cX4_atomAtHand 98 = .ok (.sipush 10000, 3) := by decide +kernel
theorem dX4_atomAtHand_101 : decode cX4_atomAtHand 101 = .ok (.iload_n 2, 1) := by decide +kernel
theorem dX4_atomAtHand_102 : decode cX4_atomAtHand 102 = .ok (.iadd, 1) := by decide +kernel
theorem dX4_atomAtHand_103 : decode cX4_atomAtHand 103 = .ok (.ireturn, 1) := by decide +kernel
theorem dX4_atomAtHand_104 : decode cX4_atomAtHand 104 = .ok (.iconst (-1), 1) := by decide +kernel
theorem dX4_atomAtHand_105 : decode cX4_atomAtHand 105 = .ok (.ireturn, 1) := by decide +kernel
theorem dX5_init_0 : decode cX5_init 0 = .ok (.aload_n 0, 1) := by decide +kernel
theorem dX5_init_1 : decode cX5_init 1 = .ok (.invokespecial 3, 3) := by decide +kernel
theorem dX5_init_4 : decode cX5_init 4 = .ok (.aload_n 0, 1) := by decide +kernel
theorem dX5_init_5 : decode cX5_init 5 = .ok (.bipush 10, 2) := by decide +kernel
theorem dX5_init_7 : decode cX5_init 7 = .ok (.newarray .int, 2) := by decide +kernel
theorem dX5_init_9 : decode cX5_init 9 = .ok (.putfield 9, 3) := by decide +kernel
theorem dX5_init_12 : decode cX5_init 12 = .ok (.aload_n 0, 1) := by decide +kernel
theorem dX5_init_13 : decode cX5_init 13 = .ok (.bipush 10, 2) := by decide +kernel
theorem dX5_init_15 : decode cX5_init 15 = .ok (.newarray .int, 2) := by decide +kernel
theorem dX5_init_17 : decode cX5_init 17 = .ok (.putfield 15, 3) := by decide +kernel
theorem dX5_init_20 : decode cX5_init 20 = .ok (.aload_n 0, 1) := by decide +kernel
theorem dX5_init_21 : decode cX5_init 21 = .ok (.bipush 10, 2) := by decide +kernel
theorem dX5_init_23 : decode cX5_init 23 = .ok (.newarray .int, 2) := by decide +kernel
theorem dX5_init_25 : decode cX5_init 25 = .ok (.putfield 18, 3) := by decide +kernel
theorem dX5_init_28 : decode cX5_init 28 = .ok (.aload_n 0, 1) := by decide +kernel
theorem dX5_init_29 : decode cX5_init 29 = .ok (.bipush 10, 2) := by decide +kernel
theorem dX5_init_31 : decode cX5_init 31 = .ok (.newarray .int, 2) := by decide +kernel
theorem dX5_init_33 : decode cX5_init 33 = .ok (.putfield 21, 3) := by decide +kernel
theorem dX5_init_36 : decode cX5_init 36 = .ok (.aload_n 0, 1) := by decide +kernel
theorem dX5_init_37 : decode cX5_init 37 = .ok (.iconst 0, 1) := by decide +kernel
theorem dX5_init_38 : decode cX5_init 38 = .ok (.putfield 24, 3) := by decide +kernel
theorem dX5_init_41 : decode cX5_init 41 = .ok (.return_, 1) := by decide +kernel
theorem dX5_has_0 : decode cX5_has 0 = .ok (.iload_n 1, 1) := by decide +kernel
theorem dX5_has_1 : decode cX5_has 1 = .ok (.ifCond .lt 15, 3) := by decide +kernel
theorem dX5_has_4 : decode cX5_has 4 = .ok (.iload_n 1, 1) := by decide +kernel
theorem dX5_has_5 : decode cX5_has 5 = .ok (.aload_n 0, 1) := by decide +kernel
theorem dX5_has_6 : decode cX5_has 6 = .ok (.getfield 24, 3) := by decide +kernel
theorem dX5_has_9 : decode cX5_has 9 = .ok (.if_icmp .ge 7, 3) := by decide +kernel
theorem dX5_has_12 : decode cX5_has 12 = .ok (.iconst 1, 1) := by decide +kernel
theorem dX5_has_13 : decode cX5_has 13 = .ok (.goto 4, 3) := by decide +kernel
theorem dX5_has_16 : decode cX5_has 16 = .ok (.iconst 0, 1) := by decide +kernel
theorem dX5_has_17 : decode cX5_has 17 = .ok (.ireturn, 1) := by decide +kernel
theorem dX5_add_0 : decode cX5_add 0 = .ok (.aload_n 0, 1) := by decide +kernel
theorem dX5_add_1 : decode cX5_add 1 = .ok (.getfield 24, 3) := by decide +kernel
theorem dX5_add_4 : decode cX5_add 4 = .ok (.bipush 10, 2) := by decide +kernel
theorem dX5_add_6 : decode cX5_add 6 = .ok (.if_icmp .lt 6, 3) := by decide +kernel
theorem dX5_add_9 : decode cX5_add 9 = .ok (.ldc 28, 2) := by decide +kernel
theorem dX5_add_11 : decode cX5_add 11 = .ok (.ireturn, 1) := by decide +kernel
theorem dX5_add_12 : decode cX5_add 12 = .ok (.aload_n 0, 1) := by decide +kernel
theorem dX5_add_13 : decode cX5_add 13 = .ok (.getfield 9, 3) := by decide +kernel
theorem dX5_add_16 : decode cX5_add 16 = .ok (.aload_n 0, 1) := by decide +kernel
theorem dX5_add_17 : decode cX5_add 17 = .ok (.getfield 24, 3) := by decide +kernel
theorem dX5_add_20 : decode cX5_add 20 = .ok (.iload_n 1, 1) := by decide +kernel
theorem dX5_add_21 : decode cX5_add 21 = .ok (.iastore, 1) := by decide +kernel
theorem dX5_add_22 : decode cX5_add 22 = .ok (.aload_n 0, 1) := by decide +kernel
theorem dX5_add_23 : decode cX5_add 23 = .ok (.getfield 15, 3) := by decide +kernel
theorem dX5_add_26 : decode cX5_add 26 = .ok (.aload_n 0, 1) := by decide +kernel
theorem dX5_add_27 : decode cX5_add 27 = .ok (.getfield 24, 3) := by decide +kernel
theorem dX5_add_30 : decode cX5_add 30 = .ok (.iload_n 2, 1) := by decide +kernel
theorem dX5_add_31 : decode cX5_add 31 = .ok (.iastore, 1) := by decide +kernel
theorem dX5_add_32 : decode cX5_add 32 = .ok (.aload_n 0, 1) := by decide +kernel
theorem dX5_add_33 : decode cX5_add 33 = .ok (.getfield 18, 3) := by decide +kernel
theorem dX5_add_36 : decode cX5_add 36 = .ok (.aload_n 0, 1) := by decide +kernel
theorem dX5_add_37 : decode cX5_add 37 = .ok (.getfield 24, 3) := by decide +kernel
theorem dX5_add_40 : decode cX5_add 40 = .ok (.iload_n 3, 1) := by decide +kernel
theorem dX5_add_41 : decode cX5_add 41 = .ok (.iastore, 1) := by decide +kernel
theorem dX5_add_42 : decode cX5_add 42 = .ok (.aload_n 0, 1) := by decide +kernel
theorem dX5_add_43 : decode cX5_add 43 = .ok (.getfield 21, 3) := by decide +kernel
theorem dX5_add_46 : decode cX5_add 46 = .ok (.aload_n 0, 1) := by decide +kernel
theorem dX5_add_47 : decode cX5_add 47 = .ok (.getfield 24, 3) := by decide +kernel
theorem dX5_add_50 : decode cX5_add 50 = .ok (.iconst 0, 1) := by decide +kernel
theorem dX5_add_51 : decode cX5_add 51 = .ok (.iastore, 1) := by decide +kernel
theorem dX5_add_52 : decode cX5_add 52 = .ok (.aload_n 0, 1) := by decide +kernel
theorem dX5_add_53 : decode cX5_add 53 = .ok (.dup, 1) := by decide +kernel
theorem dX5_add_54 : decode cX5_add 54 = .ok (.getfield 24, 3) := by decide +kernel
theorem dX5_add_57 : decode cX5_add 57 = .ok (.iconst 1, 1) := by decide +kernel
theorem dX5_add_58 : decode cX5_add 58 = .ok (.iadd, 1) := by decide +kernel
theorem dX5_add_59 : decode cX5_add 59 = .ok (.putfield 24, 3) := by decide +kernel
theorem dX5_add_62 : decode cX5_add 62 = .ok (.aload_n 0, 1) := by decide +kernel
theorem dX5_add_63 : decode cX5_add 63 = .ok (.getfield 24, 3) := by decide +kernel
theorem dX5_add_66 : decode cX5_add 66 = .ok (.iconst 1, 1) := by decide +kernel
theorem dX5_add_67 : decode cX5_add 67 = .ok (.isub, 1) := by decide +kernel
theorem dX5_add_68 : decode cX5_add 68 = .ok (.ireturn, 1) := by decide +kernel
theorem dX5_squeezeThrough_0 : decode cX5_squeezeThrough 0 = .ok (.aload_n 0, 1) := by decide +kernel
theorem dX5_squeezeThrough_1 : decode cX5_squeezeThrough 1 = .ok (.iload_n 1, 1) := by decide +kernel
theorem dX5_squeezeThrough_2 : decode cX5_squeezeThrough 2 = .ok (.invokevirtual 29, 3) := by decide +kernel
theorem dX5_squeezeThrough_5 : decode cX5_squeezeThrough 5 = .ok (.ifCond .eq 13, 3) := by decide +kernel
theorem dX5_squeezeThrough_8 : decode cX5_squeezeThrough 8 = .ok (.iload_n 2, 1) := by decide +kernel
theorem dX5_squeezeThrough_9 : decode cX5_squeezeThrough 9 = .ok (.aload_n 0, 1) := by decide +kernel
theorem dX5_squeezeThrough_10 : decode cX5_squeezeThrough 10 = .ok (.getfield 18, 3) := by decide +kernel
theorem dX5_squeezeThrough_13 : decode cX5_squeezeThrough 13 = .ok (.iload_n 1, 1) := by decide +kernel
theorem dX5_squeezeThrough_14 : decode cX5_squeezeThrough 14 = .ok (.iaload, 1) := by decide +kernel
theorem dX5_squeezeThrough_15 : decode cX5_squeezeThrough 15 = .ok (.if_icmp .gt 5, 3) := by decide +kernel
theorem dX5_squeezeThrough_18 : decode cX5_squeezeThrough 18 = .ok (.iconst 0, 1) := by decide +kernel
theorem dX5_squeezeThrough_19 : decode cX5_squeezeThrough 19 = .ok (.ireturn, 1) := by decide +kernel
theorem dX5_squeezeThrough_20 : decode cX5_squeezeThrough 20 = .ok (.aload_n 0, 1) := by decide +kernel
theorem dX5_squeezeThrough_21 : decode cX5_squeezeThrough 21 = .ok (.getfield 21, 3) := by decide +kernel
theorem dX5_squeezeThrough_24 : decode cX5_squeezeThrough 24 = .ok (.iload_n 1, 1) := by decide +kernel
theorem dX5_squeezeThrough_25 : decode cX5_squeezeThrough 25 = .ok (.dup2, 1) := by decide +kernel
theorem dX5_squeezeThrough_26 : decode cX5_squeezeThrough 26 = .ok (.iaload, 1) := by decide +kernel
theorem dX5_squeezeThrough_27 : decode cX5_squeezeThrough 27 = .ok (.iconst 1, 1) := by decide +kernel
theorem dX5_squeezeThrough_28 : decode cX5_squeezeThrough 28 = .ok (.iadd, 1) := by decide +kernel
theorem dX5_squeezeThrough_29 : decode cX5_squeezeThrough 29 = .ok (.iastore, 1) := by decide +kernel
theorem dX5_squeezeThrough_30 : decode cX5_squeezeThrough 30 = .ok (.aload_n 0, 1) := by decide +kernel
theorem dX5_squeezeThrough_31 : decode cX5_squeezeThrough 31 = .ok (.getfield 18, 3) := by decide +kernel
theorem dX5_squeezeThrough_34 : decode cX5_squeezeThrough 34 = .ok (.iload_n 1, 1) := by decide +kernel
theorem dX5_squeezeThrough_35 : decode cX5_squeezeThrough 35 = .ok (.iload_n 2, 1) := by decide +kernel
theorem dX5_squeezeThrough_36 : decode cX5_squeezeThrough 36 = .ok (.iastore, 1) := by decide +kernel
theorem dX5_squeezeThrough_37 : decode cX5_squeezeThrough 37 = .ok (.iconst 1, 1) := by decide +kernel
theorem dX5_squeezeThrough_38 : decode cX5_squeezeThrough 38 = .ok (.ireturn, 1) := by decide +kernel
theorem dX5_snowOn_0 : decode cX5_snowOn 0 = .ok (.iconst 0, 1) := by decide +kernel
theorem dX5_snowOn_1 : decode cX5_snowOn 1 = .ok (.istore_n 2, 1) := by decide +kernel
theorem dX5_snowOn_2 : decode cX5_snowOn 2 = .ok (.iload_n 2, 1) := by decide +kernel
theorem dX5_snowOn_3 : decode cX5_snowOn 3 = .ok (.aload_n 0, 1) := by decide +kernel
theorem dX5_snowOn_4 : decode cX5_snowOn 4 = .ok (.getfield 24, 3) := by decide +kernel
theorem dX5_snowOn_7 : decode cX5_snowOn 7 = .ok (.if_icmp .ge 29, 3) := by decide +kernel
theorem dX5_snowOn_10 : decode cX5_snowOn 10 = .ok (.aload_n 0, 1) := by decide +kernel
theorem dX5_snowOn_11 : decode cX5_snowOn 11 = .ok (.getfield 15, 3) := by decide +kernel
theorem dX5_snowOn_14 : decode cX5_snowOn 14 = .ok (.iload_n 2, 1) := by decide +kernel
theorem dX5_snowOn_15 : decode cX5_snowOn 15 = .ok (.sipush 999, 3) := by decide +kernel
theorem dX5_snowOn_18 : decode cX5_snowOn 18 = .ok (.aload_n 0, 1) := by decide +kernel
theorem dX5_snowOn_19 : decode cX5_snowOn 19 = .ok (.getfield 15, 3) := by decide +kernel
theorem dX5_snowOn_22 : decode cX5_snowOn 22 = .ok (.iload_n 2, 1) := by decide +kernel
theorem dX5_snowOn_23 : decode cX5_snowOn 23 = .ok (.iaload, 1) := by decide +kernel
theorem dX5_snowOn_24 : decode cX5_snowOn 24 = .ok (.iload_n 1, 1) := by decide +kernel
theorem dX5_snowOn_25 : decode cX5_snowOn 25 = .ok (.iadd, 1) := by decide +kernel
theorem dX5_snowOn_26 : decode cX5_snowOn 26 = .ok (.invokestatic 33, 3) := by decide +kernel
theorem dX5_snowOn_29 : decode cX5_snowOn 29 = .ok (.iastore, 1) := by decide +kernel
theorem dX5_snowOn_30 : decode cX5_snowOn 30 = .ok (.iinc 2 1, 3) := by decide +kernel
theorem dX5_snowOn_33 : decode cX5_snowOn 33 = .ok (.goto (-31), 3) := by decide +kernel
theorem dX5_snowOn_36 : decode cX5_snowOn 36 = .ok (.return_, 1) := by decide +kernel
theorem dX5_brokenOfAll_0 : decode cX5_brokenOfAll 0 = .ok (.iconst 0, 1) := by decide +kernel
theorem dX5_brokenOfAll_1 : decode cX5_brokenOfAll 1 = .ok (.istore_n 1, 1) := by decide +kernel
theorem dX5_brokenOfAll_2 : decode cX5_brokenOfAll 2 = .ok (.iconst 0, 1) := by decide +kernel
theorem dX5_brokenOfAll_3 : decode cX5_brokenOfAll 3 = .ok (.istore_n 2, 1) := by decide +kernel
theorem dX5_brokenOfAll_4 : decode cX5_brokenOfAll 4 = .ok (.iload_n 2, 1) := by decide +kernel
theorem dX5_brokenOfAll_5 : decode cX5_brokenOfAll 5 = .ok (.aload_n 0, 1) := by decide +kernel
theorem dX5_brokenOfAll_6 : decode cX5_brokenOfAll 6 = .ok (.getfield 24, 3) := by decide +kernel
theorem dX5_brokenOfAll_9 : decode cX5_brokenOfAll 9 = .ok (.if_icmp .ge 18, 3) := by decide +kernel
theorem dX5_brokenOfAll_12 : decode cX5_brokenOfAll 12 = .ok (.iload_n 1, 1) := by decide +kernel
theorem dX5_brokenOfAll_13 : decode cX5_brokenOfAll 13 = .ok (.aload_n 0, 1) := by decide +kernel
theorem dX5_brokenOfAll_14 : decode cX5_brokenOfAll 14 = .ok (.getfield 21, 3) := by decide +kernel
theorem dX5_brokenOfAll_17 : decode cX5_brokenOfAll 17 = .ok (.iload_n 2, 1) := by decide +kernel
theorem dX5_brokenOfAll_18 : decode cX5_brokenOfAll 18 = .ok (.iaload, 1) := by decide +kernel
theorem dX5_brokenOfAll_19 : decode cX5_brokenOfAll 19 = .ok (.iadd, 1) := by decide +kernel
theorem dX5_brokenOfAll_20 : decode cX5_brokenOfAll 20 = .ok (.istore_n 1, 1) := by decide +kernel
theorem dX5_brokenOfAll_21 : decode cX5_brokenOfAll 21 = .ok (.iinc 2 1, 3) := by decide +kernel
theorem dX5_brokenOfAll_24 : decode cX5_brokenOfAll 24 = .ok (.goto (-20), 3) := by decide +kernel
theorem dX5_brokenOfAll_27 : decode cX5_brokenOfAll 27 = .ok (.iload_n 1, 1) := by decide +kernel
theorem dX5_brokenOfAll_28 : decode cX5_brokenOfAll 28 = .ok (.ireturn, 1) := by decide +kernel
theorem dX5_snowOfAll_0 : decode cX5_snowOfAll 0 = .ok (.iconst 0, 1) := by decide +kernel
theorem dX5_snowOfAll_1 : decode cX5_snowOfAll 1 = .ok (.istore_n 1, 1) := by decide +kernel
theorem dX5_snowOfAll_2 : decode cX5_snowOfAll 2 = .ok (.iconst 0, 1) := by decide +kernel
theorem dX5_snowOfAll_3 : decode cX5_snowOfAll 3 = .ok (.istore_n 2, 1) := by decide +kernel
theorem dX5_snowOfAll_4 : decode cX5_snowOfAll 4 = .ok (.iload_n 2, 1) := by decide +kernel
theorem dX5_snowOfAll_5 : decode cX5_snowOfAll 5 = .ok (.aload_n 0, 1) := by decide +kernel
theorem dX5_snowOfAll_6 : decode cX5_snowOfAll 6 = .ok (.getfield 24, 3) := by decide +kernel
theorem dX5_snowOfAll_9 : decode cX5_snowOfAll 9 = .ok (.if_icmp .ge 18, 3) := by decide +kernel
theorem dX5_snowOfAll_12 : decode cX5_snowOfAll 12 = .ok (.iload_n 1, 1) := by decide +kernel
theorem dX5_snowOfAll_13 : decode cX5_snowOfAll 13 = .ok (.aload_n 0, 1) := by decide +kernel
theorem dX5_snowOfAll_14 : decode cX5_snowOfAll 14 = .ok (.getfield 15, 3) := by decide +kernel
theorem dX5_snowOfAll_17 : decode cX5_snowOfAll 17 = .ok (.iload_n 2, 1) := by decide +kernel
theorem dX5_snowOfAll_18 : decode cX5_snowOfAll 18 = .ok (.iaload, 1) := by decide +kernel
theorem dX5_snowOfAll_19 : decode cX5_snowOfAll 19 = .ok (.iadd, 1) := by decide +kernel
theorem dX5_snowOfAll_20 : decode cX5_snowOfAll 20 = .ok (.istore_n 1, 1) := by decide +kernel
theorem dX5_snowOfAll_21 : decode cX5_snowOfAll 21 = .ok (.iinc 2 1, 3) := by decide +kernel
theorem dX5_snowOfAll_24 : decode cX5_snowOfAll 24 = .ok (.goto (-20), 3) := by decide +kernel
theorem dX5_snowOfAll_27 : decode cX5_snowOfAll 27 = .ok (.iload_n 1, 1) := by decide +kernel
theorem dX5_snowOfAll_28 : decode cX5_snowOfAll 28 = .ok (.ireturn, 1) := by decide +kernel
theorem dX5_become_0 : decode cX5_become 0 = .ok (.aload_n 0, 1) := by decide +kernel
theorem dX5_become_1 : decode cX5_become 1 = .ok (.aload_n 1, 1) := by decide +kernel
theorem dX5_become_2 : decode cX5_become 2 = .ok (.getfield 24, 3) := by decide +kernel
theorem dX5_become_5 : decode cX5_become 5 = .ok (.putfield 24, 3) := by decide +kernel
theorem dX5_become_8 : decode cX5_become 8 = .ok (.aload_n 1, 1) := by decide +kernel
theorem dX5_become_9 : decode cX5_become 9 = .ok (.getfield 9, 3) := by decide +kernel
theorem dX5_become_12 : decode cX5_become 12 = .ok (.iconst 0, 1) := by decide +kernel
theorem dX5_become_13 : decode cX5_become 13 = .ok (.aload_n 0, 1) := by decide +kernel
theorem dX5_become_14 : decode cX5_become 14 = .ok (.getfield 9, 3) := by decide +kernel
theorem dX5_become_17 : decode cX5_become 17 = .ok (.iconst 0, 1) := by decide +kernel
theorem dX5_become_18 : decode cX5_become 18 = .ok (.aload_n 0, 1) := by decide +kernel
theorem dX5_become_19 : decode cX5_become 19 = .ok (.getfield 24, 3) := by decide +kernel
theorem dX5_become_22 : decode cX5_become 22 = .ok (.invokestatic 39, 3) := by decide +kernel
theorem dX5_become_25 : decode cX5_become 25 = .ok (.aload_n 1, 1) := by decide +kernel
theorem dX5_become_26 : decode cX5_become 26 = .ok (.getfield 15, 3) := by decide +kernel
theorem dX5_become_29 : decode cX5_become 29 = .ok (.iconst 0, 1) := by decide +kernel
theorem dX5_become_30 : decode cX5_become 30 = .ok (.aload_n 0, 1) := by decide +kernel
theorem dX5_become_31 : decode cX5_become 31 = .ok (.getfield 15, 3) := by decide +kernel
theorem dX5_become_34 : decode cX5_become 34 = .ok (.iconst 0, 1) := by decide +kernel
theorem dX5_become_35 : decode cX5_become 35 = .ok (.aload_n 0, 1) := by decide +kernel
theorem dX5_become_36 : decode cX5_become 36 = .ok (.getfield 24, 3) := by decide +kernel
theorem dX5_become_39 : decode cX5_become 39 = .ok (.invokestatic 39, 3) := by decide +kernel
theorem dX5_become_42 : decode cX5_become 42 = .ok (.aload_n 1, 1) := by decide +kernel
theorem dX5_become_43 : decode cX5_become 43 = .ok (.getfield 18, 3) := by decide +kernel
theorem dX5_become_46 : decode cX5_become 46 = .ok (.iconst 0, 1) := by decide +kernel
theorem dX5_become_47 : decode cX5_become 47 = .ok (.aload_n 0, 1) := by decide +kernel
theorem dX5_become_48 : decode cX5_become 48 = .ok (.getfield 18, 3) := by decide +kernel
theorem dX5_become_51 : decode cX5_become 51 = .ok (.iconst 0, 1) := by decide +kernel
theorem dX5_become_52 : decode cX5_become 52 = .ok (.aload_n 0, 1) := by decide +kernel
theorem dX5_become_53 : decode cX5_become 53 = .ok (.getfield 24, 3) := by decide +kernel
theorem dX5_become_56 : decode cX5_become 56 = .ok (.invokestatic 39, 3) := by decide +kernel
theorem dX5_become_59 : decode cX5_become 59 = .ok (.aload_n 1, 1) := by decide +kernel
theorem dX5_become_60 : decode cX5_become 60 = .ok (.getfield 21, 3) := by decide +kernel
theorem dX5_become_63 : decode cX5_become 63 = .ok (.iconst 0, 1) := by decide +kernel
theorem dX5_become_64 : decode cX5_become 64 = .ok (.aload_n 0, 1) := by decide +kernel
theorem dX5_become_65 : decode cX5_become 65 = .ok (.getfield 21, 3) := by decide +kernel
theorem dX5_become_68 : decode cX5_become 68 = .ok (.iconst 0, 1) := by decide +kernel
theorem dX5_become_69 : decode cX5_become 69 = .ok (.aload_n 0, 1) := by decide +kernel
theorem dX5_become_70 : decode cX5_become 70 = .ok (.getfield 24, 3) := by decide +kernel
theorem dX5_become_73 : decode cX5_become 73 = .ok (.invokestatic 39, 3) := by decide +kernel
theorem dX5_become_76 : decode cX5_become 76 = .ok (.return_, 1) := by decide +kernel
theorem dX6_init_0 : decode cX6_init 0 = .ok (.aload_n 0, 1) := by decide +kernel
theorem dX6_init_1 : decode cX6_init 1 = .ok (.invokespecial 3, 3) := by decide +kernel
theorem dX6_init_4 : decode cX6_init 4 = .ok (.aload_n 0, 1) := by decide +kernel
theorem dX6_init_5 : decode cX6_init 5 = .ok (.bipush 24, 2) := by decide +kernel
theorem dX6_init_7 : decode cX6_init 7 = .ok (.newarray .int, 2) := by decide +kernel
theorem dX6_init_9 : decode cX6_init 9 = .ok (.putfield 9, 3) := by decide +kernel
theorem dX6_init_12 : decode cX6_init 12 = .ok (.aload_n 0, 1) := by decide +kernel
theorem dX6_init_13 : decode cX6_init 13 = .ok (.iconst (-1), 1) := by decide +kernel
theorem dX6_init_14 : decode cX6_init 14 = .ok (.putfield 15, 3) := by decide +kernel
theorem dX6_init_17 : decode cX6_init 17 = .ok (.aload_n 0, 1) := by decide +kernel
theorem dX6_init_18 : decode cX6_init 18 = .ok (.iconst 0, 1) := by decide +kernel
theorem dX6_init_19 : decode cX6_init 19 = .ok (.putfield 19, 3) := by decide +kernel
theorem dX6_init_22 : decode cX6_init 22 = .ok (.return_, 1) := by decide +kernel
theorem dX6_become_0 : decode cX6_become 0 = .ok (.aload_n 0, 1) := by decide +kernel
theorem dX6_become_1 : decode cX6_become 1 = .ok (.iload_n 1, 1) := by decide +kernel
theorem dX6_become_2 : decode cX6_become 2 = .ok (.putfield 15, 3) := by decide +kernel
theorem dX6_become_5 : decode cX6_become 5 = .ok (.aload_n 0, 1) := by decide +kernel
theorem dX6_become_6 : decode cX6_become 6 = .ok (.iload_n 2, 1) := by decide +kernel
theorem dX6_become_7 : decode cX6_become 7 = .ok (.putfield 19, 3) := by decide +kernel
theorem dX6_become_10 : decode cX6_become 10 = .ok (.iconst 0, 1) := by decide +kernel
theorem dX6_become_11 : decode cX6_become 11 = .ok (.istore_n 3, 1) := by decide +kernel
theorem dX6_become_12 : decode cX6_become 12 = .ok (.iload_n 3, 1) := by decide +kernel
theorem dX6_become_13 : decode cX6_become 13 = .ok (.bipush 24, 2) := by decide +kernel
theorem dX6_become_15 : decode cX6_become 15 = .ok (.if_icmp .ge 16, 3) := by decide +kernel
theorem dX6_become_18 : decode cX6_become 18 = .ok (.aload_n 0, 1) := by decide +kernel
theorem dX6_become_19 : decode cX6_become 19 = .ok (.getfield 9, 3) := by decide +kernel
theorem dX6_become_22 : decode cX6_become 22 = .ok (.iload_n 3, 1) := by decide +kernel
theorem dX6_become_23 : decode cX6_become 23 = .ok (.iconst 0, 1) := by decide +kernel
theorem dX6_become_24 : decode cX6_become 24 = .ok (.iastore, 1) := by decide +kernel
theorem dX6_become_25 : decode cX6_become 25 = .ok (.iinc 3 1, 3) := by decide +kernel
theorem dX6_become_28 : decode cX6_become 28 = .ok (.goto (-16), 3) := by decide +kernel
theorem dX6_become_31 : decode cX6_become 31 = .ok (.return_, 1) := by decide +kernel
theorem dX6_take_0 : decode cX6_take 0 = .ok (.aload_n 0, 1) := by decide +kernel
theorem dX6_take_1 : decode cX6_take 1 = .ok (.aload_n 1, 1) := by decide +kernel
theorem dX6_take_2 : decode cX6_take 2 = .ok (.getfield 15, 3) := by decide +kernel
theorem dX6_take_5 : decode cX6_take 5 = .ok (.putfield 15, 3) := by decide +kernel
theorem dX6_take_8 : decode cX6_take 8 = .ok (.aload_n 0, 1) := by decide +kernel
theorem dX6_take_9 : decode cX6_take 9 = .ok (.aload_n 1, 1) := by decide +kernel
theorem dX6_take_10 : decode cX6_take 10 = .ok (.getfield 19, 3) := by decide +kernel
theorem dX6_take_13 : decode cX6_take 13 = .ok (.putfield 19, 3) := by decide +kernel
theorem dX6_take_16 : decode cX6_take 16 = .ok (.aload_n 1, 1) := by decide +kernel
theorem dX6_take_17 : decode cX6_take 17 = .ok (.getfield 9, 3) := by decide +kernel
theorem dX6_take_20 : decode cX6_take 20 = .ok (.iconst 0, 1) := by decide +kernel
theorem dX6_take_21 : decode cX6_take 21 = .ok (.aload_n 0, 1) := by decide +kernel
theorem dX6_take_22 : decode cX6_take 22 = .ok (.getfield 9, 3) := by decide +kernel
theorem dX6_take_25 : decode cX6_take 25 = .ok (.iconst 0, 1) := by decide +kernel
theorem dX6_take_26 : decode cX6_take 26 = .ok (.bipush 24, 2) := by decide +kernel
theorem dX6_take_28 : decode cX6_take 28 = .ok (.invokestatic 22, 3) := by decide +kernel
theorem dX6_take_31 : decode cX6_take 31 = .ok (.return_, 1) := by decide +kernel
theorem dX6_has_0 : decode cX6_has 0 = .ok (.iload_n 1, 1) := by decide +kernel
theorem dX6_has_1 : decode cX6_has 1 = .ok (.ifCond .lt 15, 3) := by decide +kernel
theorem dX6_has_4 : decode cX6_has 4 = .ok (.iload_n 1, 1) := by decide +kernel
theorem dX6_has_5 : decode cX6_has 5 = .ok (.aload_n 0, 1) := by decide +kernel
theorem dX6_has_6 : decode cX6_has 6 = .ok (.getfield 19, 3) := by decide +kernel
theorem dX6_has_9 : decode cX6_has 9 = .ok (.if_icmp .ge 7, 3) := by decide +kernel
theorem dX6_has_12 : decode cX6_has 12 = .ok (.iconst 1, 1) := by decide +kernel
theorem dX6_has_13 : decode cX6_has 13 = .ok (.goto 4, 3) := by decide +kernel
theorem dX6_has_16 : decode cX6_has 16 = .ok (.iconst 0, 1) := by decide +kernel
theorem dX6_has_17 : decode cX6_has 17 = .ok (.ireturn, 1) := by decide +kernel
theorem dX6_hasMany_0 : decode cX6_hasMany 0 = .ok (.iload_n 1, 1) := by decide +kernel
theorem dX6_hasMany_1 : decode cX6_hasMany 1 = .ok (.ifCond .lt 29, 3) := by decide +kernel
theorem dX6_hasMany_4 : decode cX6_hasMany 4 = .ok (.iload_n 2, 1) := by decide +kernel
theorem dX6_hasMany_5 : decode cX6_hasMany 5 = .ok (.ifCond .lt 25, 3) := by decide +kernel
theorem dX6_hasMany_8 : decode cX6_hasMany 8 = .ok (.iload_n 2, 1) := by decide +kernel
theorem dX6_hasMany_9 : decode cX6_hasMany 9 = .ok (.aload_n 0, 1) := by decide +kernel
theorem dX6_hasMany_10 : decode cX6_hasMany 10 = .ok (.getfield 19, 3) := by decide +kernel
theorem dX6_hasMany_13 : decode cX6_hasMany 13 = .ok (.if_icmp .gt 17, 3) := by decide +kernel
theorem dX6_hasMany_16 : decode cX6_hasMany 16 = .ok (.iload_n 1, 1) := by decide +kernel
theorem dX6_hasMany_17 : decode cX6_hasMany 17 = .ok (.aload_n 0, 1) := by decide +kernel
theorem dX6_hasMany_18 : decode cX6_hasMany 18 = .ok (.getfield 19, 3) := by decide +kernel
theorem dX6_hasMany_21 : decode cX6_hasMany 21 = .ok (.iload_n 2, 1) := by decide +kernel
theorem dX6_hasMany_22 : decode cX6_hasMany 22 = .ok (.isub, 1) := by decide +kernel
theorem dX6_hasMany_23 : decode cX6_hasMany 23 = .ok (.if_icmp .gt 7, 3) := by decide +kernel
theorem dX6_hasMany_26 : decode cX6_hasMany 26 = .ok (.iconst 1, 1) := by decide +kernel
theorem dX6_hasMany_27 : decode cX6_hasMany 27 = .ok (.goto 4, 3) := by decide +kernel
theorem dX6_hasMany_30 : decode cX6_hasMany 30 = .ok (.iconst 0, 1) := by decide +kernel
theorem dX6_hasMany_31 : decode cX6_hasMany 31 = .ok (.ireturn, 1) := by decide +kernel
theorem dX7_init_0 : decode cX7_init 0 = .ok (.aload_n 0, 1) := by decide +kernel
theorem dX7_init_1 : decode cX7_init 1 = .ok (.invokespecial 3, 3) := by decide +kernel
theorem dX7_init_4 : decode cX7_init 4 = .ok (.aload_n 0, 1) := by decide +kernel
theorem dX7_init_5 : decode cX7_init 5 = .ok (.new 9, 3) := by decide +kernel
theorem dX7_init_8 : decode cX7_init 8 = .ok (.dup, 1) := by decide +kernel
theorem dX7_init_9 : decode cX7_init 9 = .ok (.invokespecial 11, 3) := by decide +kernel
theorem dX7_init_12 : decode cX7_init 12 = .ok (.putfield 12, 3) := by decide +kernel
theorem dX7_init_15 : decode cX7_init 15 = .ok (.aload_n 0, 1) := by decide +kernel
theorem dX7_init_16 : decode cX7_init 16 = .ok (.iconst 0, 1) := by decide +kernel
theorem dX7_init_17 : decode cX7_init 17 = .ok (.putfield 18, 3) := by decide +kernel
theorem dX7_init_20 : decode cX7_init 20 = .ok (.aload_n 0, 1) := by decide +kernel
theorem dX7_init_21 : decode cX7_init 21 = .ok (.iconst 0, 1) := by decide +kernel
theorem dX7_init_22 : decode cX7_init 22 = .ok (.putfield 22, 3) := by decide +kernel
theorem dX7_init_25 : decode cX7_init 25 = .ok (.aload_n 0, 1) := by decide +kernel
theorem dX7_init_26 : decode cX7_init 26 = .ok (.iconst 0, 1) := by decide +kernel
theorem dX7_init_27 : decode cX7_init 27 = .ok (.putfield 25, 3) := by decide +kernel
theorem dX7_init_30 : decode cX7_init 30 = .ok (.aload_n 0, 1) := by decide +kernel
theorem dX7_init_31 : decode cX7_init 31 = .ok (.iconst 0, 1) := by decide +kernel
theorem dX7_init_32 : decode cX7_init 32 = .ok (.putfield 28, 3) := by decide +kernel
theorem dX7_init_35 : decode cX7_init 35 = .ok (.aload_n 0, 1) := by decide +kernel
theorem dX7_init_36 : decode cX7_init 36 = .ok (.iconst 0, 1) := by decide +kernel
theorem dX7_init_37 : decode cX7_init 37 = .ok (.putfield 31, 3) := by decide +kernel
theorem dX7_init_40 : decode cX7_init 40 = .ok (.return_, 1) := by decide +kernel
theorem dX7_takeYard_0 : decode cX7_takeYard 0 = .ok (.aload_n 1, 1) := by decide +kernel
theorem dX7_takeYard_1 : decode cX7_takeYard 1 = .ok (.iload_n 2, 1) := by decide +kernel
theorem dX7_takeYard_2 : decode cX7_takeYard 2 = .ok (.invokevirtual 34, 3) := by decide +kernel
theorem dX7_takeYard_5 : decode cX7_takeYard 5 = .ok (.ifCond .eq 33, 3) := by decide +kernel
theorem dX7_takeYard_8 : decode cX7_takeYard 8 = .ok (.aload_n 0, 1) := by decide +kernel
theorem dX7_takeYard_9 : decode cX7_takeYard 9 = .ok (.aload_n 1, 1) := by decide +kernel
theorem dX7_takeYard_10 : decode cX7_takeYard 10 = .ok (.getfield 40, 3) := by decide +kernel
theorem dX7_takeYard_13 : decode cX7_takeYard 13 = .ok (.iload_n 2, 1) := by decide +kernel
theorem dX7_takeYard_14 : decode cX7_takeYard 14 = .ok (.iaload, 1) := by decide +kernel
theorem dX7_takeYard_15 : decode cX7_takeYard 15 = .ok (.putfield 22, 3) := by decide +kernel
theorem dX7_takeYard_18 : decode cX7_takeYard 18 = .ok (.aload_n 0, 1) := by decide +kernel
theorem dX7_takeYard_19 : decode cX7_takeYard 19 = .ok (.aload_n 1, 1) := by decide +kernel
theorem dX7_takeYard_20 : decode cX7_takeYard 20 = .ok (.getfield 44, 3) := by decide +kernel
theorem dX7_takeYard_23 : decode cX7_takeYard 23 = .ok (.iload_n 2, 1) := by decide +kernel
theorem dX7_takeYard_24 : decode cX7_takeYard 24 = .ok (.iaload, 1) := by decide +kernel
theorem dX7_takeYard_25 : decode cX7_takeYard 25 = .ok (.putfield 25, 3) := by decide +kernel
theorem dX7_takeYard_28 : decode cX7_takeYard 28 = .ok (.aload_n 0, 1) := by decide +kernel
theorem dX7_takeYard_29 : decode cX7_takeYard 29 = .ok (.aload_n 1, 1) := by decide +kernel
theorem dX7_takeYard_30 : decode cX7_takeYard 30 = .ok (.getfield 46, 3) := by decide +kernel
theorem dX7_takeYard_33 : decode cX7_takeYard 33 = .ok (.iload_n 2, 1) := by decide +kernel
theorem dX7_takeYard_34 : decode cX7_takeYard 34 = .ok (.iaload, 1) := by decide +kernel
theorem dX7_takeYard_35 : decode cX7_takeYard 35 = .ok (.putfield 28, 3) := by decide +kernel
theorem dX7_takeYard_38 : decode cX7_takeYard 38 = .ok (.return_, 1) := by decide +kernel
theorem dX8_init_0 : decode cX8_init 0 = .ok (.aload_n 0, 1) := by decide +kernel
theorem dX8_init_1 : decode cX8_init 1 = .ok (.invokespecial 3, 3) := by decide +kernel
theorem dX8_init_4 : decode cX8_init 4 = .ok (.aload_n 0, 1) := by decide +kernel
theorem dX8_init_5 : decode cX8_init 5 = .ok (.bipush 96, 2) := by decide +kernel
theorem dX8_init_7 : decode cX8_init 7 = .ok (.newarray .int, 2) := by decide +kernel
theorem dX8_init_9 : decode cX8_init 9 = .ok (.putfield 9, 3) := by decide +kernel
theorem dX8_init_12 : decode cX8_init 12 = .ok (.aload_n 0, 1) := by decide +kernel
theorem dX8_init_13 : decode cX8_init 13 = .ok (.iconst 0, 1) := by decide +kernel
theorem dX8_init_14 : decode cX8_init 14 = .ok (.putfield 15, 3) := by decide +kernel
theorem dX8_init_17 : decode cX8_init 17 = .ok (.return_, 1) := by decide +kernel
theorem dX8_put_0 : decode cX8_put 0 = .ok (.bipush 24, 2) := by decide +kernel
theorem dX8_put_2 : decode cX8_put 2 = .ok (.istore_n 2, 1) := by decide +kernel
theorem dX8_put_3 : decode cX8_put 3 = .ok (.iload_n 2, 1) := by decide +kernel
theorem dX8_put_4 : decode cX8_put 4 = .ok (.ifCond .lt 44, 3) := by decide +kernel
theorem dX8_put_7 : decode cX8_put 7 = .ok (.aload_n 0, 1) := by decide +kernel
theorem dX8_put_8 : decode cX8_put 8 = .ok (.getfield 15, 3) := by decide +kernel
theorem dX8_put_11 : decode cX8_put 11 = .ok (.bipush 96, 2) := by decide +kernel
theorem dX8_put_13 : decode cX8_put 13 = .ok (.if_icmp .ge 35, 3) := by decide +kernel
theorem dX8_put_16 : decode cX8_put 16 = .ok (.aload_n 0, 1) := by decide +kernel
theorem dX8_put_17 : decode cX8_put 17 = .ok (.getfield 9, 3) := by decide +kernel
theorem dX8_put_20 : decode cX8_put 20 = .ok (.aload_n 0, 1) := by decide +kernel
theorem dX8_put_21 : decode cX8_put 21 = .ok (.getfield 15, 3) := by decide +kernel
theorem dX8_put_24 : decode cX8_put 24 = .ok (.iload_n 1, 1) := by decide +kernel
theorem dX8_put_25 : decode cX8_put 25 = .ok (.iload_n 2, 1) := by decide +kernel
theorem dX8_put_26 : decode cX8_put 26 = .ok (.iushr, 1) := by decide +kernel
theorem dX8_put_27 : decode cX8_put 27 = .ok (.sipush 255, 3) := by decide +kernel
theorem dX8_put_30 : decode cX8_put 30 = .ok (.iand, 1) := by decide +kernel
theorem dX8_put_31 : decode cX8_put 31 = .ok (.iastore, 1) := by decide +kernel
theorem dX8_put_32 : decode cX8_put 32 = .ok (.aload_n 0, 1) := by decide +kernel
theorem dX8_put_33 : decode cX8_put 33 = .ok (.dup, 1) := by decide +kernel
theorem dX8_put_34 : decode cX8_put 34 = .ok (.getfield 15, 3) := by decide +kernel
theorem dX8_put_37 : decode cX8_put 37 = .ok (.iconst 1, 1) := by decide +kernel
theorem dX8_put_38 : decode cX8_put 38 = .ok (.iadd, 1) := by decide +kernel
theorem dX8_put_39 : decode cX8_put 39 = .ok (.putfield 15, 3) := by decide +kernel
theorem dX8_put_42 : decode cX8_put 42 = .ok (.iinc 2 (-8), 3) := by decide +kernel
theorem dX8_put_45 : decode cX8_put 45 = .ok (.goto (-42), 3) := by decide +kernel
theorem dX8_put_48 : decode cX8_put 48 = .ok (.return_, 1) := by decide +kernel
theorem dX9_init_0 : decode cX9_init 0 = .ok (.aload_n 0, 1) := by decide +kernel
theorem dX9_init_1 : decode cX9_init 1 = .ok (.invokespecial 3, 3) := by decide +kernel
theorem dX9_init_4 : decode cX9_init 4 = .ok (.aload_n 0, 1) := by decide +kernel
theorem dX9_init_5 : decode cX9_init 5 = .ok (.new 9, 3) := by decide +kernel
theorem dX9_init_8 : decode cX9_init 8 = .ok (.dup, 1) := by decide +kernel
theorem dX9_init_9 : decode cX9_init 9 = .ok (.invokespecial 11, 3) := by decide +kernel
theorem dX9_init_12 : decode cX9_init 12 = .ok (.putfield 12, 3) := by decide +kernel
theorem dX9_init_15 : decode cX9_init 15 = .ok (.aload_n 0, 1) := by decide +kernel
theorem dX9_init_16 : decode cX9_init 16 = .ok (.new 18, 3) := by decide +kernel
theorem dX9_init_19 : decode cX9_init 19 = .ok (.dup, 1) := by decide +kernel
theorem dX9_init_20 : decode cX9_init 20 = .ok (.invokespecial 20, 3) := by decide +kernel
theorem dX9_init_23 : decode cX9_init 23 = .ok (.putfield 21, 3) := by decide +kernel
theorem dX9_init_26 : decode cX9_init 26 = .ok (.aload_n 0, 1) := by decide +kernel
theorem dX9_init_27 : decode cX9_init 27 = .ok (.iconst 3, 1) := by decide +kernel
theorem dX9_init_28 : decode cX9_init 28 = .ok (.anewarray 25, 3) := by decide +kernel
theorem dX9_init_31 : decode cX9_init 31 = .ok (.putfield 27, 3) := by decide +kernel
theorem dX9_init_34 : decode cX9_init 34 = .ok (.aload_n 0, 1) := by decide +kernel
theorem dX9_init_35 : decode cX9_init 35 = .ok (.iconst 0, 1) := by decide +kernel
theorem dX9_init_36 : decode cX9_init 36 = .ok (.putfield 31, 3) := by decide +kernel
theorem dX9_init_39 : decode cX9_init 39 = .ok (.aload_n 0, 1) := by decide +kernel
theorem dX9_init_40 : decode cX9_init 40 = .ok (.iconst 0, 1) := by decide +kernel
theorem dX9_init_41 : decode cX9_init 41 = .ok (.putfield 35, 3) := by decide +kernel
theorem dX9_init_44 : decode cX9_init 44 = .ok (.aload_n 0, 1) := by decide +kernel
theorem dX9_init_45 : decode cX9_init 45 = .ok (.iconst 5, 1) := by decide +kernel
theorem dX9_init_46 : decode cX9_init 46 = .ok (.putfield 38, 3) := by decide +kernel
theorem dX9_init_49 : decode cX9_init 49 = .ok (.aload_n 0, 1) := by decide +kernel
theorem dX9_init_50 : decode cX9_init 50 = .ok (.iconst 3, 1) := by decide +kernel
theorem dX9_init_51 : decode cX9_init 51 = .ok (.putfield 41, 3) := by decide +kernel
theorem dX9_init_54 : decode cX9_init 54 = .ok (.aload_n 0, 1) := by decide +kernel
theorem dX9_init_55 : decode cX9_init 55 = .ok (.iconst 0, 1) := by decide +kernel
theorem dX9_init_56 : decode cX9_init 56 = .ok (.putfield 44, 3) := by decide +kernel
theorem dX9_init_59 : decode cX9_init 59 = .ok (.aload_n 0, 1) := by decide +kernel
theorem dX9_init_60 : decode cX9_init 60 = .ok (.iconst 1, 1) := by decide +kernel
theorem dX9_init_61 : decode cX9_init 61 = .ok (.putfield 47, 3) := by decide +kernel
theorem dX9_init_64 : decode cX9_init 64 = .ok (.return_, 1) := by decide +kernel
theorem dX9_become_0 : decode cX9_become 0 = .ok (.aload_n 0, 1) := by decide +kernel
theorem dX9_become_1 : decode cX9_become 1 = .ok (.getfield 12, 3) := by decide +kernel
theorem dX9_become_4 : decode cX9_become 4 = .ok (.aload_n 1, 1) := by decide +kernel
theorem dX9_become_5 : decode cX9_become 5 = .ok (.getfield 12, 3) := by decide +kernel
theorem dX9_become_8 : decode cX9_become 8 = .ok (.invokevirtual 50, 3) := by decide +kernel
theorem dX9_become_11 : decode cX9_become 11 = .ok (.aload_n 0, 1) := by decide +kernel
theorem dX9_become_12 : decode cX9_become 12 = .ok (.getfield 21, 3) := by decide +kernel
theorem dX9_become_15 : decode cX9_become 15 = .ok (.aload_n 1, 1) := by decide +kernel
theorem dX9_become_16 : decode cX9_become 16 = .ok (.getfield 21, 3) := by decide +kernel
theorem dX9_become_19 : decode cX9_become 19 = .ok (.invokevirtual 54, 3) := by decide +kernel
theorem dX9_become_22 : decode cX9_become 22 = .ok (.iconst 0, 1) := by decide +kernel
theorem dX9_become_23 : decode cX9_become 23 = .ok (.istore_n 2, 1) := by decide +kernel
theorem dX9_become_24 : decode cX9_become 24 = .ok (.iload_n 2, 1) := by decide +kernel
theorem dX9_become_25 : decode cX9_become 25 = .ok (.iconst 3, 1) := by decide +kernel
theorem dX9_become_26 : decode cX9_become 26 = .ok (.if_icmp .ge 21, 3) := by decide +kernel
theorem dX9_become_29 : decode cX9_become 29 = .ok (.aload_n 0, 1) := by decide +kernel
theorem dX9_become_30 : decode cX9_become 30 = .ok (.getfield 27, 3) := by decide +kernel
theorem dX9_become_33 : decode cX9_become 33 = .ok (.iload_n 2, 1) := by decide +kernel
theorem dX9_become_34 : decode cX9_become 34 = .ok (.aload_n 1, 1) := by decide +kernel
theorem dX9_become_35 : decode cX9_become 35 = .ok (.getfield 27, 3) := by decide +kernel
theorem dX9_become_38 : decode cX9_become 38 = .ok (.iload_n 2, 1) := by decide +kernel
theorem dX9_become_39 : decode cX9_become 39 = .ok (.aaload, 1) := by decide +kernel
theorem dX9_become_40 : decode cX9_become 40 = .ok (.aastore, 1) := by decide +kernel
theorem dX9_become_41 : decode cX9_become 41 = .ok (.iinc 2 1, 3) := by decide +kernel
theorem dX9_become_44 : decode cX9_become 44 = .ok (.goto (-20), 3) := by decide +kernel
theorem dX9_become_47 : decode cX9_become 47 = .ok (.aload_n 0, 1) := by decide +kernel
theorem dX9_become_48 : decode cX9_become 48 = .ok (.aload_n 1, 1) := by decide +kernel
theorem dX9_become_49 : decode cX9_become 49 = .ok (.getfield 31, 3) := by decide +kernel
theorem dX9_become_52 : decode cX9_become 52 = .ok (.putfield 31, 3) := by decide +kernel
theorem dX9_become_55 : decode cX9_become 55 = .ok (.aload_n 0, 1) := by decide +kernel
theorem dX9_become_56 : decode cX9_become 56 = .ok (.aload_n 1, 1) := by decide +kernel
theorem dX9_become_57 : decode cX9_become 57 = .ok (.getfield 35, 3) := by decide +kernel
theorem dX9_become_60 : decode cX9_become 60 = .ok (.putfield 35, 3) := by decide +kernel
theorem dX9_become_63 : decode cX9_become 63 = .ok (.aload_n 0, 1) := by decide +kernel
theorem dX9_become_64 : decode cX9_become 64 = .ok (.aload_n 1, 1) := by decide +kernel
theorem dX9_become_65 : decode cX9_become 65 = .ok (.getfield 38, 3) := by decide +kernel
theorem dX9_become_68 : decode cX9_become 68 = .ok (.putfield 38, 3) := by decide +kernel
theorem dX9_become_71 : decode cX9_become 71 = .ok (.aload_n 0, 1) := by decide +kernel
theorem dX9_become_72 : decode cX9_become 72 = .ok (.aload_n 1, 1) := by decide +kernel
theorem dX9_become_73 : decode cX9_become 73 = .ok (.getfield 41, 3) := by decide +kernel
theorem dX9_become_76 : decode cX9_become 76 = .ok (.putfield 41, 3) := by decide +kernel
theorem dX9_become_79 : decode cX9_become 79 = .ok (.aload_n 0, 1) := by decide +kernel
theorem dX9_become_80 : decode cX9_become 80 = .ok (.aload_n 1, 1) := by decide +kernel
theorem dX9_become_81 : decode cX9_become 81 = .ok (.getfield 44, 3) := by decide +kernel
theorem dX9_become_84 : decode cX9_become 84 = .ok (.putfield 44, 3) := by decide +kernel
theorem dX9_become_87 : decode cX9_become 87 = .ok (.aload_n 0, 1) := by decide +kernel
theorem dX9_become_88 : decode cX9_become 88 = .ok (.aload_n 1, 1) := by decide +kernel
theorem dX9_become_89 : decode cX9_become 89 = .ok (.getfield 47, 3) := by decide +kernel
theorem dX9_become_92 : decode cX9_become 92 = .ok (.putfield 47, 3) := by decide +kernel
theorem dX9_become_95 : decode cX9_become 95 = .ok (.return_, 1) := by decide +kernel
theorem dX9_adopt_0 : decode cX9_adopt 0 = .ok (.aload_n 0, 1) := by decide +kernel
theorem dX9_adopt_1 : decode cX9_adopt 1 = .ok (.getfield 27, 3) := by decide +kernel
theorem dX9_adopt_4 : decode cX9_adopt 4 = .ok (.aload_n 1, 1) := by decide +kernel
theorem dX9_adopt_5 : decode cX9_adopt 5 = .ok (.getfield 57, 3) := by decide +kernel
theorem dX9_adopt_8 : decode cX9_adopt 8 = .ok (.aload_n 1, 1) := by decide +kernel
theorem dX9_adopt_9 : decode cX9_adopt 9 = .ok (.aastore, 1) := by decide +kernel
theorem dX9_adopt_10 : decode cX9_adopt 10 = .ok (.aload_n 0, 1) := by decide +kernel
theorem dX9_adopt_11 : decode cX9_adopt 11 = .ok (.dup, 1) := by decide +kernel
theorem dX9_adopt_12 : decode cX9_adopt 12 = .ok (.getfield 31, 3) := by decide +kernel
theorem dX9_adopt_15 : decode cX9_adopt 15 = .ok (.iconst 1, 1) := by decide +kernel
theorem dX9_adopt_16 : decode cX9_adopt 16 = .ok (.iadd, 1) := by decide +kernel
theorem dX9_adopt_17 : decode cX9_adopt 17 = .ok (.putfield 31, 3) := by decide +kernel
theorem dX9_adopt_20 : decode cX9_adopt 20 = .ok (.return_, 1) := by decide +kernel
theorem dX9_drawnRest_0 : decode cX9_drawnRest 0 = .ok (.aload_n 0, 1) := by decide +kernel
theorem dX9_drawnRest_1 : decode cX9_drawnRest 1 = .ok (.aload_n 0, 1) := by decide +kernel
theorem dX9_drawnRest_2 : decode cX9_drawnRest 2 = .ok (.getfield 47, 3) := by decide +kernel
theorem dX9_drawnRest_5 : decode cX9_drawnRest 5 = .ok (.ldc 60, 2) := by decide +kernel
theorem dX9_drawnRest_7 : decode cX9_drawnRest 7 = .ok (.imul, 1) := by decide +kernel
theorem dX9_drawnRest_8 : decode cX9_drawnRest 8 = .ok (.sipush 12345, 3) := by decide +kernel
theorem dX9_drawnRest_11 : decode cX9_drawnRest 11 = .ok (.iadd, 1) := by decide +kernel
theorem dX9_drawnRest_12 : decode cX9_drawnRest 12 = .ok (.putfield 47, 3) := by decide +kernel
theorem dX9_drawnRest_15 : decode cX9_drawnRest 15 = .ok (.iload_n 1, 1) := by decide +kernel
theorem dX9_drawnRest_16 : decode cX9_drawnRest 16 = .ok (.ifCond .le 15, 3) := by decide +kernel
theorem dX9_drawnRest_19 : decode cX9_drawnRest 19 = .ok (.aload_n 0, 1) := by decide +kernel
theorem dX9_drawnRest_20 : decode cX9_drawnRest 20 = .ok (.getfield 47, 3) := by decide +kernel
theorem dX9_drawnRest_23 : decode cX9_drawnRest 23 = .ok (.bipush 8, 2) := by decide +kernel
theorem dX9_drawnRest_25 : decode cX9_drawnRest 25 = .ok (.iushr, 1) := by decide +kernel
theorem dX9_drawnRest_26 : decode cX9_drawnRest 26 = .ok (.iload_n 1, 1) := by decide +kernel
theorem dX9_drawnRest_27 : decode cX9_drawnRest 27 = .ok (.irem, 1) := by decide +kernel
theorem dX9_drawnRest_28 : decode cX9_drawnRest 28 = .ok (.goto 4, 3) := by decide +kernel
theorem dX9_drawnRest_31 : decode cX9_drawnRest 31 = .ok (.iconst 0, 1) := by decide +kernel
theorem dX9_drawnRest_32 : decode cX9_drawnRest 32 = .ok (.ireturn, 1) := by decide +kernel
theorem dX9_ballSize_0 : decode cX9_ballSize 0 = .ok (.aload_n 0, 1) := by decide +kernel
theorem dX9_ballSize_1 : decode cX9_ballSize 1 = .ok (.getfield 27, 3) := by decide +kernel
theorem dX9_ballSize_4 : decode cX9_ballSize 4 = .ok (.iconst 0, 1) := by decide +kernel
theorem dX9_ballSize_5 : decode cX9_ballSize 5 = .ok (.aaload, 1) := by decide +kernel
theorem dX9_ballSize_6 : decode cX9_ballSize 6 = .ok (.astore_n 1, 1) := by decide +kernel
theorem dX9_ballSize_7 : decode cX9_ballSize 7 = .ok (.aload_n 1, 1) := by decide +kernel
theorem dX9_ballSize_8 : decode cX9_ballSize 8 = .ok (.ifnonnull 16, 3) := by decide +kernel
theorem dX9_ballSize_11 : decode cX9_ballSize 11 = .ok (.aload_n 0, 1) := by decide +kernel
theorem dX9_ballSize_12 : decode cX9_ballSize 12 = .ok (.getfield 21, 3) := by decide +kernel
theorem dX9_ballSize_15 : decode cX9_ballSize 15 = .ok (.getfield 61, 3) := by decide +kernel
theorem dX9_ballSize_18 : decode cX9_ballSize 18 = .ok (.bipush 10, 2) := by decide +kernel
theorem dX9_ballSize_20 : decode cX9_ballSize 20 = .ok (.idiv, 1) := by decide +kernel
theorem dX9_ballSize_21 : decode cX9_ballSize 21 = .ok (.goto 22, 3) := by decide +kernel
theorem dX9_ballSize_24 : decode cX9_ballSize 24 = .ok (.aload_n 1, 1) := by decide +kernel
theorem dX9_ballSize_25 : decode cX9_ballSize 25 = .ok (.aload_n 0, 1) := by decide +kernel
theorem dX9_ballSize_26 : decode cX9_ballSize 26 = .ok (.getfield 21, 3) := by decide +kernel
theorem dX9_ballSize_29 : decode cX9_ballSize 29 = .ok (.getfield 61, 3) := by decide +kernel
theorem dX9_ballSize_32 : decode cX9_ballSize 32 = .ok (.aload_n 0, 1) := by decide +kernel
theorem dX9_ballSize_33 : decode cX9_ballSize 33 = .ok (.getfield 21, 3) := by decide +kernel
theorem dX9_ballSize_36 : decode cX9_ballSize 36 = .ok (.getfield 64, 3) := by decide +kernel
theorem dX9_ballSize_39 : decode cX9_ballSize 39 = .ok (.iconst 0, 1) := by decide +kernel
theorem dX9_ballSize_40 : decode cX9_ballSize 40 = .ok (.invokevirtual 67, 3) := by decide +kernel
theorem dX9_ballSize_43 : decode cX9_ballSize 43 = .ok (.istore_n 2, 1) := by decide +kernel
theorem dX9_ballSize_44 : decode cX9_ballSize 44 = .ok (.iload_n 2, 1) := by decide +kernel
theorem dX9_ballSize_45 : decode cX9_ballSize 45 = .ok (.sipush 999, 3) := by decide +kernel
theorem dX9_ballSize_48 : decode cX9_ballSize 48 = .ok (.invokestatic 71, 3) := by decide +kernel
theorem dX9_ballSize_51 : decode cX9_ballSize 51 = .ok (.ireturn, 1) := by decide +kernel
theorem dX9_gives_0 : decode cX9_gives 0 = .ok (.aload_n 0, 1) := by decide +kernel
theorem dX9_gives_1 : decode cX9_gives 1 = .ok (.getfield 12, 3) := by decide +kernel
theorem dX9_gives_4 : decode cX9_gives 4 = .ok (.iload_n 1, 1) := by decide +kernel
theorem dX9_gives_5 : decode cX9_gives 5 = .ok (.invokevirtual 75, 3) := by decide +kernel
theorem dX9_gives_8 : decode cX9_gives 8 = .ok (.ifCond .ne 5, 3) := by decide +kernel
theorem dX9_gives_11 : decode cX9_gives 11 = .ok (.iconst 0, 1) := by decide +kernel
theorem dX9_gives_12 : decode cX9_gives 12 = .ok (.ireturn, 1) := by decide +kernel
theorem dX9_gives_13 : decode cX9_gives 13 = .ok (.aload_n 0, 1) := by decide +kernel
theorem dX9_gives_14 : decode cX9_gives 14 = .ok (.getfield 12, 3) := by decide +kernel
theorem dX9_gives_17 : decode cX9_gives 17 = .ok (.getfield 79, 3) := by decide +kernel
theorem dX9_gives_20 : decode cX9_gives 20 = .ok (.iload_n 1, 1) := by decide +kernel
theorem dX9_gives_21 : decode cX9_gives 21 = .ok (.iaload, 1) := by decide +kernel
theorem dX9_gives_22 : decode cX9_gives 22 = .ok (.istore_n 2, 1) := by decide +kernel
theorem dX9_gives_23 : decode cX9_gives 23 = .ok (.aload_n 0, 1) := by decide +kernel
theorem dX9_gives_24 : decode cX9_gives 24 = .ok (.getfield 27, 3) := by decide +kernel
theorem dX9_gives_27 : decode cX9_gives 27 = .ok (.iconst 1, 1) := by decide +kernel
theorem dX9_gives_28 : decode cX9_gives 28 = .ok (.aaload, 1) := by decide +kernel
theorem dX9_gives_29 : decode cX9_gives 29 = .ok (.astore_n 3, 1) := by decide +kernel
theorem dX9_gives_30 : decode cX9_gives 30 = .ok (.aload_n 3, 1) := by decide +kernel
theorem dX9_gives_31 : decode cX9_gives 31 = .ok (.ifnonnull 9, 3) := by decide +kernel
theorem dX9_gives_34 : decode cX9_gives 34 = .ok (.iload_n 2, 1) := by decide +kernel
theorem dX9_gives_35 : decode cX9_gives 35 = .ok (.iconst 2, 1) := by decide +kernel
theorem dX9_gives_36 : decode cX9_gives 36 = .ok (.idiv, 1) := by decide +kernel
theorem dX9_gives_37 : decode cX9_gives 37 = .ok (.goto 23, 3) := by decide +kernel
theorem dX9_gives_40 : decode cX9_gives 40 = .ok (.aload_n 3, 1) := by decide +kernel
theorem dX9_gives_41 : decode cX9_gives 41 = .ok (.aload_n 0, 1) := by decide +kernel
theorem dX9_gives_42 : decode cX9_gives 42 = .ok (.getfield 21, 3) := by decide +kernel
theorem dX9_gives_45 : decode cX9_gives 45 = .ok (.getfield 61, 3) := by decide +kernel
theorem dX9_gives_48 : decode cX9_gives 48 = .ok (.iload_n 2, 1) := by decide +kernel
theorem dX9_gives_49 : decode cX9_gives 49 = .ok (.aload_n 0, 1) := by decide +kernel
theorem dX9_gives_50 : decode cX9_gives 50 = .ok (.getfield 35, 3) := by decide +kernel
theorem dX9_gives_53 : decode cX9_gives 53 = .ok (.invokevirtual 67, 3) := by decide +kernel
theorem dX9_gives_56 : decode cX9_gives 56 = .ok (.iload_n 2, 1) := by decide +kernel
theorem dX9_gives_57 : decode cX9_gives 57 = .ok (.invokestatic 71, 3) := by decide +kernel
theorem dX9_gives_60 : decode cX9_gives 60 = .ok (.istore 4, 2) := by decide +kernel
theorem dX9_gives_62 : decode cX9_gives 62 = .ok (.aload_n 0, 1) := by decide +kernel
theorem dX9_gives_63 : decode cX9_gives 63 = .ok (.getfield 12, 3) := by decide +kernel
theorem dX9_gives_66 : decode cX9_gives 66 = .ok (.getfield 83, 3) := by decide +kernel
theorem dX9_gives_69 : decode cX9_gives 69 = .ok (.iload_n 1, 1) := by decide +kernel
theorem dX9_gives_70 : decode cX9_gives 70 = .ok (.iaload, 1) := by decide +kernel
theorem dX9_gives_71 : decode cX9_gives 71 = .ok (.iload 4, 2) := by decide +kernel
theorem dX9_gives_73 : decode cX9_gives 73 = .ok (.iload_n 2, 1) := by decide +kernel
theorem dX9_gives_74 : decode cX9_gives 74 = .ok (.invokestatic 86, 3) := by decide +kernel
theorem dX9_gives_77 : decode cX9_gives 77 = .ok (.ireturn, 1) := by decide +kernel
theorem dX9_fineOf_0 : decode cX9_fineOf 0 = .ok (.aload_n 0, 1) := by decide +kernel
theorem dX9_fineOf_1 : decode cX9_fineOf 1 = .ok (.getfield 12, 3) := by decide +kernel
theorem dX9_fineOf_4 : decode cX9_fineOf 4 = .ok (.iload_n 1, 1) := by decide +kernel
theorem dX9_fineOf_5 : decode cX9_fineOf 5 = .ok (.invokevirtual 75, 3) := by decide +kernel
theorem dX9_fineOf_8 : decode cX9_fineOf 8 = .ok (.ifCond .ne 5, 3) := by decide +kernel
theorem dX9_fineOf_11 : decode cX9_fineOf 11 = .ok (.iconst 0, 1) := by decide +kernel
theorem dX9_fineOf_12 : decode cX9_fineOf 12 = .ok (.ireturn, 1) := by decide +kernel
theorem dX9_fineOf_13 : decode cX9_fineOf 13 = .ok (.aload_n 0, 1) := by decide +kernel
theorem dX9_fineOf_14 : decode cX9_fineOf 14 = .ok (.getfield 27, 3) := by decide +kernel
theorem dX9_fineOf_17 : decode cX9_fineOf 17 = .ok (.iconst 2, 1) := by decide +kernel
theorem dX9_fineOf_18 : decode cX9_fineOf 18 = .ok (.aaload, 1) := by decide +kernel
theorem dX9_fineOf_19 : decode cX9_fineOf 19 = .ok (.astore_n 2, 1) := by decide +kernel
theorem dX9_fineOf_20 : decode cX9_fineOf 20 = .ok (.aload_n 2, 1) := by decide +kernel
theorem dX9_fineOf_21 : decode cX9_fineOf 21 = .ok (.ifnonnull 15, 3) := by decide +kernel
theorem dX9_fineOf_24 : decode cX9_fineOf 24 = .ok (.aload_n 0, 1) := by decide +kernel
theorem dX9_fineOf_25 : decode cX9_fineOf 25 = .ok (.getfield 12, 3) := by decide +kernel
theorem dX9_fineOf_28 : decode cX9_fineOf 28 = .ok (.getfield 91, 3) := by decide +kernel
theorem dX9_fineOf_31 : decode cX9_fineOf 31 = .ok (.iload_n 1, 1) := by decide +kernel
theorem dX9_fineOf_32 : decode cX9_fineOf 32 = .ok (.iaload, 1) := by decide +kernel
theorem dX9_fineOf_33 : decode cX9_fineOf 33 = .ok (.goto 24, 3) := by decide +kernel
theorem dX9_fineOf_36 : decode cX9_fineOf 36 = .ok (.aload_n 2, 1) := by decide +kernel
theorem dX9_fineOf_37 : decode cX9_fineOf 37 = .ok (.aload_n 0, 1) := by decide +kernel
theorem dX9_fineOf_38 : decode cX9_fineOf 38 = .ok (.getfield 21, 3) := by decide +kernel
theorem dX9_fineOf_41 : decode cX9_fineOf 41 = .ok (.getfield 61, 3) := by decide +kernel
theorem dX9_fineOf_44 : decode cX9_fineOf 44 = .ok (.aload_n 0, 1) := by decide +kernel
theorem dX9_fineOf_45 : decode cX9_fineOf 45 = .ok (.getfield 12, 3) := by decide +kernel
theorem dX9_fineOf_48 : decode cX9_fineOf 48 = .ok (.getfield 91, 3) := by decide +kernel
theorem dX9_fineOf_51 : decode cX9_fineOf 51 = .ok (.iload_n 1, 1) := by decide +kernel
theorem dX9_fineOf_52 : decode cX9_fineOf 52 = .ok (.iaload, 1) := by decide +kernel
theorem dX9_fineOf_53 : decode cX9_fineOf 53 = .ok (.iconst 0, 1) := by decide +kernel
theorem dX9_fineOf_54 : decode cX9_fineOf 54 = .ok (.invokevirtual 67, 3) := by decide +kernel
theorem dX9_fineOf_57 : decode cX9_fineOf 57 = .ok (.ireturn, 1) := by decide +kernel
theorem dX9_passDays_0 : decode cX9_passDays 0 = .ok (.iconst 0, 1) := by decide +kernel
theorem dX9_passDays_1 : decode cX9_passDays 1 = .ok (.istore_n 2, 1) := by decide +kernel
theorem dX9_passDays_2 : decode cX9_passDays 2 = .ok (.iconst 0, 1) := by decide +kernel
theorem dX9_passDays_3 : decode cX9_passDays 3 = .ok (.istore_n 3, 1) := by decide +kernel
theorem dX9_passDays_4 : decode cX9_passDays 4 = .ok (.iload_n 3, 1) := by decide +kernel
theorem dX9_passDays_5 : decode cX9_passDays 5 = .ok (.iload_n 1, 1) := by decide +kernel
theorem dX9_passDays_6 : decode cX9_passDays 6 = .ok (.if_icmp .ge 16, 3) := by decide +kernel
theorem dX9_passDays_9 : decode cX9_passDays 9 = .ok (.iload_n 2, 1) := by decide +kernel
theorem dX9_passDays_10 : decode cX9_passDays 10 = .ok (.aload_n 0, 1) := by decide +kernel
theorem dX9_passDays_11 : decode cX9_passDays 11 = .ok (.invokevirtual 94, 3) := by decide +kernel
theorem dX9_passDays_14 : decode cX9_passDays 14 = .ok (.iadd, 1) := by decide +kernel
theorem dX9_passDays_15 : decode cX9_passDays 15 = .ok (.istore_n 2, 1) := by decide +kernel
theorem dX9_passDays_16 : decode cX9_passDays 16 = .ok (.iinc 3 1, 3) := by decide +kernel
theorem dX9_passDays_19 : decode cX9_passDays 19 = .ok (.goto (-15), 3) := by decide +kernel
theorem dX9_passDays_22 : decode cX9_passDays 22 = .ok (.iload_n 2, 1) := by decide +kernel
theorem dX9_passDays_23 : decode cX9_passDays 23 = .ok (.ireturn, 1) := by decide +kernel
theorem dX9_passDay_0 : decode cX9_passDay 0 = .ok (.iconst 0, 1) := by decide +kernel
theorem dX9_passDay_1 : decode cX9_passDay 1 = .ok (.istore_n 1, 1) := by decide +kernel
theorem dX9_passDay_2 : decode cX9_passDay 2 = .ok (.aload_n 0, 1) := by decide +kernel
theorem dX9_passDay_3 : decode cX9_passDay 3 = .ok (.getfield 12, 3) := by decide +kernel
theorem dX9_passDay_6 : decode cX9_passDay 6 = .ok (.aload_n 0, 1) := by decide +kernel
theorem dX9_passDay_7 : decode cX9_passDay 7 = .ok (.getfield 21, 3) := by decide +kernel
theorem dX9_passDay_10 : decode cX9_passDay 10 = .ok (.getfield 98, 3) := by decide +kernel
theorem dX9_passDay_13 : decode cX9_passDay 13 = .ok (.invokevirtual 75, 3) := by decide +kernel
theorem dX9_passDay_16 : decode cX9_passDay 16 = .ok (.ifCond .eq 121, 3) := by decide +kernel
theorem dX9_passDay_19 : decode cX9_passDay 19 = .ok (.aload_n 0, 1) := by decide +kernel
theorem dX9_passDay_20 : decode cX9_passDay 20 = .ok (.getfield 21, 3) := by decide +kernel
theorem dX9_passDay_23 : decode cX9_passDay 23 = .ok (.getfield 98, 3) := by decide +kernel
theorem dX9_passDay_26 : decode cX9_passDay 26 = .ok (.istore_n 2, 1) := by decide +kernel
theorem dX9_passDay_27 : decode cX9_passDay 27 = .ok (.aload_n 0, 1) := by decide +kernel
theorem dX9_passDay_28 : decode cX9_passDay 28 = .ok (.aload_n 0, 1) := by decide +kernel
theorem dX9_passDay_29 : decode cX9_passDay 29 = .ok (.getfield 38, 3) := by decide +kernel
theorem dX9_passDay_32 : decode cX9_passDay 32 = .ok (.iconst 1, 1) := by decide +kernel
theorem dX9_passDay_33 : decode cX9_passDay 33 = .ok (.iadd, 1) := by decide +kernel
theorem dX9_passDay_34 : decode cX9_passDay 34 = .ok (.invokevirtual 101, 3) := by decide +kernel
theorem dX9_passDay_37 : decode cX9_passDay 37 = .ok (.istore_n 3, 1) := by decide +kernel
theorem dX9_passDay_38 : decode cX9_passDay 38 = .ok (.aload_n 0, 1) := by decide +kernel
theorem dX9_passDay_39 : decode cX9_passDay 39 = .ok (.getfield 21, 3) := by decide +kernel
theorem dX9_passDay_42 : decode cX9_passDay 42 = .ok (.aload_n 0, 1) := by decide +kernel
theorem dX9_passDay_43 : decode cX9_passDay 43 = .ok (.getfield 12, 3) := by decide +kernel
theorem dX9_passDay_46 : decode cX9_passDay 46 = .ok (.getfield 83, 3) := by decide +kernel
theorem dX9_passDay_49 : decode cX9_passDay 49 = .ok (.iload_n 2, 1) := by decide +kernel
theorem dX9_passDay_50 : decode cX9_passDay 50 = .ok (.iaload, 1) := by decide +kernel
theorem dX9_passDay_51 : decode cX9_passDay 51 = .ok (.iconst 5, 1) := by decide +kernel
theorem dX9_passDay_52 : decode cX9_passDay 52 = .ok (.if_icmp .ne 9, 3) := by decide +kernel
theorem dX9_passDay_55 : decode cX9_passDay 55 = .ok (.iload_n 3, 1) := by decide +kernel
theorem dX9_passDay_56 : decode cX9_passDay 56 = .ok (.iconst 2, 1) := by decide +kernel
theorem dX9_passDay_57 : decode cX9_passDay 57 = .ok (.idiv, 1) := by decide +kernel
theorem dX9_passDay_58 : decode cX9_passDay 58 = .ok (.goto 4, 3) := by decide +kernel
theorem dX9_passDay_61 : decode cX9_passDay 61 = .ok (.iload_n 3, 1) := by decide +kernel
theorem dX9_passDay_62 : decode cX9_passDay 62 = .ok (.invokevirtual 105, 3) := by decide +kernel
theorem dX9_passDay_65 : decode cX9_passDay 65 = .ok (.aload_n 0, 1) := by decide +kernel
theorem dX9_passDay_66 : decode cX9_passDay 66 = .ok (.iload_n 2, 1) := by decide +kernel
theorem dX9_passDay_67 : decode cX9_passDay 67 = .ok (.invokevirtual 109, 3) := by decide +kernel
theorem dX9_passDay_70 : decode cX9_passDay 70 = .ok (.istore 4, 2) := by decide +kernel
theorem dX9_passDay_72 : decode cX9_passDay 72 = .ok (.aload_n 0, 1) := by decide +kernel
theorem dX9_passDay_73 : decode cX9_passDay 73 = .ok (.getfield 12, 3) := by decide +kernel
theorem dX9_passDay_76 : decode cX9_passDay 76 = .ok (.getfield 79, 3) := by decide +kernel
theorem dX9_passDay_79 : decode cX9_passDay 79 = .ok (.iload_n 2, 1) := by decide +kernel
theorem dX9_passDay_80 : decode cX9_passDay 80 = .ok (.dup2, 1) := by decide +kernel
theorem dX9_passDay_81 : decode cX9_passDay 81 = .ok (.iaload, 1) := by decide +kernel
theorem dX9_passDay_82 : decode cX9_passDay 82 = .ok (.iload 4, 2) := by decide +kernel
theorem dX9_passDay_84 : decode cX9_passDay 84 = .ok (.isub, 1) := by decide +kernel
theorem dX9_passDay_85 : decode cX9_passDay 85 = .ok (.iastore, 1) := by decide +kernel
theorem dX9_passDay_86 : decode cX9_passDay 86 = .ok (.aload_n 0, 1) := by decide +kernel
theorem dX9_passDay_87 : decode cX9_passDay 87 = .ok (.getfield 21, 3) := by decide +kernel
theorem dX9_passDay_90 : decode cX9_passDay 90 = .ok (.iload_n 2, 1) := by decide +kernel
theorem dX9_passDay_91 : decode cX9_passDay 91 = .ok (.iload 4, 2) := by decide +kernel
theorem dX9_passDay_93 : decode cX9_passDay 93 = .ok (.invokevirtual 112, 3) := by decide +kernel
theorem dX9_passDay_96 : decode cX9_passDay 96 = .ok (.aload_n 0, 1) := by decide +kernel
theorem dX9_passDay_97 : decode cX9_passDay 97 = .ok (.aload_n 0, 1) := by decide +kernel
theorem dX9_passDay_98 : decode cX9_passDay 98 = .ok (.getfield 12, 3) := by decide +kernel
theorem dX9_passDay_101 : decode cX9_passDay 101 = .ok (.getfield 83, 3) := by decide +kernel
theorem dX9_passDay_104 : decode cX9_passDay 104 = .ok (.iload_n 2, 1) := by decide +kernel
theorem dX9_passDay_105 : decode cX9_passDay 105 = .ok (.iaload, 1) := by decide +kernel
theorem dX9_passDay_106 : decode cX9_passDay 106 = .ok (.aload_n 0, 1) := by decide +kernel
theorem dX9_passDay_107 : decode cX9_passDay 107 = .ok (.getfield 35, 3) := by decide +kernel
theorem dX9_passDay_110 : decode cX9_passDay 110 = .ok (.invokestatic 116, 3) := by decide +kernel
theorem dX9_passDay_113 : decode cX9_passDay 113 = .ok (.aload_n 0, 1) := by decide +kernel
theorem dX9_passDay_114 : decode cX9_passDay 114 = .ok (.getfield 44, 3) := by decide +kernel
theorem dX9_passDay_117 : decode cX9_passDay 117 = .ok (.iadd, 1) := by decide +kernel
theorem dX9_passDay_118 : decode cX9_passDay 118 = .ok (.aload_n 0, 1) := by decide +kernel
theorem dX9_passDay_119 : decode cX9_passDay 119 = .ok (.invokevirtual 119, 3) := by decide +kernel
theorem dX9_passDay_122 : decode cX9_passDay 122 = .ok (.invokevirtual 122, 3) := by decide +kernel
theorem dX9_passDay_125 : decode cX9_passDay 125 = .ok (.istore_n 1, 1) := by decide +kernel
theorem dX9_passDay_126 : decode cX9_passDay 126 = .ok (.aload_n 0, 1) := by decide +kernel
theorem dX9_passDay_127 : decode cX9_passDay 127 = .ok (.getfield 12, 3) := by decide +kernel
theorem dX9_passDay_130 : decode cX9_passDay 130 = .ok (.aload_n 0, 1) := by decide +kernel
theorem dX9_passDay_131 : decode cX9_passDay 131 = .ok (.getfield 41, 3) := by decide +kernel
theorem dX9_passDay_134 : decode cX9_passDay 134 = .ok (.invokevirtual 125, 3) := by decide +kernel
theorem dX9_passDay_137 : decode cX9_passDay 137 = .ok (.aload_n 0, 1) := by decide +kernel
theorem dX9_passDay_138 : decode cX9_passDay 138 = .ok (.dup, 1) := by decide +kernel
theorem dX9_passDay_139 : decode cX9_passDay 139 = .ok (.getfield 35, 3) := by decide +kernel
theorem dX9_passDay_142 : decode cX9_passDay 142 = .ok (.iconst 1, 1) := by decide +kernel
theorem dX9_passDay_143 : decode cX9_passDay 143 = .ok (.iadd, 1) := by decide +kernel
theorem dX9_passDay_144 : decode cX9_passDay 144 = .ok (.putfield 35, 3) := by decide +kernel
theorem dX9_passDay_147 : decode cX9_passDay 147 = .ok (.iload_n 1, 1) := by decide +kernel
theorem dX9_passDay_148 : decode cX9_passDay 148 = .ok (.ireturn, 1) := by decide +kernel
theorem dX9_roll_0 : decode cX9_roll 0 = .ok (.aload_n 0, 1) := by decide +kernel
theorem dX9_roll_1 : decode cX9_roll 1 = .ok (.getfield 12, 3) := by decide +kernel
theorem dX9_roll_4 : decode cX9_roll 4 = .ok (.getfield 128, 3) := by decide +kernel
theorem dX9_roll_7 : decode cX9_roll 7 = .ok (.iconst 1, 1) := by decide +kernel
theorem dX9_roll_8 : decode cX9_roll 8 = .ok (.isub, 1) := by decide +kernel
theorem dX9_roll_9 : decode cX9_roll 9 = .ok (.istore_n 3, 1) := by decide +kernel
theorem dX9_roll_10 : decode cX9_roll 10 = .ok (.iconst 0, 1) := by decide +kernel
theorem dX9_roll_11 : decode cX9_roll 11 = .ok (.istore 4, 2) := by decide +kernel
theorem dX9_roll_13 : decode cX9_roll 13 = .ok (.iconst 0, 1) := by decide +kernel
theorem dX9_roll_14 : decode cX9_roll 14 = .ok (.istore 5, 2) := by decide +kernel
theorem dX9_roll_16 : decode cX9_roll 16 = .ok (.iload 5, 2) := by decide +kernel
theorem dX9_roll_18 : decode cX9_roll 18 = .ok (.iload_n 1, 1) := by decide +kernel
theorem dX9_roll_19 : decode cX9_roll 19 = .ok (.if_icmp .ge 60, 3) := by decide +kernel
theorem dX9_roll_22 : decode cX9_roll 22 = .ok (.iload 4, 2) := by decide +kernel
theorem dX9_roll_24 : decode cX9_roll 24 = .ok (.aload_n 0, 1) := by decide +kernel
theorem dX9_roll_25 : decode cX9_roll 25 = .ok (.getfield 12, 3) := by decide +kernel
theorem dX9_roll_28 : decode cX9_roll 28 = .ok (.aload_n 0, 1) := by decide +kernel
theorem dX9_roll_29 : decode cX9_roll 29 = .ok (.getfield 21, 3) := by decide +kernel
theorem dX9_roll_32 : decode cX9_roll 32 = .ok (.getfield 98, 3) := by decide +kernel
theorem dX9_roll_35 : decode cX9_roll 35 = .ok (.iload_n 2, 1) := by decide +kernel
theorem dX9_roll_36 : decode cX9_roll 36 = .ok (.invokevirtual 131, 3) := by decide +kernel
theorem dX9_roll_39 : decode cX9_roll 39 = .ok (.iadd, 1) := by decide +kernel
theorem dX9_roll_40 : decode cX9_roll 40 = .ok (.istore 4, 2) := by decide +kernel
theorem dX9_roll_42 : decode cX9_roll 42 = .ok (.aload_n 0, 1) := by decide +kernel
theorem dX9_roll_43 : decode cX9_roll 43 = .ok (.getfield 21, 3) := by decide +kernel
theorem dX9_roll_46 : decode cX9_roll 46 = .ok (.aload_n 0, 1) := by decide +kernel
theorem dX9_roll_47 : decode cX9_roll 47 = .ok (.getfield 21, 3) := by decide +kernel
theorem dX9_roll_50 : decode cX9_roll 50 = .ok (.getfield 98, 3) := by decide +kernel
theorem dX9_roll_53 : decode cX9_roll 53 = .ok (.iload_n 3, 1) := by decide +kernel
theorem dX9_roll_54 : decode cX9_roll 54 = .ok (.if_icmp .lt 7, 3) := by decide +kernel
theorem dX9_roll_57 : decode cX9_roll 57 = .ok (.iconst 0, 1) := by decide +kernel
theorem dX9_roll_58 : decode cX9_roll 58 = .ok (.goto 12, 3) := by decide +kernel
theorem dX9_roll_61 : decode cX9_roll 61 = .ok (.aload_n 0, 1) := by decide +kernel
theorem dX9_roll_62 : decode cX9_roll 62 = .ok (.getfield 21, 3) := by decide +kernel
theorem dX9_roll_65 : decode cX9_roll 65 = .ok (.getfield 98, 3) := by decide +kernel
theorem dX9_roll_68 : decode cX9_roll 68 = .ok (.iconst 1, 1) := by decide +kernel
theorem dX9_roll_69 : decode cX9_roll 69 = .ok (.iadd, 1) := by decide +kernel
theorem dX9_roll_70 : decode cX9_roll 70 = .ok (.putfield 98, 3) := by decide +kernel
theorem dX9_roll_73 : decode cX9_roll 73 = .ok (.iinc 5 1, 3) := by decide +kernel
theorem dX9_roll_76 : decode cX9_roll 76 = .ok (.goto (-60), 3) := by decide +kernel
theorem dX9_roll_79 : decode cX9_roll 79 = .ok (.iconst 0, 1) := by decide +kernel
theorem dX9_roll_80 : decode cX9_roll 80 = .ok (.istore 5, 2) := by decide +kernel
theorem dX9_roll_82 : decode cX9_roll 82 = .ok (.iload 5, 2) := by decide +kernel
theorem dX9_roll_84 : decode cX9_roll 84 = .ok (.iload_n 1, 1) := by decide +kernel
theorem dX9_roll_85 : decode cX9_roll 85 = .ok (.if_icmp .le 59, 3) := by decide +kernel
theorem dX9_roll_88 : decode cX9_roll 88 = .ok (.aload_n 0, 1) := by decide +kernel
theorem dX9_roll_89 : decode cX9_roll 89 = .ok (.getfield 21, 3) := by decide +kernel
theorem dX9_roll_92 : decode cX9_roll 92 = .ok (.aload_n 0, 1) := by decide +kernel
theorem dX9_roll_93 : decode cX9_roll 93 = .ok (.getfield 21, 3) := by decide +kernel
theorem dX9_roll_96 : decode cX9_roll 96 = .ok (.getfield 98, 3) := by decide +kernel
theorem dX9_roll_99 : decode cX9_roll 99 = .ok (.ifCond .gt 7, 3) := by decide +kernel
theorem dX9_roll_102 : decode cX9_roll 102 = .ok (.iload_n 3, 1) := by decide +kernel
theorem dX9_roll_103 : decode cX9_roll 103 = .ok (.goto 12, 3) := by decide +kernel
theorem dX9_roll_106 : decode cX9_roll 106 = .ok (.aload_n 0, 1) := by decide +kernel
theorem dX9_roll_107 : decode cX9_roll 107 = .ok (.getfield 21, 3) := by decide +kernel
theorem dX9_roll_110 : decode cX9_roll 110 = .ok (.getfield 98, 3) := by decide +kernel
theorem dX9_roll_113 : decode cX9_roll 113 = .ok (.iconst 1, 1) := by decide +kernel
theorem dX9_roll_114 : decode cX9_roll 114 = .ok (.isub, 1) := by decide +kernel
theorem dX9_roll_115 : decode cX9_roll 115 = .ok (.putfield 98, 3) := by decide +kernel
theorem dX9_roll_118 : decode cX9_roll 118 = .ok (.iload 4, 2) := by decide +kernel
theorem dX9_roll_120 : decode cX9_roll 120 = .ok (.aload_n 0, 1) := by decide +kernel
theorem dX9_roll_121 : decode cX9_roll 121 = .ok (.getfield 12, 3) := by decide +kernel
theorem dX9_roll_124 : decode cX9_roll 124 = .ok (.aload_n 0, 1) := by decide +kernel
theorem dX9_roll_125 : decode cX9_roll 125 = .ok (.getfield 21, 3) := by decide +kernel
theorem dX9_roll_128 : decode cX9_roll 128 = .ok (.getfield 98, 3) := by decide +kernel
theorem dX9_roll_131 : decode cX9_roll 131 = .ok (.iload_n 2, 1) := by decide +kernel
theorem dX9_roll_132 : decode cX9_roll 132 = .ok (.invokevirtual 131, 3) := by decide +kernel
theorem dX9_roll_135 : decode cX9_roll 135 = .ok (.iadd, 1) := by decide +kernel
theorem dX9_roll_136 : decode cX9_roll 136 = .ok (.istore 4, 2) := by decide +kernel
theorem dX9_roll_138 : decode cX9_roll 138 = .ok (.iinc 5 (-1), 3) := by decide +kernel
theorem dX9_roll_141 : decode cX9_roll 141 = .ok (.goto (-59), 3) := by decide +kernel
theorem dX9_roll_144 : decode cX9_roll 144 = .ok (.iload 4, 2) := by decide +kernel
theorem dX9_roll_146 : decode cX9_roll 146 = .ok (.ireturn, 1) := by decide +kernel
theorem dX10_init_0 : decode cX10_init 0 = .ok (.aload_n 0, 1) := by decide +kernel
theorem dX10_init_1 : decode cX10_init 1 = .ok (.invokespecial 1, 3) := by decide +kernel
theorem dX10_init_4 : decode cX10_init 4 = .ok (.aload_n 0, 1) := by decide +kernel
theorem dX10_init_5 : decode cX10_init 5 = .ok (.new 7, 3) := by decide +kernel
theorem dX10_init_8 : decode cX10_init 8 = .ok (.dup, 1) := by decide +kernel
theorem dX10_init_9 : decode cX10_init 9 = .ok (.invokespecial 9, 3) := by decide +kernel
theorem dX10_init_12 : decode cX10_init 12 = .ok (.putfield 10, 3) := by decide +kernel
theorem dX10_init_15 : decode cX10_init 15 = .ok (.aload_n 0, 1) := by decide +kernel
theorem dX10_init_16 : decode cX10_init 16 = .ok (.new 7, 3) := by decide +kernel
theorem dX10_init_19 : decode cX10_init 19 = .ok (.dup, 1) := by decide +kernel
theorem dX10_init_20 : decode cX10_init 20 = .ok (.invokespecial 9, 3) := by decide +kernel
theorem dX10_init_23 : decode cX10_init 23 = .ok (.putfield 16, 3) := by decide +kernel
theorem dX10_init_26 : decode cX10_init 26 = .ok (.aload_n 0, 1) := by decide +kernel
theorem dX10_init_27 : decode cX10_init 27 = .ok (.iconst 0, 1) := by decide +kernel
theorem dX10_init_28 : decode cX10_init 28 = .ok (.putfield 19, 3) := by decide +kernel
theorem dX10_init_31 : decode cX10_init 31 = .ok (.aload_n 0, 1) := by decide +kernel
theorem dX10_init_32 : decode cX10_init 32 = .ok (.new 23, 3) := by decide +kernel
theorem dX10_init_35 : decode cX10_init 35 = .ok (.dup, 1) := by decide +kernel
theorem dX10_init_36 : decode cX10_init 36 = .ok (.invokespecial 25, 3) := by decide +kernel
theorem dX10_init_39 : decode cX10_init 39 = .ok (.putfield 26, 3) := by decide +kernel
theorem dX10_init_42 : decode cX10_init 42 = .ok (.aload_n 0, 1) := by decide +kernel
theorem dX10_init_43 : decode cX10_init 43 = .ok (.new 30, 3) := by decide +kernel
theorem dX10_init_46 : decode cX10_init 46 = .ok (.dup, 1) := by decide +kernel
theorem dX10_init_47 : decode cX10_init 47 = .ok (.invokespecial 32, 3) := by decide +kernel
theorem dX10_init_50 : decode cX10_init 50 = .ok (.putfield 33, 3) := by decide +kernel
theorem dX10_init_53 : decode cX10_init 53 = .ok (.aload_n 0, 1) := by decide +kernel
theorem dX10_init_54 : decode cX10_init 54 = .ok (.new 37, 3) := by decide +kernel
theorem dX10_init_57 : decode cX10_init 57 = .ok (.dup, 1) := by decide +kernel
theorem dX10_init_58 : decode cX10_init 58 = .ok (.invokespecial 39, 3) := by decide +kernel
theorem dX10_init_61 : decode cX10_init 61 = .ok (.putfield 40, 3) := by decide +kernel
theorem dX10_init_64 : decode cX10_init 64 = .ok (.aload_n 0, 1) := by decide +kernel
theorem dX10_init_65 : decode cX10_init 65 = .ok (.bipush 14, 2) := by decide +kernel
theorem dX10_init_67 : decode cX10_init 67 = .ok (.anewarray 44, 3) := by decide +kernel
theorem dX10_init_70 : decode cX10_init 70 = .ok (.putfield 46, 3) := by decide +kernel
theorem dX10_init_73 : decode cX10_init 73 = .ok (.aload_n 0, 1) := by decide +kernel
theorem dX10_init_74 : decode cX10_init 74 = .ok (.iconst 4, 1) := by decide +kernel
theorem dX10_init_75 : decode cX10_init 75 = .ok (.anewarray 50, 3) := by decide +kernel
theorem dX10_init_78 : decode cX10_init 78 = .ok (.putfield 52, 3) := by decide +kernel
theorem dX10_init_81 : decode cX10_init 81 = .ok (.aload_n 0, 1) := by decide +kernel
theorem dX10_init_82 : decode cX10_init 82 = .ok (.iconst 5, 1) := by decide +kernel
theorem dX10_init_83 : decode cX10_init 83 = .ok (.anewarray 56, 3) := by decide +kernel
theorem dX10_init_86 : decode cX10_init 86 = .ok (.putfield 58, 3) := by decide +kernel
theorem dX10_init_89 : decode cX10_init 89 = .ok (.aload_n 0, 1) := by decide +kernel
theorem dX10_init_90 : decode cX10_init 90 = .ok (.bipush 60, 2) := by decide +kernel
theorem dX10_init_92 : decode cX10_init 92 = .ok (.newarray .int, 2) := by decide +kernel
theorem dX10_init_94 : decode cX10_init 94 = .ok (.putfield 62, 3) := by decide +kernel
theorem dX10_init_97 : decode cX10_init 97 = .ok (.aload_n 0, 1) := by decide +kernel
theorem dX10_init_98 : decode cX10_init 98 = .ok (.iconst 0, 1) := by decide +kernel
theorem dX10_init_99 : decode cX10_init 99 = .ok (.putfield 66, 3) := by decide +kernel
theorem dX10_init_102 : decode cX10_init 102 = .ok (.iconst 0, 1) := by decide +kernel
theorem dX10_init_103 : decode cX10_init 103 = .ok (.istore_n 1, 1) := by decide +kernel
theorem dX10_init_104 : decode cX10_init 104 = .ok (.iload_n 1, 1) := by decide +kernel
theorem dX10_init_105 : decode cX10_init 105 = .ok (.iconst 4, 1) := by decide +kernel
theorem dX10_init_106 : decode cX10_init 106 = .ok (.if_icmp .ge 22, 3) := by decide +kernel
theorem dX10_init_109 : decode cX10_init 109 = .ok (.aload_n 0, 1) := by decide +kernel
theorem dX10_init_110 : decode cX10_init 110 = .ok (.getfield 52, 3) := by decide +kernel
theorem dX10_init_113 : decode cX10_init 113 = .ok (.iload_n 1, 1) := by decide +kernel
theorem dX10_init_114 : decode cX10_init 114 = .ok (.new 50, 3) := by decide +kernel
theorem dX10_init_117 : decode cX10_init 117 = .ok (.dup, 1) := by decide +kernel
theorem dX10_init_118 : decode cX10_init 118 = .ok (.invokespecial 70, 3) := by decide +kernel
theorem dX10_init_121 : decode cX10_init 121 = .ok (.aastore, 1) := by decide +kernel
theorem dX10_init_122 : decode cX10_init 122 = .ok (.iinc 1 1, 3) := by decide +kernel
theorem dX10_init_125 : decode cX10_init 125 = .ok (.goto (-21), 3) := by decide +kernel
theorem dX10_init_128 : decode cX10_init 128 = .ok (.iconst 0, 1) := by decide +kernel
theorem dX10_init_129 : decode cX10_init 129 = .ok (.istore_n 1, 1) := by decide +kernel
theorem dX10_init_130 : decode cX10_init 130 = .ok (.iload_n 1, 1) := by decide +kernel
theorem dX10_init_131 : decode cX10_init 131 = .ok (.iconst 5, 1) := by decide +kernel
theorem dX10_init_132 : decode cX10_init 132 = .ok (.if_icmp .ge 22, 3) := by decide +kernel
theorem dX10_init_135 : decode cX10_init 135 = .ok (.aload_n 0, 1) := by decide +kernel
theorem dX10_init_136 : decode cX10_init 136 = .ok (.getfield 58, 3) := by decide +kernel
theorem dX10_init_139 : decode cX10_init 139 = .ok (.iload_n 1, 1) := by decide +kernel
theorem dX10_init_140 : decode cX10_init 140 = .ok (.new 56, 3) := by decide +kernel
theorem dX10_init_143 : decode cX10_init 143 = .ok (.dup, 1) := by decide +kernel
theorem dX10_init_144 : decode cX10_init 144 = .ok (.invokespecial 71, 3) := by decide +kernel
theorem dX10_init_147 : decode cX10_init 147 = .ok (.aastore, 1) := by decide +kernel
theorem dX10_init_148 : decode cX10_init 148 = .ok (.iinc 1 1, 3) := by decide +kernel
theorem dX10_init_151 : decode cX10_init 151 = .ok (.goto (-21), 3) := by decide +kernel
theorem dX10_init_154 : decode cX10_init 154 = .ok (.return_, 1) := by decide +kernel
theorem dX10_yard_0 : decode cX10_yard 0 = .ok (.iload_n 1, 1) := by decide +kernel
theorem dX10_yard_1 : decode cX10_yard 1 = .ok (.invokestatic 72, 3) := by decide +kernel
theorem dX10_yard_4 : decode cX10_yard 4 = .ok (.ifCond .eq 17, 3) := by decide +kernel
theorem dX10_yard_7 : decode cX10_yard 7 = .ok (.iload_n 2, 1) := by decide +kernel
theorem dX10_yard_8 : decode cX10_yard 8 = .ok (.invokestatic 78, 3) := by decide +kernel
theorem dX10_yard_11 : decode cX10_yard 11 = .ok (.ifCond .eq 10, 3) := by decide +kernel
theorem dX10_yard_14 : decode cX10_yard 14 = .ok (.iload_n 3, 1) := by decide +kernel
theorem dX10_yard_15 : decode cX10_yard 15 = .ok (.invokestatic 81, 3) := by decide +kernel
theorem dX10_yard_18 : decode cX10_yard 18 = .ok (.ifCond .ne 6, 3) := by decide +kernel
theorem dX10_yard_21 : decode cX10_yard 21 = .ok (.ldc 84, 2) := by decide +kernel
theorem dX10_yard_23 : decode cX10_yard 23 = .ok (.ireturn, 1) := by decide +kernel
theorem dX10_yard_24 : decode cX10_yard 24 = .ok (.aload_n 0, 1) := by decide +kernel
theorem dX10_yard_25 : decode cX10_yard 25 = .ok (.getfield 10, 3) := by decide +kernel
theorem dX10_yard_28 : decode cX10_yard 28 = .ok (.getfield 85, 3) := by decide +kernel
theorem dX10_yard_31 : decode cX10_yard 31 = .ok (.getfield 89, 3) := by decide +kernel
theorem dX10_yard_34 : decode cX10_yard 34 = .ok (.bipush 10, 2) := by decide +kernel
theorem dX10_yard_36 : decode cX10_yard 36 = .ok (.if_icmp .lt 6, 3) := by decide +kernel
theorem dX10_yard_39 : decode cX10_yard 39 = .ok (.ldc 94, 2) := by decide +kernel
theorem dX10_yard_41 : decode cX10_yard 41 = .ok (.ireturn, 1) := by decide +kernel
theorem dX10_yard_42 : decode cX10_yard 42 = .ok (.aload_n 0, 1) := by decide +kernel
theorem dX10_yard_43 : decode cX10_yard 43 = .ok (.getfield 10, 3) := by decide +kernel
theorem dX10_yard_46 : decode cX10_yard 46 = .ok (.getfield 85, 3) := by decide +kernel
theorem dX10_yard_49 : decode cX10_yard 49 = .ok (.iload_n 1, 1) := by decide +kernel
theorem dX10_yard_50 : decode cX10_yard 50 = .ok (.iload_n 2, 1) := by decide +kernel
theorem dX10_yard_51 : decode cX10_yard 51 = .ok (.iload_n 3, 1) := by decide +kernel
theorem dX10_yard_52 : decode cX10_yard 52 = .ok (.invokevirtual 95, 3) := by decide +kernel
theorem dX10_yard_55 : decode cX10_yard 55 = .ok (.ireturn, 1) := by decide +kernel
theorem dX10_told_0 : decode cX10_told 0 = .ok (.aload_n 0, 1) := by decide +kernel
theorem dX10_told_1 : decode cX10_told 1 = .ok (.getfield 10, 3) := by decide +kernel
theorem dX10_told_4 : decode cX10_told 4 = .ok (.getfield 85, 3) := by decide +kernel
theorem dX10_told_7 : decode cX10_told 7 = .ok (.astore_n 3, 1) := by decide +kernel
theorem dX10_told_8 : decode cX10_told 8 = .ok (.aload_n 3, 1) := by decide +kernel
theorem dX10_told_9 : decode cX10_told 9 = .ok (.iload_n 1, 1) := by decide +kernel
theorem dX10_told_10 : decode cX10_told 10 = .ok (.invokevirtual 99, 3) := by decide +kernel
theorem dX10_told_13 : decode cX10_told 13 = .ok (.ifCond .ne 6, 3) := by decide +kernel
theorem dX10_told_16 : decode cX10_told 16 = .ok (.ldc 84, 2) := by decide +kernel
theorem dX10_told_18 : decode cX10_told 18 = .ok (.ireturn, 1) := by decide +kernel
theorem dX10_told_19 : decode cX10_told 19 = .ok (.iload_n 2, 1) := by decide +kernel
theorem dX10_told_20 : decode cX10_told 20 = .ok (.tableswitch 136 0 7 #[48, 55, 62, 69, 76, 85, 102, 124], 48) := by decide +kernel
theorem dX10_told_68 : decode cX10_told 68 = .ok (.aload_n 3, 1) := by decide +kernel
theorem dX10_told_69 : decode cX10_told 69 = .ok (.getfield 100, 3) := by decide +kernel
theorem dX10_told_72 : decode cX10_told 72 = .ok (.iload_n 1, 1) := by decide +kernel
theorem dX10_told_73 : decode cX10_told 73 = .ok (.iaload, 1) := by decide +kernel
theorem dX10_told_74 : decode cX10_told 74 = .ok (.ireturn, 1) := by decide +kernel
theorem dX10_told_75 : decode cX10_told 75 = .ok (.aload_n 3, 1) := by decide +kernel
theorem dX10_told_76 : decode cX10_told 76 = .ok (.getfield 103, 3) := by decide +kernel
theorem dX10_told_79 : decode cX10_told 79 = .ok (.iload_n 1, 1) := by decide +kernel
theorem dX10_told_80 : decode cX10_told 80 = .ok (.iaload, 1) := by decide +kernel
theorem dX10_told_81 : decode cX10_told 81 = .ok (.ireturn, 1) := by decide +kernel
theorem dX10_told_82 : decode cX10_told 82 = .ok (.aload_n 3, 1) := by decide +kernel
theorem dX10_told_83 : decode cX10_told 83 = .ok (.getfield 106, 3) := by decide +kernel
theorem dX10_told_86 : decode cX10_told 86 = .ok (.iload_n 1, 1) := by decide +kernel
theorem dX10_told_87 : decode cX10_told 87 = .ok (.iaload, 1) := by decide +kernel
theorem dX10_told_88 : decode cX10_told 88 = .ok (.ireturn, 1) := by decide +kernel
theorem dX10_told_89 : decode cX10_told 89 = .ok (.aload_n 3, 1) := by decide +kernel
theorem dX10_told_90 : decode cX10_told 90 = .ok (.getfield 109, 3) := by decide +kernel
theorem dX10_told_93 : decode cX10_told 93 = .ok (.iload_n 1, 1) := by decide +kernel
theorem dX10_told_94 : decode cX10_told 94 = .ok (.iaload, 1) := by decide +kernel
theorem dX10_told_95 : decode cX10_told 95 = .ok (.ireturn, 1) := by decide +kernel
theorem dX10_told_96 : decode cX10_told 96 = .ok (.aload_n 0, 1) := by decide +kernel
theorem dX10_told_97 : decode cX10_told 97 = .ok (.getfield 10, 3) := by decide +kernel
theorem dX10_told_100 : decode cX10_told 100 = .ok (.iload_n 1, 1) := by decide +kernel
theorem dX10_told_101 : decode cX10_told 101 = .ok (.invokevirtual 112, 3) := by decide +kernel
theorem dX10_told_104 : decode cX10_told 104 = .ok (.ireturn, 1) := by decide +kernel
theorem dX10_told_105 : decode cX10_told 105 = .ok (.aload_n 3, 1) := by decide +kernel
theorem dX10_told_106 : decode cX10_told 106 = .ok (.getfield 100, 3) := by decide +kernel
theorem dX10_told_109 : decode cX10_told 109 = .ok (.iload_n 1, 1) := by decide +kernel
theorem dX10_told_110 : decode cX10_told 110 = .ok (.iaload, 1) := by decide +kernel
theorem dX10_told_111 : decode cX10_told 111 = .ok (.aload_n 0, 1) := by decide +kernel
theorem dX10_told_112 : decode cX10_told 112 = .ok (.getfield 10, 3) := by decide +kernel
theorem dX10_told_115 : decode cX10_told 115 = .ok (.getfield 116, 3) := by decide +kernel
theorem dX10_told_118 : decode cX10_told 118 = .ok (.invokestatic 119, 3) := by decide +kernel
theorem dX10_told_121 : decode cX10_told 121 = .ok (.ireturn, 1) := by decide +kernel
theorem dX10_told_122 : decode cX10_told 122 = .ok (.aload_n 3, 1) := by decide +kernel
theorem dX10_told_123 : decode cX10_told 123 = .ok (.getfield 100, 3) := by decide +kernel
theorem dX10_told_126 : decode cX10_told 126 = .ok (.iload_n 1, 1) := by decide +kernel
theorem dX10_told_127 : decode cX10_told 127 = .ok (.iaload, 1) := by decide +kernel
theorem dX10_told_128 : decode cX10_told 128 = .ok (.aload_n 3, 1) := by decide +kernel
theorem dX10_told_129 : decode cX10_told 129 = .ok (.getfield 103, 3) := by decide +kernel
theorem dX10_told_132 : decode cX10_told 132 = .ok (.iload_n 1, 1) := by decide +kernel
theorem dX10_told_133 : decode cX10_told 133 = .ok (.iaload, 1) := by decide +kernel
theorem dX10_told_134 : decode cX10_told 134 = .ok (.aload_n 3, 1) := by decide +kernel
theorem dX10_told_135 : decode cX10_told 135 = .ok (.getfield 106, 3) := by decide +kernel
theorem dX10_told_138 : decode cX10_told 138 = .ok (.iload_n 1, 1) := by decide +kernel
theorem dX10_told_139 : decode cX10_told 139 = .ok (.iaload, 1) := by decide +kernel
theorem dX10_told_140 : decode cX10_told 140 = .ok (.invokestatic 123, 3) := by decide +kernel
theorem dX10_told_143 : decode cX10_told 143 = .ok (.ireturn, 1) := by decide +kernel
theorem dX10_told_144 : decode cX10_told 144 = .ok (.aload_n 0, 1) := by decide +kernel
theorem dX10_told_145 : decode cX10_told 145 = .ok (.getfield 10, 3) := by decide +kernel
theorem dX10_told_148 : decode cX10_told 148 = .ok (.getfield 126, 3) := by decide +kernel
theorem dX10_told_151 : decode cX10_told 151 = .ok (.iload_n 1, 1) := by decide +kernel
theorem dX10_told_152 : decode cX10_told 152 = .ok (.invokevirtual 130, 3) := by decide +kernel
theorem dX10_told_155 : decode cX10_told 155 = .ok (.ireturn, 1) := by decide +kernel
theorem dX10_told_156 : decode cX10_told 156 = .ok (.ldc 84, 2) := by decide +kernel
theorem dX10_told_158 : decode cX10_told 158 = .ok (.ireturn, 1) := by decide +kernel
theorem dX10_as_0 : decode cX10_as 0 = .ok (.aload_n 0, 1) := by decide +kernel
theorem dX10_as_1 : decode cX10_as 1 = .ok (.getfield 10, 3) := by decide +kernel
theorem dX10_as_4 : decode cX10_as 4 = .ok (.getfield 85, 3) := by decide +kernel
theorem dX10_as_7 : decode cX10_as 7 = .ok (.iload_n 1, 1) := by decide +kernel
theorem dX10_as_8 : decode cX10_as 8 = .ok (.invokevirtual 99, 3) := by decide +kernel
theorem dX10_as_11 : decode cX10_as 11 = .ok (.ifCond .eq 10, 3) := by decide +kernel
theorem dX10_as_14 : decode cX10_as 14 = .ok (.iload_n 2, 1) := by decide +kernel
theorem dX10_as_15 : decode cX10_as 15 = .ok (.invokestatic 72, 3) := by decide +kernel
theorem dX10_as_18 : decode cX10_as 18 = .ok (.ifCond .ne 6, 3) := by decide +kernel
theorem dX10_as_21 : decode cX10_as 21 = .ok (.ldc 84, 2) := by decide +kernel
theorem dX10_as_23 : decode cX10_as 23 = .ok (.ireturn, 1) := by decide +kernel
theorem dX10_as_24 : decode cX10_as 24 = .ok (.aload_n 0, 1) := by decide +kernel
theorem dX10_as_25 : decode cX10_as 25 = .ok (.getfield 10, 3) := by decide +kernel
theorem dX10_as_28 : decode cX10_as 28 = .ok (.getfield 85, 3) := by decide +kernel
theorem dX10_as_31 : decode cX10_as 31 = .ok (.getfield 100, 3) := by decide +kernel
theorem dX10_as_34 : decode cX10_as 34 = .ok (.iload_n 1, 1) := by decide +kernel
theorem dX10_as_35 : decode cX10_as 35 = .ok (.iaload, 1) := by decide +kernel
theorem dX10_as_36 : decode cX10_as 36 = .ok (.iload_n 2, 1) := by decide +kernel
theorem dX10_as_37 : decode cX10_as 37 = .ok (.invokestatic 135, 3) := by decide +kernel
theorem dX10_as_40 : decode cX10_as 40 = .ok (.ifCond .eq 18, 3) := by decide +kernel
theorem dX10_as_43 : decode cX10_as 43 = .ok (.aload_n 0, 1) := by decide +kernel
theorem dX10_as_44 : decode cX10_as 44 = .ok (.getfield 10, 3) := by decide +kernel
theorem dX10_as_47 : decode cX10_as 47 = .ok (.getfield 85, 3) := by decide +kernel
theorem dX10_as_50 : decode cX10_as 50 = .ok (.getfield 103, 3) := by decide +kernel
theorem dX10_as_53 : decode cX10_as 53 = .ok (.iload_n 1, 1) := by decide +kernel
theorem dX10_as_54 : decode cX10_as 54 = .ok (.iaload, 1) := by decide +kernel
theorem dX10_as_55 : decode cX10_as 55 = .ok (.goto 5, 3) := by decide +kernel
theorem dX10_as_58 : decode cX10_as 58 = .ok (.ldc 139, 2) := by decide +kernel
theorem dX10_as_60 : decode cX10_as 60 = .ok (.ireturn, 1) := by decide +kernel
theorem dX10_turns_0 : decode cX10_turns 0 = .ok (.aload_n 0, 1) := by decide +kernel
theorem dX10_turns_1 : decode cX10_turns 1 = .ok (.getfield 10, 3) := by decide +kernel
theorem dX10_turns_4 : decode cX10_turns 4 = .ok (.getfield 85, 3) := by decide +kernel
theorem dX10_turns_7 : decode cX10_turns 7 = .ok (.iload_n 1, 1) := by decide +kernel
theorem dX10_turns_8 : decode cX10_turns 8 = .ok (.invokevirtual 99, 3) := by decide +kernel
theorem dX10_turns_11 : decode cX10_turns 11 = .ok (.ifCond .eq 10, 3) := by decide +kernel
theorem dX10_turns_14 : decode cX10_turns 14 = .ok (.iload_n 2, 1) := by decide +kernel
theorem dX10_turns_15 : decode cX10_turns 15 = .ok (.invokestatic 72, 3) := by decide +kernel
theorem dX10_turns_18 : decode cX10_turns 18 = .ok (.ifCond .ne 6, 3) := by decide +kernel
theorem dX10_turns_21 : decode cX10_turns 21 = .ok (.ldc 84, 2) := by decide +kernel
theorem dX10_turns_23 : decode cX10_turns 23 = .ok (.ireturn, 1) := by decide +kernel
theorem dX10_turns_24 : decode cX10_turns 24 = .ok (.aload_n 0, 1) := by decide +kernel
theorem dX10_turns_25 : decode cX10_turns 25 = .ok (.getfield 10, 3) := by decide +kernel
theorem dX10_turns_28 : decode cX10_turns 28 = .ok (.getfield 85, 3) := by decide +kernel
theorem dX10_turns_31 : decode cX10_turns 31 = .ok (.getfield 100, 3) := by decide +kernel
theorem dX10_turns_34 : decode cX10_turns 34 = .ok (.iload_n 1, 1) := by decide +kernel
theorem dX10_turns_35 : decode cX10_turns 35 = .ok (.iaload, 1) := by decide +kernel
theorem dX10_turns_36 : decode cX10_turns 36 = .ok (.istore_n 3, 1) := by decide +kernel
theorem dX10_turns_37 : decode cX10_turns 37 = .ok (.aload_n 0, 1) := by decide +kernel
theorem dX10_turns_38 : decode cX10_turns 38 = .ok (.getfield 10, 3) := by decide +kernel
theorem dX10_turns_41 : decode cX10_turns 41 = .ok (.getfield 85, 3) := by decide +kernel
theorem dX10_turns_44 : decode cX10_turns 44 = .ok (.getfield 100, 3) := by decide +kernel
theorem dX10_turns_47 : decode cX10_turns 47 = .ok (.iload_n 1, 1) := by decide +kernel
theorem dX10_turns_48 : decode cX10_turns 48 = .ok (.iload_n 2, 1) := by decide +kernel
theorem dX10_turns_49 : decode cX10_turns 49 = .ok (.iastore, 1) := by decide +kernel
theorem dX10_turns_50 : decode cX10_turns 50 = .ok (.iload_n 3, 1) := by decide +kernel
theorem dX10_turns_51 : decode cX10_turns 51 = .ok (.ireturn, 1) := by decide +kernel
