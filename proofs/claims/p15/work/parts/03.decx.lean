theorem dX0_init_0 : decode cX0_init 0 = .ok (.aload_n 0, 1) := by decide +kernel
theorem dX0_init_1 : decode cX0_init 1 = .ok (.invokespecial 5, 3) := by decide +kernel
theorem dX0_init_4 : decode cX0_init 4 = .ok (.aload_n 0, 1) := by decide +kernel
theorem dX0_init_5 : decode cX0_init 5 = .ok (.iconst 4, 1) := by decide +kernel
theorem dX0_init_6 : decode cX0_init 6 = .ok (.bipush 9, 2) := by decide +kernel
theorem dX0_init_8 : decode cX0_init 8 = .ok (.multianewarray 11 2, 4) := by decide +kernel
theorem dX0_init_12 : decode cX0_init 12 = .ok (.putfield 13, 3) := by decide +kernel
theorem dX0_init_15 : decode cX0_init 15 = .ok (.aload_n 0, 1) := by decide +kernel
theorem dX0_init_16 : decode cX0_init 16 = .ok (.bipush 9, 2) := by decide +kernel
theorem dX0_init_18 : decode cX0_init 18 = .ok (.newarray .int, 2) := by decide +kernel
theorem dX0_init_20 : decode cX0_init 20 = .ok (.putfield 16, 3) := by decide +kernel
theorem dX0_init_23 : decode cX0_init 23 = .ok (.aload_n 0, 1) := by decide +kernel
theorem dX0_init_24 : decode cX0_init 24 = .ok (.bipush 9, 2) := by decide +kernel
theorem dX0_init_26 : decode cX0_init 26 = .ok (.newarray .int, 2) := by decide +kernel
theorem dX0_init_28 : decode cX0_init 28 = .ok (.putfield 20, 3) := by decide +kernel
theorem dX0_init_31 : decode cX0_init 31 = .ok (.aload_n 0, 1) := by decide +kernel
theorem dX0_init_32 : decode cX0_init 32 = .ok (.bipush 9, 2) := by decide +kernel
theorem dX0_init_34 : decode cX0_init 34 = .ok (.newarray .int, 2) := by decide +kernel
theorem dX0_init_36 : decode cX0_init 36 = .ok (.putfield 23, 3) := by decide +kernel
theorem dX0_init_39 : decode cX0_init 39 = .ok (.return_, 1) := by decide +kernel
theorem dX0_begin_0 : decode cX0_begin 0 = .ok (.aload_n 0, 1) := by decide +kernel
theorem dX0_begin_1 : decode cX0_begin 1 = .ok (.iconst 0, 1) := by decide +kernel
theorem dX0_begin_2 : decode cX0_begin 2 = .ok (.putfield 26, 3) := by decide +kernel
theorem dX0_begin_5 : decode cX0_begin 5 = .ok (.iconst 0, 1) := by decide +kernel
theorem dX0_begin_6 : decode cX0_begin 6 = .ok (.istore_n 1, 1) := by decide +kernel
theorem dX0_begin_7 : decode cX0_begin 7 = .ok (.iload_n 1, 1) := by decide +kernel
theorem dX0_begin_8 : decode cX0_begin 8 = .ok (.iconst 4, 1) := by decide +kernel
theorem dX0_begin_9 : decode cX0_begin 9 = .ok (.if_icmp .ge 19, 3) := by decide +kernel
theorem dX0_begin_12 : decode cX0_begin 12 = .ok (.aload_n 0, 1) := by decide +kernel
theorem dX0_begin_13 : decode cX0_begin 13 = .ok (.getfield 13, 3) := by decide +kernel
theorem dX0_begin_16 : decode cX0_begin 16 = .ok (.iload_n 1, 1) := by decide +kernel
theorem dX0_begin_17 : decode cX0_begin 17 = .ok (.aaload, 1) := by decide +kernel
theorem dX0_begin_18 : decode cX0_begin 18 = .ok (.iconst 0, 1) := by decide +kernel
theorem dX0_begin_19 : decode cX0_begin 19 = .ok (.invokestatic 30, 3) := by decide +kernel
theorem dX0_begin_22 : decode cX0_begin 22 = .ok (.iinc 1 1, 3) := by decide +kernel
theorem dX0_begin_25 : decode cX0_begin 25 = .ok (.goto (-18), 3) := by decide +kernel
theorem dX0_begin_28 : decode cX0_begin 28 = .ok (.aload_n 0, 1) := by decide +kernel
theorem dX0_begin_29 : decode cX0_begin 29 = .ok (.getfield 16, 3) := by decide +kernel
theorem dX0_begin_32 : decode cX0_begin 32 = .ok (.iconst 0, 1) := by decide +kernel
theorem dX0_begin_33 : decode cX0_begin 33 = .ok (.invokestatic 30, 3) := by decide +kernel
theorem dX0_begin_36 : decode cX0_begin 36 = .ok (.aload_n 0, 1) := by decide +kernel
theorem dX0_begin_37 : decode cX0_begin 37 = .ok (.iconst 0, 1) := by decide +kernel
theorem dX0_begin_38 : decode cX0_begin 38 = .ok (.putfield 36, 3) := by decide +kernel
theorem dX0_begin_41 : decode cX0_begin 41 = .ok (.aload_n 0, 1) := by decide +kernel
theorem dX0_begin_42 : decode cX0_begin 42 = .ok (.getfield 20, 3) := by decide +kernel
theorem dX0_begin_45 : decode cX0_begin 45 = .ok (.bipush 61, 2) := by decide +kernel
theorem dX0_begin_47 : decode cX0_begin 47 = .ok (.invokestatic 30, 3) := by decide +kernel
theorem dX0_begin_50 : decode cX0_begin 50 = .ok (.aload_n 0, 1) := by decide +kernel
theorem dX0_begin_51 : decode cX0_begin 51 = .ok (.getfield 23, 3) := by decide +kernel
theorem dX0_begin_54 : decode cX0_begin 54 = .ok (.iconst 0, 1) := by decide +kernel
theorem dX0_begin_55 : decode cX0_begin 55 = .ok (.invokestatic 30, 3) := by decide +kernel
theorem dX0_begin_58 : decode cX0_begin 58 = .ok (.return_, 1) := by decide +kernel
theorem dX0_copyFrom_0 : decode cX0_copyFrom 0 = .ok (.aload_n 0, 1) := by decide +kernel
theorem dX0_copyFrom_1 : decode cX0_copyFrom 1 = .ok (.aload_n 1, 1) := by decide +kernel
theorem dX0_copyFrom_2 : decode cX0_copyFrom 2 = .ok (.getfield 26, 3) := by decide +kernel
theorem dX0_copyFrom_5 : decode cX0_copyFrom 5 = .ok (.putfield 26, 3) := by decide +kernel
theorem dX0_copyFrom_8 : decode cX0_copyFrom 8 = .ok (.iconst 0, 1) := by decide +kernel
theorem dX0_copyFrom_9 : decode cX0_copyFrom 9 = .ok (.istore_n 2, 1) := by decide +kernel
theorem dX0_copyFrom_10 : decode cX0_copyFrom 10 = .ok (.iload_n 2, 1) := by decide +kernel
theorem dX0_copyFrom_11 : decode cX0_copyFrom 11 = .ok (.iconst 4, 1) := by decide +kernel
theorem dX0_copyFrom_12 : decode cX0_copyFrom 12 = .ok (.if_icmp .ge 28, 3) := by decide +kernel
theorem dX0_copyFrom_15 : decode cX0_copyFrom 15 = .ok (.aload_n 1, 1) := by decide +kernel
theorem dX0_copyFrom_16 : decode cX0_copyFrom 16 = .ok (.getfield 13, 3) := by decide +kernel
theorem dX0_copyFrom_19 : decode cX0_copyFrom 19 = .ok (.iload_n 2, 1) := by decide +kernel
theorem dX0_copyFrom_20 : decode cX0_copyFrom 20 = .ok (.aaload, 1) := by decide +kernel
theorem dX0_copyFrom_21 : decode cX0_copyFrom 21 = .ok (.iconst 0, 1) := by decide +kernel
theorem dX0_copyFrom_22 : decode cX0_copyFrom 22 = .ok (.aload_n 0, 1) := by decide +kernel
theorem dX0_copyFrom_23 : decode cX0_copyFrom 23 = .ok (.getfield 13, 3) := by decide +kernel
theorem dX0_copyFrom_26 : decode cX0_copyFrom 26 = .ok (.iload_n 2, 1) := by decide +kernel
theorem dX0_copyFrom_27 : decode cX0_copyFrom 27 = .ok (.aaload, 1) := by decide +kernel
theorem dX0_copyFrom_28 : decode cX0_copyFrom 28 = .ok (.iconst 0, 1) := by decide +kernel
theorem dX0_copyFrom_29 : decode cX0_copyFrom 29 = .ok (.bipush 9, 2) := by decide +kernel
theorem dX0_copyFrom_31 : decode cX0_copyFrom 31 = .ok (.invokestatic 39, 3) := by decide +kernel
theorem dX0_copyFrom_34 : decode cX0_copyFrom 34 = .ok (.iinc 2 1, 3) := by decide +kernel
theorem dX0_copyFrom_37 : decode cX0_copyFrom 37 = .ok (.goto (-27), 3) := by decide +kernel
theorem dX0_copyFrom_40 : decode cX0_copyFrom 40 = .ok (.aload_n 1, 1) := by decide +kernel
theorem dX0_copyFrom_41 : decode cX0_copyFrom 41 = .ok (.getfield 16, 3) := by decide +kernel
theorem dX0_copyFrom_44 : decode cX0_copyFrom 44 = .ok (.iconst 0, 1) := by decide +kernel
theorem dX0_copyFrom_45 : decode cX0_copyFrom 45 = .ok (.aload_n 0, 1) := by decide +kernel
theorem dX0_copyFrom_46 : decode cX0_copyFrom 46 = .ok (.getfield 16, 3) := by decide +kernel
theorem dX0_copyFrom_49 : decode cX0_copyFrom 49 = .ok (.iconst 0, 1) := by decide +kernel
theorem dX0_copyFrom_50 : decode cX0_copyFrom 50 = .ok (.bipush 9, 2) := by decide +kernel
theorem dX0_copyFrom_52 : decode cX0_copyFrom 52 = .ok (.invokestatic 39, 3) := by decide +kernel
theorem dX0_copyFrom_55 : decode cX0_copyFrom 55 = .ok (.aload_n 0, 1) := by decide +kernel
theorem dX0_copyFrom_56 : decode cX0_copyFrom 56 = .ok (.aload_n 1, 1) := by decide +kernel
theorem dX0_copyFrom_57 : decode cX0_copyFrom 57 = .ok (.getfield 36, 3) := by decide +kernel
theorem dX0_copyFrom_60 : decode cX0_copyFrom 60 = .ok (.putfield 36, 3) := by decide +kernel
theorem dX0_copyFrom_63 : decode cX0_copyFrom 63 = .ok (.aload_n 1, 1) := by decide +kernel
theorem dX0_copyFrom_64 : decode cX0_copyFrom 64 = .ok (.getfield 20, 3) := by decide +kernel
theorem dX0_copyFrom_67 : decode cX0_copyFrom 67 = .ok (.iconst 0, 1) := by decide +kernel
theorem dX0_copyFrom_68 : decode cX0_copyFrom 68 = .ok (.aload_n 0, 1) := by decide +kernel
theorem dX0_copyFrom_69 : decode cX0_copyFrom 69 = .ok (.getfield 20, 3) := by decide +kernel
theorem dX0_copyFrom_72 : decode cX0_copyFrom 72 = .ok (.iconst 0, 1) := by decide +kernel
theorem dX0_copyFrom_73 : decode cX0_copyFrom 73 = .ok (.bipush 9, 2) := by decide +kernel
theorem dX0_copyFrom_75 : decode cX0_copyFrom 75 = .ok (.invokestatic 39, 3) := by decide +kernel
theorem dX0_copyFrom_78 : decode cX0_copyFrom 78 = .ok (.aload_n 1, 1) := by decide +kernel
theorem dX0_copyFrom_79 : decode cX0_copyFrom 79 = .ok (.getfield 23, 3) := by decide +kernel
theorem dX0_copyFrom_82 : decode cX0_copyFrom 82 = .ok (.iconst 0, 1) := by decide +kernel
theorem dX0_copyFrom_83 : decode cX0_copyFrom 83 = .ok (.aload_n 0, 1) := by decide +kernel
theorem dX0_copyFrom_84 : decode cX0_copyFrom 84 = .ok (.getfield 23, 3) := by decide +kernel
theorem dX0_copyFrom_87 : decode cX0_copyFrom 87 = .ok (.iconst 0, 1) := by decide +kernel
theorem dX0_copyFrom_88 : decode cX0_copyFrom 88 = .ok (.bipush 9, 2) := by decide +kernel
theorem dX0_copyFrom_90 : decode cX0_copyFrom 90 = .ok (.invokestatic 39, 3) := by decide +kernel
theorem dX0_copyFrom_93 : decode cX0_copyFrom 93 = .ok (.return_, 1) := by decide +kernel
theorem dX0_has_0 : decode cX0_has 0 = .ok (.iload_n 1, 1) := by decide +kernel
theorem dX0_has_1 : decode cX0_has 1 = .ok (.iconst 0, 1) := by decide +kernel
theorem dX0_has_2 : decode cX0_has 2 = .ok (.aload_n 0, 1) := by decide +kernel
theorem dX0_has_3 : decode cX0_has 3 = .ok (.getfield 26, 3) := by decide +kernel
theorem dX0_has_6 : decode cX0_has 6 = .ok (.iconst 1, 1) := by decide +kernel
theorem dX0_has_7 : decode cX0_has 7 = .ok (.isub, 1) := by decide +kernel
theorem dX0_has_8 : decode cX0_has 8 = .ok (.invokestatic 45, 3) := by decide +kernel
theorem dX0_has_11 : decode cX0_has 11 = .ok (.ireturn, 1) := by decide +kernel
theorem dX0_areTwo_0 : decode cX0_areTwo 0 = .ok (.aload_n 0, 1) := by decide +kernel
theorem dX0_areTwo_1 : decode cX0_areTwo 1 = .ok (.iload_n 1, 1) := by decide +kernel
theorem dX0_areTwo_2 : decode cX0_areTwo 2 = .ok (.invokevirtual 49, 3) := by decide +kernel
theorem dX0_areTwo_5 : decode cX0_areTwo 5 = .ok (.ifCond .eq 20, 3) := by decide +kernel
theorem dX0_areTwo_8 : decode cX0_areTwo 8 = .ok (.aload_n 0, 1) := by decide +kernel
theorem dX0_areTwo_9 : decode cX0_areTwo 9 = .ok (.iload_n 2, 1) := by decide +kernel
theorem dX0_areTwo_10 : decode cX0_areTwo 10 = .ok (.invokevirtual 49, 3) := by decide +kernel
theorem dX0_areTwo_13 : decode cX0_areTwo 13 = .ok (.ifCond .eq 12, 3) := by decide +kernel
theorem dX0_areTwo_16 : decode cX0_areTwo 16 = .ok (.iload_n 1, 1) := by decide +kernel
theorem dX0_areTwo_17 : decode cX0_areTwo 17 = .ok (.iload_n 2, 1) := by decide +kernel
theorem dX0_areTwo_18 : decode cX0_areTwo 18 = .ok (.if_icmp .eq 7, 3) := by decide +kernel
theorem dX0_areTwo_21 : decode cX0_areTwo 21 = .ok (.iconst 1, 1) := by decide +kernel
theorem dX0_areTwo_22 : decode cX0_areTwo 22 = .ok (.goto 4, 3) := by decide +kernel
theorem dX0_areTwo_25 : decode cX0_areTwo 25 = .ok (.iconst 0, 1) := by decide +kernel
theorem dX0_areTwo_26 : decode cX0_areTwo 26 = .ok (.ireturn, 1) := by decide +kernel
theorem dX0_isFit_0 : decode cX0_isFit 0 = .ok (.iload_n 0, 1) := by decide +kernel
theorem dX0_isFit_1 : decode cX0_isFit 1 = .ok (.iconst 0, 1) := by decide +kernel
theorem dX0_isFit_2 : decode cX0_isFit 2 = .ok (.iconst 3, 1) := by decide +kernel
theorem dX0_isFit_3 : decode cX0_isFit 3 = .ok (.invokestatic 45, 3) := by decide +kernel
theorem dX0_isFit_6 : decode cX0_isFit 6 = .ok (.ifCond .eq 20, 3) := by decide +kernel
theorem dX0_isFit_9 : decode cX0_isFit 9 = .ok (.iload_n 1, 1) := by decide +kernel
theorem dX0_isFit_10 : decode cX0_isFit 10 = .ok (.iconst 0, 1) := by decide +kernel
theorem dX0_isFit_11 : decode cX0_isFit 11 = .ok (.getstatic 53, 3) := by decide +kernel
theorem dX0_isFit_14 : decode cX0_isFit 14 = .ok (.iload_n 0, 1) := by decide +kernel
theorem dX0_isFit_15 : decode cX0_isFit 15 = .ok (.iaload, 1) := by decide +kernel
theorem dX0_isFit_16 : decode cX0_isFit 16 = .ok (.invokestatic 45, 3) := by decide +kernel
theorem dX0_isFit_19 : decode cX0_isFit 19 = .ok (.ifCond .eq 7, 3) := by decide +kernel
theorem dX0_isFit_22 : decode cX0_isFit 22 = .ok (.iconst 1, 1) := by decide +kernel
theorem dX0_isFit_23 : decode cX0_isFit 23 = .ok (.goto 4, 3) := by decide +kernel
theorem dX0_isFit_26 : decode cX0_isFit 26 = .ok (.iconst 0, 1) := by decide +kernel
theorem dX0_isFit_27 : decode cX0_isFit 27 = .ok (.ireturn, 1) := by decide +kernel
theorem dX0_settle_0 : decode cX0_settle 0 = .ok (.aload_n 0, 1) := by decide +kernel
theorem dX0_settle_1 : decode cX0_settle 1 = .ok (.getfield 26, 3) := by decide +kernel
theorem dX0_settle_4 : decode cX0_settle 4 = .ok (.bipush 9, 2) := by decide +kernel
theorem dX0_settle_6 : decode cX0_settle 6 = .ok (.if_icmp .ge 36, 3) := by decide +kernel
theorem dX0_settle_9 : decode cX0_settle 9 = .ok (.iconst 0, 1) := by decide +kernel
theorem dX0_settle_10 : decode cX0_settle 10 = .ok (.iload_n 1, 1) := by decide +kernel
theorem dX0_settle_11 : decode cX0_settle 11 = .ok (.invokestatic 56, 3) := by decide +kernel
theorem dX0_settle_14 : decode cX0_settle 14 = .ok (.ifCond .eq 28, 3) := by decide +kernel
theorem dX0_settle_17 : decode cX0_settle 17 = .ok (.iconst 1, 1) := by decide +kernel
theorem dX0_settle_18 : decode cX0_settle 18 = .ok (.iload_n 2, 1) := by decide +kernel
theorem dX0_settle_19 : decode cX0_settle 19 = .ok (.invokestatic 56, 3) := by decide +kernel
theorem dX0_settle_22 : decode cX0_settle 22 = .ok (.ifCond .eq 20, 3) := by decide +kernel
theorem dX0_settle_25 : decode cX0_settle 25 = .ok (.iconst 2, 1) := by decide +kernel
theorem dX0_settle_26 : decode cX0_settle 26 = .ok (.iload_n 3, 1) := by decide +kernel
theorem dX0_settle_27 : decode cX0_settle 27 = .ok (.invokestatic 56, 3) := by decide +kernel
theorem dX0_settle_30 : decode cX0_settle 30 = .ok (.ifCond .eq 12, 3) := by decide +kernel
theorem dX0_settle_33 : decode cX0_settle 33 = .ok (.iconst 3, 1) := by decide +kernel
theorem dX0_settle_34 : decode cX0_settle 34 = .ok (.iload 4, 2) := by decide +kernel
theorem dX0_settle_36 : decode cX0_settle 36 = .ok (.invokestatic 56, 3) := by decide +kernel
theorem dX0_settle_39 : decode cX0_settle 39 = .ok (.ifCond .ne 5, 3) := by decide +kernel
theorem dX0_settle_42 : decode cX0_settle 42 = .ok (.iconst (-1), 1) := by decide +kernel
theorem dX0_settle_43 : decode cX0_settle 43 = .ok (.ireturn, 1) := by decide +kernel
theorem dX0_settle_44 : decode cX0_settle 44 = .ok (.aload_n 0, 1) := by decide +kernel
theorem dX0_settle_45 : decode cX0_settle 45 = .ok (.getfield 13, 3) := by decide +kernel
theorem dX0_settle_48 : decode cX0_settle 48 = .ok (.iconst 0, 1) := by decide +kernel
theorem dX0_settle_49 : decode cX0_settle 49 = .ok (.aaload, 1) := by decide +kernel
theorem dX0_settle_50 : decode cX0_settle 50 = .ok (.aload_n 0, 1) := by decide +kernel
theorem dX0_settle_51 : decode cX0_settle 51 = .ok (.getfield 26, 3) := by decide +kernel
theorem dX0_settle_54 : decode cX0_settle 54 = .ok (.iload_n 1, 1) := by decide +kernel
theorem dX0_settle_55 : decode cX0_settle 55 = .ok (.iastore, 1) := by decide +kernel
theorem dX0_settle_56 : decode cX0_settle 56 = .ok (.aload_n 0, 1) := by decide +kernel
theorem dX0_settle_57 : decode cX0_settle 57 = .ok (.getfield 13, 3) := by decide +kernel
theorem dX0_settle_60 : decode cX0_settle 60 = .ok (.iconst 1, 1) := by decide +kernel
theorem dX0_settle_61 : decode cX0_settle 61 = .ok (.aaload, 1) := by decide +kernel
theorem dX0_settle_62 : decode cX0_settle 62 = .ok (.aload_n 0, 1) := by decide +kernel
theorem dX0_settle_63 : decode cX0_settle 63 = .ok (.getfield 26, 3) := by decide +kernel
theorem dX0_settle_66 : decode cX0_settle 66 = .ok (.iload_n 2, 1) := by decide +kernel
theorem dX0_settle_67 : decode cX0_settle 67 = .ok (.iastore, 1) := by decide +kernel
theorem dX0_settle_68 : decode cX0_settle 68 = .ok (.aload_n 0, 1) := by decide +kernel
theorem dX0_settle_69 : decode cX0_settle 69 = .ok (.getfield 13, 3) := by decide +kernel
theorem dX0_settle_72 : decode cX0_settle 72 = .ok (.iconst 2, 1) := by decide +kernel
theorem dX0_settle_73 : decode cX0_settle 73 = .ok (.aaload, 1) := by decide +kernel
theorem dX0_settle_74 : decode cX0_settle 74 = .ok (.aload_n 0, 1) := by decide +kernel
theorem dX0_settle_75 : decode cX0_settle 75 = .ok (.getfield 26, 3) := by decide +kernel
theorem dX0_settle_78 : decode cX0_settle 78 = .ok (.iload_n 3, 1) := by decide +kernel
theorem dX0_settle_79 : decode cX0_settle 79 = .ok (.iastore, 1) := by decide +kernel
theorem dX0_settle_80 : decode cX0_settle 80 = .ok (.aload_n 0, 1) := by decide +kernel
theorem dX0_settle_81 : decode cX0_settle 81 = .ok (.getfield 13, 3) := by decide +kernel
theorem dX0_settle_84 : decode cX0_settle 84 = .ok (.iconst 3, 1) := by decide +kernel
theorem dX0_settle_85 : decode cX0_settle 85 = .ok (.aaload, 1) := by decide +kernel
theorem dX0_settle_86 : decode cX0_settle 86 = .ok (.aload_n 0, 1) := by decide +kernel
theorem dX0_settle_87 : decode cX0_settle 87 = .ok (.getfield 26, 3) := by decide +kernel
theorem dX0_settle_90 : decode cX0_settle 90 = .ok (.iload 4, 2) := by decide +kernel
theorem dX0_settle_92 : decode cX0_settle 92 = .ok (.iastore, 1) := by decide +kernel
theorem dX0_settle_93 : decode cX0_settle 93 = .ok (.aload_n 0, 1) := by decide +kernel
theorem dX0_settle_94 : decode cX0_settle 94 = .ok (.dup, 1) := by decide +kernel
theorem dX0_settle_95 : decode cX0_settle 95 = .ok (.getfield 26, 3) := by decide +kernel
theorem dX0_settle_98 : decode cX0_settle 98 = .ok (.iconst 1, 1) := by decide +kernel
theorem dX0_settle_99 : decode cX0_settle 99 = .ok (.iadd, 1) := by decide +kernel
theorem dX0_settle_100 : decode cX0_settle 100 = .ok (.putfield 26, 3) := by decide +kernel
theorem dX0_settle_103 : decode cX0_settle 103 = .ok (.aload_n 0, 1) := by decide +kernel
theorem dX0_settle_104 : decode cX0_settle 104 = .ok (.getfield 26, 3) := by decide +kernel
theorem dX0_settle_107 : decode cX0_settle 107 = .ok (.iconst 1, 1) := by decide +kernel
theorem dX0_settle_108 : decode cX0_settle 108 = .ok (.isub, 1) := by decide +kernel
theorem dX0_settle_109 : decode cX0_settle 109 = .ok (.ireturn, 1) := by decide +kernel
theorem dX0_learnTrait_0 : decode cX0_learnTrait 0 = .ok (.aload_n 0, 1) := by decide +kernel
theorem dX0_learnTrait_1 : decode cX0_learnTrait 1 = .ok (.iload_n 2, 1) := by decide +kernel
theorem dX0_learnTrait_2 : decode cX0_learnTrait 2 = .ok (.invokevirtual 49, 3) := by decide +kernel
theorem dX0_learnTrait_5 : decode cX0_learnTrait 5 = .ok (.ifCond .eq 11, 3) := by decide +kernel
theorem dX0_learnTrait_8 : decode cX0_learnTrait 8 = .ok (.iload_n 1, 1) := by decide +kernel
theorem dX0_learnTrait_9 : decode cX0_learnTrait 9 = .ok (.iload_n 3, 1) := by decide +kernel
theorem dX0_learnTrait_10 : decode cX0_learnTrait 10 = .ok (.invokestatic 56, 3) := by decide +kernel
theorem dX0_learnTrait_13 : decode cX0_learnTrait 13 = .ok (.ifCond .ne 5, 3) := by decide +kernel
theorem dX0_learnTrait_16 : decode cX0_learnTrait 16 = .ok (.iconst 0, 1) := by decide +kernel
theorem dX0_learnTrait_17 : decode cX0_learnTrait 17 = .ok (.ireturn, 1) := by decide +kernel
theorem dX0_learnTrait_18 : decode cX0_learnTrait 18 = .ok (.aload_n 0, 1) := by decide +kernel
theorem dX0_learnTrait_19 : decode cX0_learnTrait 19 = .ok (.getfield 13, 3) := by decide +kernel
theorem dX0_learnTrait_22 : decode cX0_learnTrait 22 = .ok (.iload_n 1, 1) := by decide +kernel
theorem dX0_learnTrait_23 : decode cX0_learnTrait 23 = .ok (.aaload, 1) := by decide +kernel
theorem dX0_learnTrait_24 : decode cX0_learnTrait 24 = .ok (.iload_n 2, 1) := by decide +kernel
theorem dX0_learnTrait_25 : decode cX0_learnTrait 25 = .ok (.iload_n 3, 1) := by decide +kernel
theorem dX0_learnTrait_26 : decode cX0_learnTrait 26 = .ok (.iastore, 1) := by decide +kernel
theorem dX0_learnTrait_27 : decode cX0_learnTrait 27 = .ok (.iconst 1, 1) := by decide +kernel
theorem dX0_learnTrait_28 : decode cX0_learnTrait 28 = .ok (.ireturn, 1) := by decide +kernel
theorem dX0_setFoes_0 : decode cX0_setFoes 0 = .ok (.aload_n 0, 1) := by decide +kernel
theorem dX0_setFoes_1 : decode cX0_setFoes 1 = .ok (.getfield 16, 3) := by decide +kernel
theorem dX0_setFoes_4 : decode cX0_setFoes 4 = .ok (.iload_n 1, 1) := by decide +kernel
theorem dX0_setFoes_5 : decode cX0_setFoes 5 = .ok (.iaload, 1) := by decide +kernel
theorem dX0_setFoes_6 : decode cX0_setFoes 6 = .ok (.iconst 1, 1) := by decide +kernel
theorem dX0_setFoes_7 : decode cX0_setFoes 7 = .ok (.iload_n 2, 1) := by decide +kernel
theorem dX0_setFoes_8 : decode cX0_setFoes 8 = .ok (.ishl, 1) := by decide +kernel
theorem dX0_setFoes_9 : decode cX0_setFoes 9 = .ok (.iconst (-1), 1) := by decide +kernel
theorem dX0_setFoes_10 : decode cX0_setFoes 10 = .ok (.ixor, 1) := by decide +kernel
theorem dX0_setFoes_11 : decode cX0_setFoes 11 = .ok (.iand, 1) := by decide +kernel
theorem dX0_setFoes_12 : decode cX0_setFoes 12 = .ok (.istore 4, 2) := by decide +kernel
theorem dX0_setFoes_14 : decode cX0_setFoes 14 = .ok (.aload_n 0, 1) := by decide +kernel
theorem dX0_setFoes_15 : decode cX0_setFoes 15 = .ok (.getfield 16, 3) := by decide +kernel
theorem dX0_setFoes_18 : decode cX0_setFoes 18 = .ok (.iload_n 2, 1) := by decide +kernel
theorem dX0_setFoes_19 : decode cX0_setFoes 19 = .ok (.iaload, 1) := by decide +kernel
theorem dX0_setFoes_20 : decode cX0_setFoes 20 = .ok (.iconst 1, 1) := by decide +kernel
theorem dX0_setFoes_21 : decode cX0_setFoes 21 = .ok (.iload_n 1, 1) := by decide +kernel
theorem dX0_setFoes_22 : decode cX0_setFoes 22 = .ok (.ishl, 1) := by decide +kernel
theorem dX0_setFoes_23 : decode cX0_setFoes 23 = .ok (.iconst (-1), 1) := by decide +kernel
theorem dX0_setFoes_24 : decode cX0_setFoes 24 = .ok (.ixor, 1) := by decide +kernel
theorem dX0_setFoes_25 : decode cX0_setFoes 25 = .ok (.iand, 1) := by decide +kernel
theorem dX0_setFoes_26 : decode cX0_setFoes 26 = .ok (.istore 5, 2) := by decide +kernel
theorem dX0_setFoes_28 : decode cX0_setFoes 28 = .ok (.aload_n 0, 1) := by decide +kernel
theorem dX0_setFoes_29 : decode cX0_setFoes 29 = .ok (.getfield 16, 3) := by decide +kernel
theorem dX0_setFoes_32 : decode cX0_setFoes 32 = .ok (.iload_n 1, 1) := by decide +kernel
theorem dX0_setFoes_33 : decode cX0_setFoes 33 = .ok (.iload_n 3, 1) := by decide +kernel
theorem dX0_setFoes_34 : decode cX0_setFoes 34 = .ok (.ifCond .eq 12, 3) := by decide +kernel
theorem dX0_setFoes_37 : decode cX0_setFoes 37 = .ok (.iload 4, 2) := by decide +kernel
theorem dX0_setFoes_39 : decode cX0_setFoes 39 = .ok (.iconst 1, 1) := by decide +kernel
theorem dX0_setFoes_40 : decode cX0_setFoes 40 = .ok (.iload_n 2, 1) := by decide +kernel
theorem dX0_setFoes_41 : decode cX0_setFoes 41 = .ok (.ishl, 1) := by decide +kernel
theorem dX0_setFoes_42 : decode cX0_setFoes 42 = .ok (.ior, 1) := by decide +kernel
theorem dX0_setFoes_43 : decode cX0_setFoes 43 = .ok (.goto 5, 3) := by decide +kernel
theorem dX0_setFoes_46 : decode cX0_setFoes 46 = .ok (.iload 4, 2) := by decide +kernel
theorem dX0_setFoes_48 : decode cX0_setFoes 48 = .ok (.iastore, 1) := by decide +kernel
theorem dX0_setFoes_49 : decode cX0_setFoes 49 = .ok (.aload_n 0, 1) := by decide +kernel
theorem dX0_setFoes_50 : decode cX0_setFoes 50 = .ok (.getfield 16, 3) := by decide +kernel
theorem dX0_setFoes_53 : decode cX0_setFoes 53 = .ok (.iload_n 2, 1) := by decide +kernel
theorem dX0_setFoes_54 : decode cX0_setFoes 54 = .ok (.iload_n 3, 1) := by decide +kernel
theorem dX0_setFoes_55 : decode cX0_setFoes 55 = .ok (.ifCond .eq 12, 3) := by decide +kernel
theorem dX0_setFoes_58 : decode cX0_setFoes 58 = .ok (.iload 5, 2) := by decide +kernel
theorem dX0_setFoes_60 : decode cX0_setFoes 60 = .ok (.iconst 1, 1) := by decide +kernel
theorem dX0_setFoes_61 : decode cX0_setFoes 61 = .ok (.iload_n 1, 1) := by decide +kernel
theorem dX0_setFoes_62 : decode cX0_setFoes 62 = .ok (.ishl, 1) := by decide +kernel
theorem dX0_setFoes_63 : decode cX0_setFoes 63 = .ok (.ior, 1) := by decide +kernel
theorem dX0_setFoes_64 : decode cX0_setFoes 64 = .ok (.goto 5, 3) := by decide +kernel
theorem dX0_setFoes_67 : decode cX0_setFoes 67 = .ok (.iload 5, 2) := by decide +kernel
theorem dX0_setFoes_69 : decode cX0_setFoes 69 = .ok (.iastore, 1) := by decide +kernel
theorem dX0_setFoes_70 : decode cX0_setFoes 70 = .ok (.return_, 1) := by decide +kernel
theorem dX0_areFoes_0 : decode cX0_areFoes 0 = .ok (.aload_n 0, 1) := by decide +kernel
theorem dX0_areFoes_1 : decode cX0_areFoes 1 = .ok (.getfield 16, 3) := by decide +kernel
theorem dX0_areFoes_4 : decode cX0_areFoes 4 = .ok (.iload_n 1, 1) := by decide +kernel
theorem dX0_areFoes_5 : decode cX0_areFoes 5 = .ok (.iaload, 1) := by decide +kernel
theorem dX0_areFoes_6 : decode cX0_areFoes 6 = .ok (.iload_n 2, 1) := by decide +kernel
theorem dX0_areFoes_7 : decode cX0_areFoes 7 = .ok (.ishr, 1) := by decide +kernel
theorem dX0_areFoes_8 : decode cX0_areFoes 8 = .ok (.iconst 1, 1) := by decide +kernel
theorem dX0_areFoes_9 : decode cX0_areFoes 9 = .ok (.iand, 1) := by decide +kernel
theorem dX0_areFoes_10 : decode cX0_areFoes 10 = .ok (.iconst 1, 1) := by decide +kernel
theorem dX0_areFoes_11 : decode cX0_areFoes 11 = .ok (.if_icmp .ne 7, 3) := by decide +kernel
theorem dX0_areFoes_14 : decode cX0_areFoes 14 = .ok (.iconst 1, 1) := by decide +kernel
theorem dX0_areFoes_15 : decode cX0_areFoes 15 = .ok (.goto 4, 3) := by decide +kernel
theorem dX0_areFoes_18 : decode cX0_areFoes 18 = .ok (.iconst 0, 1) := by decide +kernel
theorem dX0_areFoes_19 : decode cX0_areFoes 19 = .ok (.ireturn, 1) := by decide +kernel
theorem dX0_armsLessWeeds_0 : decode cX0_armsLessWeeds 0 = .ok (.aload_n 0, 1) := by decide +kernel
theorem dX0_armsLessWeeds_1 : decode cX0_armsLessWeeds 1 = .ok (.getfield 13, 3) := by decide +kernel
theorem dX0_armsLessWeeds_4 : decode cX0_armsLessWeeds 4 = .ok (.iconst 0, 1) := by decide +kernel
theorem dX0_armsLessWeeds_5 : decode cX0_armsLessWeeds 5 = .ok (.aaload, 1) := by decide +kernel
theorem dX0_armsLessWeeds_6 : decode cX0_armsLessWeeds 6 = .ok (.iload_n 1, 1) := by decide +kernel
theorem dX0_armsLessWeeds_7 : decode cX0_armsLessWeeds 7 = .ok (.iaload, 1) := by decide +kernel
theorem dX0_armsLessWeeds_8 : decode cX0_armsLessWeeds 8 = .ok (.istore_n 2, 1) := by decide +kernel
theorem dX0_armsLessWeeds_9 : decode cX0_armsLessWeeds 9 = .ok (.iconst 0, 1) := by decide +kernel
theorem dX0_armsLessWeeds_10 : decode cX0_armsLessWeeds 10 = .ok (.istore_n 3, 1) := by decide +kernel
theorem dX0_armsLessWeeds_11 : decode cX0_armsLessWeeds 11 = .ok (.iload_n 3, 1) := by decide +kernel
theorem dX0_armsLessWeeds_12 : decode cX0_armsLessWeeds 12 = .ok (.aload_n 0, 1) := by decide +kernel
theorem dX0_armsLessWeeds_13 : decode cX0_armsLessWeeds 13 = .ok (.getfield 26, 3) := by decide +kernel
theorem dX0_armsLessWeeds_16 : decode cX0_armsLessWeeds 16 = .ok (.if_icmp .ge 25, 3) := by decide +kernel
theorem dX0_armsLessWeeds_19 : decode cX0_armsLessWeeds 19 = .ok (.iload_n 3, 1) := by decide +kernel
theorem dX0_armsLessWeeds_20 : decode cX0_armsLessWeeds 20 = .ok (.iload_n 1, 1) := by decide +kernel
theorem dX0_armsLessWeeds_21 : decode cX0_armsLessWeeds 21 = .ok (.if_icmp .eq 14, 3) := by decide +kernel
theorem dX0_armsLessWeeds_24 : decode cX0_armsLessWeeds 24 = .ok (.iload_n 2, 1) := by decide +kernel
theorem dX0_armsLessWeeds_25 : decode cX0_armsLessWeeds 25 = .ok (.aload_n 0, 1) := by decide +kernel
theorem dX0_armsLessWeeds_26 : decode cX0_armsLessWeeds 26 = .ok (.getfield 13, 3) := by decide +kernel
theorem dX0_armsLessWeeds_29 : decode cX0_armsLessWeeds 29 = .ok (.iconst 2, 1) := by decide +kernel
theorem dX0_armsLessWeeds_30 : decode cX0_armsLessWeeds 30 = .ok (.aaload, 1) := by decide +kernel
theorem dX0_armsLessWeeds_31 : decode cX0_armsLessWeeds 31 = .ok (.iload_n 3, 1) := by decide +kernel
theorem dX0_armsLessWeeds_32 : decode cX0_armsLessWeeds 32 = .ok (.iaload, 1) := by decide +kernel
theorem dX0_armsLessWeeds_33 : decode cX0_armsLessWeeds 33 = .ok (.isub, 1) := by decide +kernel
theorem dX0_armsLessWeeds_34 : decode cX0_armsLessWeeds 34 = .ok (.istore_n 2, 1) := by decide +kernel
theorem dX0_armsLessWeeds_35 : decode cX0_armsLessWeeds 35 = .ok (.iinc 3 1, 3) := by decide +kernel
theorem dX0_armsLessWeeds_38 : decode cX0_armsLessWeeds 38 = .ok (.goto (-27), 3) := by decide +kernel
theorem dX0_armsLessWeeds_41 : decode cX0_armsLessWeeds 41 = .ok (.iload_n 2, 1) := by decide +kernel
theorem dX0_armsLessWeeds_42 : decode cX0_armsLessWeeds 42 = .ok (.ireturn, 1) := by decide +kernel
theorem dX0_stepsAnHour_0 : decode cX0_stepsAnHour 0 = .ok (.iconst 0, 1) := by decide +kernel
theorem dX0_stepsAnHour_1 : decode cX0_stepsAnHour 1 = .ok (.aload_n 0, 1) := by decide +kernel
theorem dX0_stepsAnHour_2 : decode cX0_stepsAnHour 2 = .ok (.iload_n 1, 1) := by decide +kernel
theorem dX0_stepsAnHour_3 : decode cX0_stepsAnHour 3 = .ok (.invokevirtual 60, 3) := by decide +kernel
theorem dX0_stepsAnHour_6 : decode cX0_stepsAnHour 6 = .ok (.aload_n 0, 1) := by decide +kernel
theorem dX0_stepsAnHour_7 : decode cX0_stepsAnHour 7 = .ok (.getfield 13, 3) := by decide +kernel
theorem dX0_stepsAnHour_10 : decode cX0_stepsAnHour 10 = .ok (.iconst 1, 1) := by decide +kernel
theorem dX0_stepsAnHour_11 : decode cX0_stepsAnHour 11 = .ok (.aaload, 1) := by decide +kernel
theorem dX0_stepsAnHour_12 : decode cX0_stepsAnHour 12 = .ok (.iload_n 1, 1) := by decide +kernel
theorem dX0_stepsAnHour_13 : decode cX0_stepsAnHour 13 = .ok (.iaload, 1) := by decide +kernel
theorem dX0_stepsAnHour_14 : decode cX0_stepsAnHour 14 = .ok (.isub, 1) := by decide +kernel
theorem dX0_stepsAnHour_15 : decode cX0_stepsAnHour 15 = .ok (.iload_n 2, 1) := by decide +kernel
theorem dX0_stepsAnHour_16 : decode cX0_stepsAnHour 16 = .ok (.isub, 1) := by decide +kernel
theorem dX0_stepsAnHour_17 : decode cX0_stepsAnHour 17 = .ok (.invokestatic 64, 3) := by decide +kernel
theorem dX0_stepsAnHour_20 : decode cX0_stepsAnHour 20 = .ok (.ireturn, 1) := by decide +kernel
theorem dX0_noteLog_0 : decode cX0_noteLog 0 = .ok (.aload_n 0, 1) := by decide +kernel
theorem dX0_noteLog_1 : decode cX0_noteLog 1 = .ok (.iload_n 1, 1) := by decide +kernel
theorem dX0_noteLog_2 : decode cX0_noteLog 2 = .ok (.invokevirtual 49, 3) := by decide +kernel
theorem dX0_noteLog_5 : decode cX0_noteLog 5 = .ok (.ifCond .eq 22, 3) := by decide +kernel
theorem dX0_noteLog_8 : decode cX0_noteLog 8 = .ok (.iload_n 2, 1) := by decide +kernel
theorem dX0_noteLog_9 : decode cX0_noteLog 9 = .ok (.iconst 0, 1) := by decide +kernel
theorem dX0_noteLog_10 : decode cX0_noteLog 10 = .ok (.bipush 60, 2) := by decide +kernel
theorem dX0_noteLog_12 : decode cX0_noteLog 12 = .ok (.invokestatic 45, 3) := by decide +kernel
theorem dX0_noteLog_15 : decode cX0_noteLog 15 = .ok (.ifCond .eq 12, 3) := by decide +kernel
theorem dX0_noteLog_18 : decode cX0_noteLog 18 = .ok (.aload_n 0, 1) := by decide +kernel
theorem dX0_noteLog_19 : decode cX0_noteLog 19 = .ok (.getfield 36, 3) := by decide +kernel
theorem dX0_noteLog_22 : decode cX0_noteLog 22 = .ok (.bipush 40, 2) := by decide +kernel
theorem dX0_noteLog_24 : decode cX0_noteLog 24 = .ok (.if_icmp .lt 5, 3) := by decide +kernel
theorem dX0_noteLog_27 : decode cX0_noteLog 27 = .ok (.iconst 0, 1) := by decide +kernel
theorem dX0_noteLog_28 : decode cX0_noteLog 28 = .ok (.ireturn, 1) := by decide +kernel
theorem dX0_noteLog_29 : decode cX0_noteLog 29 = .ok (.aload_n 0, 1) := by decide +kernel
theorem dX0_noteLog_30 : decode cX0_noteLog 30 = .ok (.dup, 1) := by decide +kernel
theorem dX0_noteLog_31 : decode cX0_noteLog 31 = .ok (.getfield 36, 3) := by decide +kernel
theorem dX0_noteLog_34 : decode cX0_noteLog 34 = .ok (.iconst 1, 1) := by decide +kernel
theorem dX0_noteLog_35 : decode cX0_noteLog 35 = .ok (.iadd, 1) := by decide +kernel
theorem dX0_noteLog_36 : decode cX0_noteLog 36 = .ok (.putfield 36, 3) := by decide +kernel
theorem dX0_noteLog_39 : decode cX0_noteLog 39 = .ok (.aload_n 0, 1) := by decide +kernel
theorem dX0_noteLog_40 : decode cX0_noteLog 40 = .ok (.getfield 20, 3) := by decide +kernel
theorem dX0_noteLog_43 : decode cX0_noteLog 43 = .ok (.iload_n 1, 1) := by decide +kernel
theorem dX0_noteLog_44 : decode cX0_noteLog 44 = .ok (.aload_n 0, 1) := by decide +kernel
theorem dX0_noteLog_45 : decode cX0_noteLog 45 = .ok (.getfield 20, 3) := by decide +kernel
theorem dX0_noteLog_48 : decode cX0_noteLog 48 = .ok (.iload_n 1, 1) := by decide +kernel
theorem dX0_noteLog_49 : decode cX0_noteLog 49 = .ok (.iaload, 1) := by decide +kernel
theorem dX0_noteLog_50 : decode cX0_noteLog 50 = .ok (.iload_n 2, 1) := by decide +kernel
theorem dX0_noteLog_51 : decode cX0_noteLog 51 = .ok (.invokestatic 70, 3) := by decide +kernel
theorem dX0_noteLog_54 : decode cX0_noteLog 54 = .ok (.iastore, 1) := by decide +kernel
theorem dX0_noteLog_55 : decode cX0_noteLog 55 = .ok (.aload_n 0, 1) := by decide +kernel
theorem dX0_noteLog_56 : decode cX0_noteLog 56 = .ok (.getfield 23, 3) := by decide +kernel
theorem dX0_noteLog_59 : decode cX0_noteLog 59 = .ok (.iload_n 1, 1) := by decide +kernel
theorem dX0_noteLog_60 : decode cX0_noteLog 60 = .ok (.aload_n 0, 1) := by decide +kernel
theorem dX0_noteLog_61 : decode cX0_noteLog 61 = .ok (.getfield 23, 3) := by decide +kernel
theorem dX0_noteLog_64 : decode cX0_noteLog 64 = .ok (.iload_n 1, 1) := by decide +kernel
theorem dX0_noteLog_65 : decode cX0_noteLog 65 = .ok (.iaload, 1) := by decide +kernel
theorem dX0_noteLog_66 : decode cX0_noteLog 66 = .ok (.iload_n 2, 1) := by decide +kernel
theorem dX0_noteLog_67 : decode cX0_noteLog 67 = .ok (.invokestatic 64, 3) := by decide +kernel
theorem dX0_noteLog_70 : decode cX0_noteLog 70 = .ok (.iastore, 1) := by decide +kernel
theorem dX0_noteLog_71 : decode cX0_noteLog 71 = .ok (.iconst 1, 1) := by decide +kernel
theorem dX0_noteLog_72 : decode cX0_noteLog 72 = .ok (.ireturn, 1) := by decide +kernel
theorem dX0_leastSlow_0 : decode cX0_leastSlow 0 = .ok (.aload_n 0, 1) := by decide +kernel
theorem dX0_leastSlow_1 : decode cX0_leastSlow 1 = .ok (.getfield 20, 3) := by decide +kernel
theorem dX0_leastSlow_4 : decode cX0_leastSlow 4 = .ok (.iload_n 1, 1) := by decide +kernel
theorem dX0_leastSlow_5 : decode cX0_leastSlow 5 = .ok (.iaload, 1) := by decide +kernel
theorem dX0_leastSlow_6 : decode cX0_leastSlow 6 = .ok (.bipush 61, 2) := by decide +kernel
theorem dX0_leastSlow_8 : decode cX0_leastSlow 8 = .ok (.if_icmp .ne 7, 3) := by decide +kernel
theorem dX0_leastSlow_11 : decode cX0_leastSlow 11 = .ok (.iconst 0, 1) := by decide +kernel
theorem dX0_leastSlow_12 : decode cX0_leastSlow 12 = .ok (.goto 19, 3) := by decide +kernel
theorem dX0_leastSlow_15 : decode cX0_leastSlow 15 = .ok (.iconst 0, 1) := by decide +kernel
theorem dX0_leastSlow_16 : decode cX0_leastSlow 16 = .ok (.aload_n 0, 1) := by decide +kernel
theorem dX0_leastSlow_17 : decode cX0_leastSlow 17 = .ok (.iload_n 1, 1) := by decide +kernel
theorem dX0_leastSlow_18 : decode cX0_leastSlow 18 = .ok (.invokevirtual 60, 3) := by decide +kernel
theorem dX0_leastSlow_21 : decode cX0_leastSlow 21 = .ok (.aload_n 0, 1) := by decide +kernel
theorem dX0_leastSlow_22 : decode cX0_leastSlow 22 = .ok (.getfield 20, 3) := by decide +kernel
theorem dX0_leastSlow_25 : decode cX0_leastSlow 25 = .ok (.iload_n 1, 1) := by decide +kernel
theorem dX0_leastSlow_26 : decode cX0_leastSlow 26 = .ok (.iaload, 1) := by decide +kernel
theorem dX0_leastSlow_27 : decode cX0_leastSlow 27 = .ok (.isub, 1) := by decide +kernel
theorem dX0_leastSlow_28 : decode cX0_leastSlow 28 = .ok (.invokestatic 64, 3) := by decide +kernel
theorem dX0_leastSlow_31 : decode cX0_leastSlow 31 = .ok (.ireturn, 1) := by decide +kernel
theorem dX0_mostSlow_0 : decode cX0_mostSlow 0 = .ok (.aload_n 0, 1) := by decide +kernel
theorem dX0_mostSlow_1 : decode cX0_mostSlow 1 = .ok (.getfield 23, 3) := by decide +kernel
theorem dX0_mostSlow_4 : decode cX0_mostSlow 4 = .ok (.iload_n 1, 1) := by decide +kernel
theorem dX0_mostSlow_5 : decode cX0_mostSlow 5 = .ok (.iaload, 1) := by decide +kernel
theorem dX0_mostSlow_6 : decode cX0_mostSlow 6 = .ok (.ifCond .ne 11, 3) := by decide +kernel
theorem dX0_mostSlow_9 : decode cX0_mostSlow 9 = .ok (.getstatic 53, 3) := by decide +kernel
theorem dX0_mostSlow_12 : decode cX0_mostSlow 12 = .ok (.iconst 1, 1) := by decide +kernel
theorem dX0_mostSlow_13 : decode cX0_mostSlow 13 = .ok (.iaload, 1) := by decide +kernel
theorem dX0_mostSlow_14 : decode cX0_mostSlow 14 = .ok (.goto 15, 3) := by decide +kernel
theorem dX0_mostSlow_17 : decode cX0_mostSlow 17 = .ok (.aload_n 0, 1) := by decide +kernel
theorem dX0_mostSlow_18 : decode cX0_mostSlow 18 = .ok (.iload_n 1, 1) := by decide +kernel
theorem dX0_mostSlow_19 : decode cX0_mostSlow 19 = .ok (.invokevirtual 60, 3) := by decide +kernel
theorem dX0_mostSlow_22 : decode cX0_mostSlow 22 = .ok (.aload_n 0, 1) := by decide +kernel
theorem dX0_mostSlow_23 : decode cX0_mostSlow 23 = .ok (.getfield 23, 3) := by decide +kernel
theorem dX0_mostSlow_26 : decode cX0_mostSlow 26 = .ok (.iload_n 1, 1) := by decide +kernel
theorem dX0_mostSlow_27 : decode cX0_mostSlow 27 = .ok (.iaload, 1) := by decide +kernel
theorem dX0_mostSlow_28 : decode cX0_mostSlow 28 = .ok (.isub, 1) := by decide +kernel
theorem dX0_mostSlow_29 : decode cX0_mostSlow 29 = .ok (.ireturn, 1) := by decide +kernel
theorem dX1_init_0 : decode cX1_init 0 = .ok (.aload_n 0, 1) := by decide +kernel
theorem dX1_init_1 : decode cX1_init 1 = .ok (.invokespecial 1, 3) := by decide +kernel
theorem dX1_init_4 : decode cX1_init 4 = .ok (.aload_n 0, 1) := by decide +kernel
theorem dX1_init_5 : decode cX1_init 5 = .ok (.sipush 400, 3) := by decide +kernel
theorem dX1_init_8 : decode cX1_init 8 = .ok (.newarray .int, 2) := by decide +kernel
theorem dX1_init_10 : decode cX1_init 10 = .ok (.putfield 9, 3) := by decide +kernel
theorem dX1_init_13 : decode cX1_init 13 = .ok (.aload_n 0, 1) := by decide +kernel
theorem dX1_init_14 : decode cX1_init 14 = .ok (.bipush 32, 2) := by decide +kernel
theorem dX1_init_16 : decode cX1_init 16 = .ok (.newarray .int, 2) := by decide +kernel
theorem dX1_init_18 : decode cX1_init 18 = .ok (.putfield 15, 3) := by decide +kernel
theorem dX1_init_21 : decode cX1_init 21 = .ok (.return_, 1) := by decide +kernel
theorem dX1_begin_0 : decode cX1_begin 0 = .ok (.aload_n 0, 1) := by decide +kernel
theorem dX1_begin_1 : decode cX1_begin 1 = .ok (.iconst 0, 1) := by decide +kernel
theorem dX1_begin_2 : decode cX1_begin 2 = .ok (.putfield 18, 3) := by decide +kernel
theorem dX1_begin_5 : decode cX1_begin 5 = .ok (.aload_n 0, 1) := by decide +kernel
theorem dX1_begin_6 : decode cX1_begin 6 = .ok (.iconst 0, 1) := by decide +kernel
theorem dX1_begin_7 : decode cX1_begin 7 = .ok (.putfield 22, 3) := by decide +kernel
theorem dX1_begin_10 : decode cX1_begin 10 = .ok (.return_, 1) := by decide +kernel
theorem dX1_copyFrom_0 : decode cX1_copyFrom 0 = .ok (.aload_n 0, 1) := by decide +kernel
theorem dX1_copyFrom_1 : decode cX1_copyFrom 1 = .ok (.aload_n 1, 1) := by decide +kernel
theorem dX1_copyFrom_2 : decode cX1_copyFrom 2 = .ok (.getfield 18, 3) := by decide +kernel
theorem dX1_copyFrom_5 : decode cX1_copyFrom 5 = .ok (.putfield 18, 3) := by decide +kernel
theorem dX1_copyFrom_8 : decode cX1_copyFrom 8 = .ok (.aload_n 0, 1) := by decide +kernel
theorem dX1_copyFrom_9 : decode cX1_copyFrom 9 = .ok (.aload_n 1, 1) := by decide +kernel
theorem dX1_copyFrom_10 : decode cX1_copyFrom 10 = .ok (.getfield 22, 3) := by decide +kernel
theorem dX1_copyFrom_13 : decode cX1_copyFrom 13 = .ok (.putfield 22, 3) := by decide +kernel
theorem dX1_copyFrom_16 : decode cX1_copyFrom 16 = .ok (.aload_n 1, 1) := by decide +kernel
theorem dX1_copyFrom_17 : decode cX1_copyFrom 17 = .ok (.getfield 9, 3) := by decide +kernel
theorem dX1_copyFrom_20 : decode cX1_copyFrom 20 = .ok (.iconst 0, 1) := by decide +kernel
theorem dX1_copyFrom_21 : decode cX1_copyFrom 21 = .ok (.aload_n 0, 1) := by decide +kernel
theorem dX1_copyFrom_22 : decode cX1_copyFrom 22 = .ok (.getfield 9, 3) := by decide +kernel
theorem dX1_copyFrom_25 : decode cX1_copyFrom 25 = .ok (.iconst 0, 1) := by decide +kernel
theorem dX1_copyFrom_26 : decode cX1_copyFrom 26 = .ok (.sipush 400, 3) := by decide +kernel
theorem dX1_copyFrom_29 : decode cX1_copyFrom 29 = .ok (.invokestatic 25, 3) := by decide +kernel
theorem dX1_copyFrom_32 : decode cX1_copyFrom 32 = .ok (.return_, 1) := by decide +kernel
theorem dX1_adopt_0 : decode cX1_adopt 0 = .ok (.aload_n 0, 1) := by decide +kernel
theorem dX1_adopt_1 : decode cX1_adopt 1 = .ok (.aload_n 1, 1) := by decide +kernel
theorem dX1_adopt_2 : decode cX1_adopt 2 = .ok (.getfield 31, 3) := by decide +kernel
theorem dX1_adopt_5 : decode cX1_adopt 5 = .ok (.putfield 18, 3) := by decide +kernel
theorem dX1_adopt_8 : decode cX1_adopt 8 = .ok (.aload_n 0, 1) := by decide +kernel
theorem dX1_adopt_9 : decode cX1_adopt 9 = .ok (.aload_n 1, 1) := by decide +kernel
theorem dX1_adopt_10 : decode cX1_adopt 10 = .ok (.getfield 34, 3) := by decide +kernel
theorem dX1_adopt_13 : decode cX1_adopt 13 = .ok (.putfield 22, 3) := by decide +kernel
theorem dX1_adopt_16 : decode cX1_adopt 16 = .ok (.aload_n 1, 1) := by decide +kernel
theorem dX1_adopt_17 : decode cX1_adopt 17 = .ok (.getfield 35, 3) := by decide +kernel
theorem dX1_adopt_20 : decode cX1_adopt 20 = .ok (.iconst 0, 1) := by decide +kernel
theorem dX1_adopt_21 : decode cX1_adopt 21 = .ok (.aload_n 0, 1) := by decide +kernel
theorem dX1_adopt_22 : decode cX1_adopt 22 = .ok (.getfield 9, 3) := by decide +kernel
theorem dX1_adopt_25 : decode cX1_adopt 25 = .ok (.iconst 0, 1) := by decide +kernel
theorem dX1_adopt_26 : decode cX1_adopt 26 = .ok (.sipush 400, 3) := by decide +kernel
theorem dX1_adopt_29 : decode cX1_adopt 29 = .ok (.invokestatic 25, 3) := by decide +kernel
theorem dX1_adopt_32 : decode cX1_adopt 32 = .ok (.return_, 1) := by decide +kernel
theorem dX1_push_0 : decode cX1_push 0 = .ok (.aload_n 0, 1) := by decide +kernel
theorem dX1_push_1 : decode cX1_push 1 = .ok (.getfield 36, 3) := by decide +kernel
theorem dX1_push_4 : decode cX1_push 4 = .ok (.iconst 0, 1) := by decide +kernel
theorem dX1_push_5 : decode cX1_push 5 = .ok (.bipush 31, 2) := by decide +kernel
theorem dX1_push_7 : decode cX1_push 7 = .ok (.invokestatic 39, 3) := by decide +kernel
theorem dX1_push_10 : decode cX1_push 10 = .ok (.ifCond .eq 23, 3) := by decide +kernel
theorem dX1_push_13 : decode cX1_push 13 = .ok (.aload_n 0, 1) := by decide +kernel
theorem dX1_push_14 : decode cX1_push 14 = .ok (.getfield 15, 3) := by decide +kernel
theorem dX1_push_17 : decode cX1_push 17 = .ok (.aload_n 0, 1) := by decide +kernel
theorem dX1_push_18 : decode cX1_push 18 = .ok (.getfield 36, 3) := by decide +kernel
theorem dX1_push_21 : decode cX1_push 21 = .ok (.iload_n 1, 1) := by decide +kernel
theorem dX1_push_22 : decode cX1_push 22 = .ok (.iastore, 1) := by decide +kernel
theorem dX1_push_23 : decode cX1_push 23 = .ok (.aload_n 0, 1) := by decide +kernel
theorem dX1_push_24 : decode cX1_push 24 = .ok (.dup, 1) := by decide +kernel
theorem dX1_push_25 : decode cX1_push 25 = .ok (.getfield 36, 3) := by decide +kernel
theorem dX1_push_28 : decode cX1_push 28 = .ok (.iconst 1, 1) := by decide +kernel
theorem dX1_push_29 : decode cX1_push 29 = .ok (.iadd, 1) := by decide +kernel
theorem dX1_push_30 : decode cX1_push 30 = .ok (.putfield 36, 3) := by decide +kernel
theorem dX1_push_33 : decode cX1_push 33 = .ok (.return_, 1) := by decide +kernel
theorem dX1_pop_0 : decode cX1_pop 0 = .ok (.aload_n 0, 1) := by decide +kernel
theorem dX1_pop_1 : decode cX1_pop 1 = .ok (.getfield 36, 3) := by decide +kernel
theorem dX1_pop_4 : decode cX1_pop 4 = .ok (.iconst 1, 1) := by decide +kernel
theorem dX1_pop_5 : decode cX1_pop 5 = .ok (.bipush 32, 2) := by decide +kernel
theorem dX1_pop_7 : decode cX1_pop 7 = .ok (.invokestatic 39, 3) := by decide +kernel
theorem dX1_pop_10 : decode cX1_pop 10 = .ok (.ifCond .ne 5, 3) := by decide +kernel
theorem dX1_pop_13 : decode cX1_pop 13 = .ok (.iconst 0, 1) := by decide +kernel
theorem dX1_pop_14 : decode cX1_pop 14 = .ok (.ireturn, 1) := by decide +kernel
theorem dX1_pop_15 : decode cX1_pop 15 = .ok (.aload_n 0, 1) := by decide +kernel
theorem dX1_pop_16 : decode cX1_pop 16 = .ok (.dup, 1) := by decide +kernel
theorem dX1_pop_17 : decode cX1_pop 17 = .ok (.getfield 36, 3) := by decide +kernel
theorem dX1_pop_20 : decode cX1_pop 20 = .ok (.iconst 1, 1) := by decide +kernel
theorem dX1_pop_21 : decode cX1_pop 21 = .ok (.isub, 1) := by decide +kernel
theorem dX1_pop_22 : decode cX1_pop 22 = .ok (.putfield 36, 3) := by decide +kernel
theorem dX1_pop_25 : decode cX1_pop 25 = .ok (.aload_n 0, 1) := by decide +kernel
theorem dX1_pop_26 : decode cX1_pop 26 = .ok (.getfield 15, 3) := by decide +kernel
theorem dX1_pop_29 : decode cX1_pop 29 = .ok (.aload_n 0, 1) := by decide +kernel
theorem dX1_pop_30 : decode cX1_pop 30 = .ok (.getfield 36, 3) := by decide +kernel
theorem dX1_pop_33 : decode cX1_pop 33 = .ok (.iaload, 1) := by decide +kernel
theorem dX1_pop_34 : decode cX1_pop 34 = .ok (.ireturn, 1) := by decide +kernel
theorem dX1_weigh_0 : decode cX1_weigh 0 = .ok (.aload_n 0, 1) := by decide +kernel
theorem dX1_weigh_1 : decode cX1_weigh 1 = .ok (.iconst 0, 1) := by decide +kernel
theorem dX1_weigh_2 : decode cX1_weigh 2 = .ok (.putfield 36, 3) := by decide +kernel
theorem dX1_weigh_5 : decode cX1_weigh 5 = .ok (.iconst 0, 1) := by decide +kernel
theorem dX1_weigh_6 : decode cX1_weigh 6 = .ok (.istore 4, 2) := by decide +kernel
theorem dX1_weigh_8 : decode cX1_weigh 8 = .ok (.iload 4, 2) := by decide +kernel
theorem dX1_weigh_10 : decode cX1_weigh 10 = .ok (.aload_n 0, 1) := by decide +kernel
theorem dX1_weigh_11 : decode cX1_weigh 11 = .ok (.getfield 22, 3) := by decide +kernel
theorem dX1_weigh_14 : decode cX1_weigh 14 = .ok (.if_icmp .ge 155, 3) := by decide +kernel
theorem dX1_weigh_17 : decode cX1_weigh 17 = .ok (.aload_n 0, 1) := by decide +kernel
theorem dX1_weigh_18 : decode cX1_weigh 18 = .ok (.getfield 9, 3) := by decide +kernel
theorem dX1_weigh_21 : decode cX1_weigh 21 = .ok (.iload 4, 2) := by decide +kernel
theorem dX1_weigh_23 : decode cX1_weigh 23 = .ok (.iaload, 1) := by decide +kernel
theorem dX1_weigh_24 : decode cX1_weigh 24 = .ok (.istore 5, 2) := by decide +kernel
theorem dX1_weigh_26 : decode cX1_weigh 26 = .ok (.iload 5, 2) := by decide +kernel
theorem dX1_weigh_28 : decode cX1_weigh 28 = .ok (.ifCond .lt 12, 3) := by decide +kernel
theorem dX1_weigh_31 : decode cX1_weigh 31 = .ok (.aload_n 0, 1) := by decide +kernel
theorem dX1_weigh_32 : decode cX1_weigh 32 = .ok (.iload 5, 2) := by decide +kernel
theorem dX1_weigh_34 : decode cX1_weigh 34 = .ok (.invokevirtual 45, 3) := by decide +kernel
theorem dX1_weigh_37 : decode cX1_weigh 37 = .ok (.goto 126, 3) := by decide +kernel
theorem dX1_weigh_40 : decode cX1_weigh 40 = .ok (.iload 5, 2) := by decide +kernel
theorem dX1_weigh_42 : decode cX1_weigh 42 = .ok (.sipush (-300), 3) := by decide +kernel
theorem dX1_weigh_45 : decode cX1_weigh 45 = .ok (.if_icmp .ne 11, 3) := by decide +kernel
theorem dX1_weigh_48 : decode cX1_weigh 48 = .ok (.aload_n 0, 1) := by decide +kernel
theorem dX1_weigh_49 : decode cX1_weigh 49 = .ok (.invokevirtual 49, 3) := by decide +kernel
theorem dX1_weigh_52 : decode cX1_weigh 52 = .ok (.invokestatic 53, 3) := by decide +kernel
theorem dX1_weigh_55 : decode cX1_weigh 55 = .ok (.ireturn, 1) := by decide +kernel
theorem dX1_weigh_56 : decode cX1_weigh 56 = .ok (.iload 5, 2) := by decide +kernel
theorem dX1_weigh_58 : decode cX1_weigh 58 = .ok (.sipush (-301), 3) := by decide +kernel
theorem dX1_weigh_61 : decode cX1_weigh 61 = .ok (.if_icmp .ne 37, 3) := by decide +kernel
theorem dX1_weigh_64 : decode cX1_weigh 64 = .ok (.aload_n 0, 1) := by decide +kernel
theorem dX1_weigh_65 : decode cX1_weigh 65 = .ok (.invokevirtual 49, 3) := by decide +kernel
theorem dX1_weigh_68 : decode cX1_weigh 68 = .ok (.ifCond .eq 7, 3) := by decide +kernel
theorem dX1_weigh_71 : decode cX1_weigh 71 = .ok (.iconst 1, 1) := by decide +kernel
theorem dX1_weigh_72 : decode cX1_weigh 72 = .ok (.goto 4, 3) := by decide +kernel
theorem dX1_weigh_75 : decode cX1_weigh 75 = .ok (.iconst 0, 1) := by decide +kernel
theorem dX1_weigh_76 : decode cX1_weigh 76 = .ok (.istore 6, 2) := by decide +kernel
theorem dX1_weigh_78 : decode cX1_weigh 78 = .ok (.aload_n 0, 1) := by decide +kernel
theorem dX1_weigh_79 : decode cX1_weigh 79 = .ok (.invokevirtual 49, 3) := by decide +kernel
theorem dX1_weigh_82 : decode cX1_weigh 82 = .ok (.istore 7, 2) := by decide +kernel
theorem dX1_weigh_84 : decode cX1_weigh 84 = .ok (.iload 6, 2) := by decide +kernel
theorem dX1_weigh_86 : decode cX1_weigh 86 = .ok (.ifCond .eq 9, 3) := by decide +kernel
theorem dX1_weigh_89 : decode cX1_weigh 89 = .ok (.iload 7, 2) := by decide +kernel
theorem dX1_weigh_91 : decode cX1_weigh 91 = .ok (.invokestatic 53, 3) := by decide +kernel
theorem dX1_weigh_94 : decode cX1_weigh 94 = .ok (.ireturn, 1) := by decide +kernel
theorem dX1_weigh_95 : decode cX1_weigh 95 = .ok (.goto 68, 3) := by decide +kernel
theorem dX1_weigh_98 : decode cX1_weigh 98 = .ok (.iload 5, 2) := by decide +kernel
theorem dX1_weigh_100 : decode cX1_weigh 100 = .ok (.sipush (-304), 3) := by decide +kernel
theorem dX1_weigh_103 : decode cX1_weigh 103 = .ok (.if_icmp .ne 16, 3) := by decide +kernel
theorem dX1_weigh_106 : decode cX1_weigh 106 = .ok (.aload_n 0, 1) := by decide +kernel
theorem dX1_weigh_107 : decode cX1_weigh 107 = .ok (.iconst 1, 1) := by decide +kernel
theorem dX1_weigh_108 : decode cX1_weigh 108 = .ok (.aload_n 0, 1) := by decide +kernel
theorem dX1_weigh_109 : decode cX1_weigh 109 = .ok (.invokevirtual 49, 3) := by decide +kernel
theorem dX1_weigh_112 : decode cX1_weigh 112 = .ok (.isub, 1) := by decide +kernel
theorem dX1_weigh_113 : decode cX1_weigh 113 = .ok (.invokevirtual 45, 3) := by decide +kernel
theorem dX1_weigh_116 : decode cX1_weigh 116 = .ok (.goto 47, 3) := by decide +kernel
theorem dX1_weigh_119 : decode cX1_weigh 119 = .ok (.iload 5, 2) := by decide +kernel
theorem dX1_weigh_121 : decode cX1_weigh 121 = .ok (.sipush (-305), 3) := by decide +kernel
theorem dX1_weigh_124 : decode cX1_weigh 124 = .ok (.if_icmp .gt 18, 3) := by decide +kernel
theorem dX1_weigh_127 : decode cX1_weigh 127 = .ok (.aload_n 0, 1) := by decide +kernel
theorem dX1_weigh_128 : decode cX1_weigh 128 = .ok (.iload 5, 2) := by decide +kernel
theorem dX1_weigh_130 : decode cX1_weigh 130 = .ok (.iload_n 1, 1) := by decide +kernel
theorem dX1_weigh_131 : decode cX1_weigh 131 = .ok (.aload_n 2, 1) := by decide +kernel
theorem dX1_weigh_132 : decode cX1_weigh 132 = .ok (.aload_n 3, 1) := by decide +kernel
theorem dX1_weigh_133 : decode cX1_weigh 133 = .ok (.invokestatic 57, 3) := by decide +kernel
theorem dX1_weigh_136 : decode cX1_weigh 136 = .ok (.invokevirtual 45, 3) := by decide +kernel
theorem dX1_weigh_139 : decode cX1_weigh 139 = .ok (.goto 24, 3) := by decide +kernel
theorem dX1_weigh_142 : decode cX1_weigh 142 = .ok (.aload_n 0, 1) := by decide +kernel
theorem dX1_weigh_143 : decode cX1_weigh 143 = .ok (.invokevirtual 49, 3) := by decide +kernel
theorem dX1_weigh_146 : decode cX1_weigh 146 = .ok (.istore 6, 2) := by decide +kernel
theorem dX1_weigh_148 : decode cX1_weigh 148 = .ok (.aload_n 0, 1) := by decide +kernel
theorem dX1_weigh_149 : decode cX1_weigh 149 = .ok (.iload 5, 2) := by decide +kernel
theorem dX1_weigh_151 : decode cX1_weigh 151 = .ok (.aload_n 0, 1) := by decide +kernel
theorem dX1_weigh_152 : decode cX1_weigh 152 = .ok (.invokevirtual 49, 3) := by decide +kernel
theorem dX1_weigh_155 : decode cX1_weigh 155 = .ok (.iload 6, 2) := by decide +kernel
theorem dX1_weigh_157 : decode cX1_weigh 157 = .ok (.invokestatic 61, 3) := by decide +kernel
theorem dX1_weigh_160 : decode cX1_weigh 160 = .ok (.invokevirtual 45, 3) := by decide +kernel
theorem dX1_weigh_163 : decode cX1_weigh 163 = .ok (.iinc 4 1, 3) := by decide +kernel
theorem dX1_weigh_166 : decode cX1_weigh 166 = .ok (.goto (-158), 3) := by decide +kernel
theorem dX1_weigh_169 : decode cX1_weigh 169 = .ok (.iconst 0, 1) := by decide +kernel
theorem dX1_weigh_170 : decode cX1_weigh 170 = .ok (.ireturn, 1) := by decide +kernel
theorem dX1_hold_0 : decode cX1_hold 0 = .ok (.iconst 0, 1) := by decide +kernel
theorem dX1_hold_1 : decode cX1_hold 1 = .ok (.sipush 9999, 3) := by decide +kernel
theorem dX1_hold_4 : decode cX1_hold 4 = .ok (.iload_n 0, 1) := by decide +kernel
theorem dX1_hold_5 : decode cX1_hold 5 = .ok (.invokestatic 65, 3) := by decide +kernel
theorem dX1_hold_8 : decode cX1_hold 8 = .ok (.invokestatic 71, 3) := by decide +kernel
theorem dX1_hold_11 : decode cX1_hold 11 = .ok (.ireturn, 1) := by decide +kernel
theorem dX1_join_0 : decode cX1_join 0 = .ok (.iload_n 0, 1) := by decide +kernel
theorem dX1_join_1 : decode cX1_join 1 = .ok (.lookupswitch 148 #[(-303, 140), (-302, 144), (-62, 129), (-61, 118), (-60, 107), (-47, 95), (-45, 87), (-43, 83), (-42, 91)], 83) := by decide +kernel
theorem dX1_join_84 : decode cX1_join 84 = .ok (.iload_n 1, 1) := by decide +kernel
theorem dX1_join_85 : decode cX1_join 85 = .ok (.iload_n 2, 1) := by decide +kernel
theorem dX1_join_86 : decode cX1_join 86 = .ok (.iadd, 1) := by decide +kernel
theorem dX1_join_87 : decode cX1_join 87 = .ok (.ireturn, 1) := by decide +kernel
theorem dX1_join_88 : decode cX1_join 88 = .ok (.iload_n 1, 1) := by decide +kernel
theorem dX1_join_89 : decode cX1_join 89 = .ok (.iload_n 2, 1) := by decide +kernel
theorem dX1_join_90 : decode cX1_join 90 = .ok (.isub, 1) := by decide +kernel
theorem dX1_join_91 : decode cX1_join 91 = .ok (.ireturn, 1) := by decide +kernel
theorem dX1_join_92 : decode cX1_join 92 = .ok (.iload_n 1, 1) := by decide +kernel
theorem dX1_join_93 : decode cX1_join 93 = .ok (.iload_n 2, 1) := by decide +kernel
theorem dX1_join_94 : decode cX1_join 94 = .ok (.imul, 1) := by decide +kernel
theorem dX1_join_95 : decode cX1_join 95 = .ok (.ireturn, 1) := by decide +kernel
theorem dX1_join_96 : decode cX1_join 96 = .ok (.iload_n 2, 1) := by decide +kernel
theorem dX1_join_97 : decode cX1_join 97 = .ok (.ifCond .le 9, 3) := by decide +kernel
theorem dX1_join_100 : decode cX1_join 100 = .ok (.iload_n 1, 1) := by decide +kernel
theorem dX1_join_101 : decode cX1_join 101 = .ok (.iload_n 2, 1) := by decide +kernel
theorem dX1_join_102 : decode cX1_join 102 = .ok (.idiv, 1) := by decide +kernel
theorem dX1_join_103 : decode cX1_join 103 = .ok (.goto 4, 3) := by decide +kernel
theorem dX1_join_106 : decode cX1_join 106 = .ok (.iconst 0, 1) := by decide +kernel
theorem dX1_join_107 : decode cX1_join 107 = .ok (.ireturn, 1) := by decide +kernel
theorem dX1_join_108 : decode cX1_join 108 = .ok (.iload_n 1, 1) := by decide +kernel
theorem dX1_join_109 : decode cX1_join 109 = .ok (.iload_n 2, 1) := by decide +kernel
theorem dX1_join_110 : decode cX1_join 110 = .ok (.if_icmp .ge 7, 3) := by decide +kernel
theorem dX1_join_113 : decode cX1_join 113 = .ok (.iconst 1, 1) := by decide +kernel
theorem dX1_join_114 : decode cX1_join 114 = .ok (.goto 4, 3) := by decide +kernel
theorem dX1_join_117 : decode cX1_join 117 = .ok (.iconst 0, 1) := by decide +kernel
theorem dX1_join_118 : decode cX1_join 118 = .ok (.ireturn, 1) := by decide +kernel
theorem dX1_join_119 : decode cX1_join 119 = .ok (.iload_n 1, 1) := by decide +kernel
theorem dX1_join_120 : decode cX1_join 120 = .ok (.iload_n 2, 1) := by decide +kernel
theorem dX1_join_121 : decode cX1_join 121 = .ok (.if_icmp .ne 7, 3) := by decide +kernel
theorem dX1_join_124 : decode cX1_join 124 = .ok (.iconst 1, 1) := by decide +kernel
theorem dX1_join_125 : decode cX1_join 125 = .ok (.goto 4, 3) := by decide +kernel
theorem dX1_join_128 : decode cX1_join 128 = .ok (.iconst 0, 1) := by decide +kernel
theorem dX1_join_129 : decode cX1_join 129 = .ok (.ireturn, 1) := by decide +kernel
theorem dX1_join_130 : decode cX1_join 130 = .ok (.iload_n 1, 1) := by decide +kernel
theorem dX1_join_131 : decode cX1_join 131 = .ok (.iload_n 2, 1) := by decide +kernel
theorem dX1_join_132 : decode cX1_join 132 = .ok (.if_icmp .le 7, 3) := by decide +kernel
theorem dX1_join_135 : decode cX1_join 135 = .ok (.iconst 1, 1) := by decide +kernel
theorem dX1_join_136 : decode cX1_join 136 = .ok (.goto 4, 3) := by decide +kernel
theorem dX1_join_139 : decode cX1_join 139 = .ok (.iconst 0, 1) := by decide +kernel
theorem dX1_join_140 : decode cX1_join 140 = .ok (.ireturn, 1) := by decide +kernel
theorem dX1_join_141 : decode cX1_join 141 = .ok (.iload_n 1, 1) := by decide +kernel
theorem dX1_join_142 : decode cX1_join 142 = .ok (.iload_n 2, 1) := by decide +kernel
theorem dX1_join_143 : decode cX1_join 143 = .ok (.iand, 1) := by decide +kernel
theorem dX1_join_144 : decode cX1_join 144 = .ok (.ireturn, 1) := by decide +kernel
theorem dX1_join_145 : decode cX1_join 145 = .ok (.iload_n 1, 1) := by decide +kernel
theorem dX1_join_146 : decode cX1_join 146 = .ok (.iload_n 2, 1) := by decide +kernel
theorem dX1_join_147 : decode cX1_join 147 = .ok (.ior, 1) := by decide +kernel
theorem dX1_join_148 : decode cX1_join 148 = .ok (.ireturn, 1) := by decide +kernel
theorem dX1_join_149 : decode cX1_join 149 = .ok (.iconst 0, 1) := by decide +kernel
theorem dX1_join_150 : decode cX1_join 150 = .ok (.ireturn, 1) := by decide +kernel
theorem dX1_valueOf_0 : decode cX1_valueOf 0 = .ok (.sipush (-305), 3) := by decide +kernel
theorem dX1_valueOf_3 : decode cX1_valueOf 3 = .ok (.iload_n 0, 1) := by decide +kernel
theorem dX1_valueOf_4 : decode cX1_valueOf 4 = .ok (.isub, 1) := by decide +kernel
theorem dX1_valueOf_5 : decode cX1_valueOf 5 = .ok (.tableswitch 123 0 9 #[55, 57, 64, 73, 82, 91, 98, 105, 112, 118], 55) := by decide +kernel
theorem dX1_valueOf_60 : decode cX1_valueOf 60 = .ok (.iload_n 1, 1) := by decide +kernel
theorem dX1_valueOf_61 : decode cX1_valueOf 61 = .ok (.ireturn, 1) := by decide +kernel
theorem dX1_valueOf_62 : decode cX1_valueOf 62 = .ok (.aload_n 3, 1) := by decide +kernel
theorem dX1_valueOf_63 : decode cX1_valueOf 63 = .ok (.getfield 74, 3) := by decide +kernel
theorem dX1_valueOf_66 : decode cX1_valueOf 66 = .ok (.iload_n 1, 1) := by decide +kernel
theorem dX1_valueOf_67 : decode cX1_valueOf 67 = .ok (.iaload, 1) := by decide +kernel
theorem dX1_valueOf_68 : decode cX1_valueOf 68 = .ok (.ireturn, 1) := by decide +kernel
theorem dX1_valueOf_69 : decode cX1_valueOf 69 = .ok (.aload_n 2, 1) := by decide +kernel
theorem dX1_valueOf_70 : decode cX1_valueOf 70 = .ok (.getfield 79, 3) := by decide +kernel
theorem dX1_valueOf_73 : decode cX1_valueOf 73 = .ok (.iconst 0, 1) := by decide +kernel
theorem dX1_valueOf_74 : decode cX1_valueOf 74 = .ok (.aaload, 1) := by decide +kernel
theorem dX1_valueOf_75 : decode cX1_valueOf 75 = .ok (.iload_n 1, 1) := by decide +kernel
theorem dX1_valueOf_76 : decode cX1_valueOf 76 = .ok (.iaload, 1) := by decide +kernel
theorem dX1_valueOf_77 : decode cX1_valueOf 77 = .ok (.ireturn, 1) := by decide +kernel
theorem dX1_valueOf_78 : decode cX1_valueOf 78 = .ok (.aload_n 2, 1) := by decide +kernel
theorem dX1_valueOf_79 : decode cX1_valueOf 79 = .ok (.getfield 79, 3) := by decide +kernel
theorem dX1_valueOf_82 : decode cX1_valueOf 82 = .ok (.iconst 2, 1) := by decide +kernel
theorem dX1_valueOf_83 : decode cX1_valueOf 83 = .ok (.aaload, 1) := by decide +kernel
theorem dX1_valueOf_84 : decode cX1_valueOf 84 = .ok (.iload_n 1, 1) := by decide +kernel
theorem dX1_valueOf_85 : decode cX1_valueOf 85 = .ok (.iaload, 1) := by decide +kernel
theorem dX1_valueOf_86 : decode cX1_valueOf 86 = .ok (.ireturn, 1) := by decide +kernel
theorem dX1_valueOf_87 : decode cX1_valueOf 87 = .ok (.aload_n 2, 1) := by decide +kernel
theorem dX1_valueOf_88 : decode cX1_valueOf 88 = .ok (.getfield 79, 3) := by decide +kernel
theorem dX1_valueOf_91 : decode cX1_valueOf 91 = .ok (.iconst 3, 1) := by decide +kernel
theorem dX1_valueOf_92 : decode cX1_valueOf 92 = .ok (.aaload, 1) := by decide +kernel
theorem dX1_valueOf_93 : decode cX1_valueOf 93 = .ok (.iload_n 1, 1) := by decide +kernel
theorem dX1_valueOf_94 : decode cX1_valueOf 94 = .ok (.iaload, 1) := by decide +kernel
theorem dX1_valueOf_95 : decode cX1_valueOf 95 = .ok (.ireturn, 1) := by decide +kernel
theorem dX1_valueOf_96 : decode cX1_valueOf 96 = .ok (.aload_n 3, 1) := by decide +kernel
theorem dX1_valueOf_97 : decode cX1_valueOf 97 = .ok (.getfield 85, 3) := by decide +kernel
theorem dX1_valueOf_100 : decode cX1_valueOf 100 = .ok (.iload_n 1, 1) := by decide +kernel
theorem dX1_valueOf_101 : decode cX1_valueOf 101 = .ok (.iaload, 1) := by decide +kernel
theorem dX1_valueOf_102 : decode cX1_valueOf 102 = .ok (.ireturn, 1) := by decide +kernel
theorem dX1_valueOf_103 : decode cX1_valueOf 103 = .ok (.aload_n 3, 1) := by decide +kernel
theorem dX1_valueOf_104 : decode cX1_valueOf 104 = .ok (.getfield 88, 3) := by decide +kernel
theorem dX1_valueOf_107 : decode cX1_valueOf 107 = .ok (.iload_n 1, 1) := by decide +kernel
theorem dX1_valueOf_108 : decode cX1_valueOf 108 = .ok (.iaload, 1) := by decide +kernel
theorem dX1_valueOf_109 : decode cX1_valueOf 109 = .ok (.ireturn, 1) := by decide +kernel
theorem dX1_valueOf_110 : decode cX1_valueOf 110 = .ok (.aload_n 3, 1) := by decide +kernel
theorem dX1_valueOf_111 : decode cX1_valueOf 111 = .ok (.getfield 91, 3) := by decide +kernel
theorem dX1_valueOf_114 : decode cX1_valueOf 114 = .ok (.iload_n 1, 1) := by decide +kernel
theorem dX1_valueOf_115 : decode cX1_valueOf 115 = .ok (.iaload, 1) := by decide +kernel
theorem dX1_valueOf_116 : decode cX1_valueOf 116 = .ok (.ireturn, 1) := by decide +kernel
theorem dX1_valueOf_117 : decode cX1_valueOf 117 = .ok (.aload_n 3, 1) := by decide +kernel
theorem dX1_valueOf_118 : decode cX1_valueOf 118 = .ok (.iload_n 1, 1) := by decide +kernel
theorem dX1_valueOf_119 : decode cX1_valueOf 119 = .ok (.invokevirtual 94, 3) := by decide +kernel
theorem dX1_valueOf_122 : decode cX1_valueOf 122 = .ok (.ireturn, 1) := by decide +kernel
theorem dX1_valueOf_123 : decode cX1_valueOf 123 = .ok (.aload_n 3, 1) := by decide +kernel
theorem dX1_valueOf_124 : decode cX1_valueOf 124 = .ok (.getfield 97, 3) := by decide +kernel
theorem dX1_valueOf_127 : decode cX1_valueOf 127 = .ok (.ireturn, 1) := by decide +kernel
theorem dX1_valueOf_128 : decode cX1_valueOf 128 = .ok (.iconst 0, 1) := by decide +kernel
theorem dX1_valueOf_129 : decode cX1_valueOf 129 = .ok (.ireturn, 1) := by decide +kernel
theorem dX2_init_0 : decode cX2_init 0 = .ok (.aload_n 0, 1) := by decide +kernel
theorem dX2_init_1 : decode cX2_init 1 = .ok (.invokespecial 3, 3) := by decide +kernel
theorem dX2_init_4 : decode cX2_init 4 = .ok (.aload_n 0, 1) := by decide +kernel
theorem dX2_init_5 : decode cX2_init 5 = .ok (.bipush 9, 2) := by decide +kernel
theorem dX2_init_7 : decode cX2_init 7 = .ok (.newarray .int, 2) := by decide +kernel
theorem dX2_init_9 : decode cX2_init 9 = .ok (.putfield 9, 3) := by decide +kernel
theorem dX2_init_12 : decode cX2_init 12 = .ok (.aload_n 0, 1) := by decide +kernel
theorem dX2_init_13 : decode cX2_init 13 = .ok (.sipush 512, 3) := by decide +kernel
theorem dX2_init_16 : decode cX2_init 16 = .ok (.newarray .int, 2) := by decide +kernel
theorem dX2_init_18 : decode cX2_init 18 = .ok (.putfield 15, 3) := by decide +kernel
theorem dX2_init_21 : decode cX2_init 21 = .ok (.aload_n 0, 1) := by decide +kernel
theorem dX2_init_22 : decode cX2_init 22 = .ok (.sipush 512, 3) := by decide +kernel
theorem dX2_init_25 : decode cX2_init 25 = .ok (.newarray .int, 2) := by decide +kernel
theorem dX2_init_27 : decode cX2_init 27 = .ok (.putfield 18, 3) := by decide +kernel
theorem dX2_init_30 : decode cX2_init 30 = .ok (.return_, 1) := by decide +kernel
theorem dX2_fewestDeals_0 : decode cX2_fewestDeals 0 = .ok (.iconst 0, 1) := by decide +kernel
theorem dX2_fewestDeals_1 : decode cX2_fewestDeals 1 = .ok (.bipush 9, 2) := by decide +kernel
theorem dX2_fewestDeals_3 : decode cX2_fewestDeals 3 = .ok (.iload_n 2, 1) := by decide +kernel
theorem dX2_fewestDeals_4 : decode cX2_fewestDeals 4 = .ok (.invokestatic 21, 3) := by decide +kernel
theorem dX2_fewestDeals_7 : decode cX2_fewestDeals 7 = .ok (.invokestatic 27, 3) := by decide +kernel
theorem dX2_fewestDeals_10 : decode cX2_fewestDeals 10 = .ok (.istore_n 3, 1) := by decide +kernel
theorem dX2_fewestDeals_11 : decode cX2_fewestDeals 11 = .ok (.iconst 0, 1) := by decide +kernel
theorem dX2_fewestDeals_12 : decode cX2_fewestDeals 12 = .ok (.istore 4, 2) := by decide +kernel
theorem dX2_fewestDeals_14 : decode cX2_fewestDeals 14 = .ok (.iload 4, 2) := by decide +kernel
theorem dX2_fewestDeals_16 : decode cX2_fewestDeals 16 = .ok (.iload_n 3, 1) := by decide +kernel
theorem dX2_fewestDeals_17 : decode cX2_fewestDeals 17 = .ok (.if_icmp .ge 29, 3) := by decide +kernel
theorem dX2_fewestDeals_20 : decode cX2_fewestDeals 20 = .ok (.aload_n 0, 1) := by decide +kernel
theorem dX2_fewestDeals_21 : decode cX2_fewestDeals 21 = .ok (.getfield 9, 3) := by decide +kernel
theorem dX2_fewestDeals_24 : decode cX2_fewestDeals 24 = .ok (.iload 4, 2) := by decide +kernel
theorem dX2_fewestDeals_26 : decode cX2_fewestDeals 26 = .ok (.aload_n 1, 1) := by decide +kernel
theorem dX2_fewestDeals_27 : decode cX2_fewestDeals 27 = .ok (.iload 4, 2) := by decide +kernel
theorem dX2_fewestDeals_29 : decode cX2_fewestDeals 29 = .ok (.invokevirtual 30, 3) := by decide +kernel
theorem dX2_fewestDeals_32 : decode cX2_fewestDeals 32 = .ok (.aload_n 1, 1) := by decide +kernel
theorem dX2_fewestDeals_33 : decode cX2_fewestDeals 33 = .ok (.iload 4, 2) := by decide +kernel
theorem dX2_fewestDeals_35 : decode cX2_fewestDeals 35 = .ok (.invokevirtual 36, 3) := by decide +kernel
theorem dX2_fewestDeals_38 : decode cX2_fewestDeals 38 = .ok (.isub, 1) := by decide +kernel
theorem dX2_fewestDeals_39 : decode cX2_fewestDeals 39 = .ok (.iastore, 1) := by decide +kernel
theorem dX2_fewestDeals_40 : decode cX2_fewestDeals 40 = .ok (.iinc 4 1, 3) := by decide +kernel
theorem dX2_fewestDeals_43 : decode cX2_fewestDeals 43 = .ok (.goto (-29), 3) := by decide +kernel
theorem dX2_fewestDeals_46 : decode cX2_fewestDeals 46 = .ok (.iconst 1, 1) := by decide +kernel
theorem dX2_fewestDeals_47 : decode cX2_fewestDeals 47 = .ok (.iload_n 3, 1) := by decide +kernel
theorem dX2_fewestDeals_48 : decode cX2_fewestDeals 48 = .ok (.ishl, 1) := by decide +kernel
theorem dX2_fewestDeals_49 : decode cX2_fewestDeals 49 = .ok (.istore 4, 2) := by decide +kernel
theorem dX2_fewestDeals_51 : decode cX2_fewestDeals 51 = .ok (.iconst 1, 1) := by decide +kernel
theorem dX2_fewestDeals_52 : decode cX2_fewestDeals 52 = .ok (.istore 5, 2) := by decide +kernel
theorem dX2_fewestDeals_54 : decode cX2_fewestDeals 54 = .ok (.iload 5, 2) := by decide +kernel
theorem dX2_fewestDeals_56 : decode cX2_fewestDeals 56 = .ok (.iload 4, 2) := by decide +kernel
theorem dX2_fewestDeals_58 : decode cX2_fewestDeals 58 = .ok (.if_icmp .ge 16, 3) := by decide +kernel
theorem dX2_fewestDeals_61 : decode cX2_fewestDeals 61 = .ok (.aload_n 0, 1) := by decide +kernel
theorem dX2_fewestDeals_62 : decode cX2_fewestDeals 62 = .ok (.iload 5, 2) := by decide +kernel
theorem dX2_fewestDeals_64 : decode cX2_fewestDeals 64 = .ok (.iload_n 3, 1) := by decide +kernel
theorem dX2_fewestDeals_65 : decode cX2_fewestDeals 65 = .ok (.invokevirtual 39, 3) := by decide +kernel
theorem dX2_fewestDeals_68 : decode cX2_fewestDeals 68 = .ok (.iinc 5 1, 3) := by decide +kernel
theorem dX2_fewestDeals_71 : decode cX2_fewestDeals 71 = .ok (.goto (-17), 3) := by decide +kernel
theorem dX2_fewestDeals_74 : decode cX2_fewestDeals 74 = .ok (.iload_n 3, 1) := by decide +kernel
theorem dX2_fewestDeals_75 : decode cX2_fewestDeals 75 = .ok (.aload_n 0, 1) := by decide +kernel
theorem dX2_fewestDeals_76 : decode cX2_fewestDeals 76 = .ok (.getfield 18, 3) := by decide +kernel
theorem dX2_fewestDeals_79 : decode cX2_fewestDeals 79 = .ok (.iload 4, 2) := by decide +kernel
theorem dX2_fewestDeals_81 : decode cX2_fewestDeals 81 = .ok (.iconst 1, 1) := by decide +kernel
theorem dX2_fewestDeals_82 : decode cX2_fewestDeals 82 = .ok (.isub, 1) := by decide +kernel
theorem dX2_fewestDeals_83 : decode cX2_fewestDeals 83 = .ok (.iaload, 1) := by decide +kernel
theorem dX2_fewestDeals_84 : decode cX2_fewestDeals 84 = .ok (.isub, 1) := by decide +kernel
theorem dX2_fewestDeals_85 : decode cX2_fewestDeals 85 = .ok (.ireturn, 1) := by decide +kernel
theorem dX2_weighSet_0 : decode cX2_weighSet 0 = .ok (.iconst 0, 1) := by decide +kernel
theorem dX2_weighSet_1 : decode cX2_weighSet 1 = .ok (.istore_n 3, 1) := by decide +kernel
theorem dX2_weighSet_2 : decode cX2_weighSet 2 = .ok (.iconst 0, 1) := by decide +kernel
theorem dX2_weighSet_3 : decode cX2_weighSet 3 = .ok (.istore 4, 2) := by decide +kernel
theorem dX2_weighSet_5 : decode cX2_weighSet 5 = .ok (.iload 4, 2) := by decide +kernel
theorem dX2_weighSet_7 : decode cX2_weighSet 7 = .ok (.iload_n 2, 1) := by decide +kernel
theorem dX2_weighSet_8 : decode cX2_weighSet 8 = .ok (.if_icmp .ge 60, 3) := by decide +kernel
theorem dX2_weighSet_11 : decode cX2_weighSet 11 = .ok (.iload_n 1, 1) := by decide +kernel
theorem dX2_weighSet_12 : decode cX2_weighSet 12 = .ok (.iload 4, 2) := by decide +kernel
theorem dX2_weighSet_14 : decode cX2_weighSet 14 = .ok (.ishr, 1) := by decide +kernel
theorem dX2_weighSet_15 : decode cX2_weighSet 15 = .ok (.iconst 1, 1) := by decide +kernel
theorem dX2_weighSet_16 : decode cX2_weighSet 16 = .ok (.iand, 1) := by decide +kernel
theorem dX2_weighSet_17 : decode cX2_weighSet 17 = .ok (.iconst 1, 1) := by decide +kernel
theorem dX2_weighSet_18 : decode cX2_weighSet 18 = .ok (.if_icmp .ne 44, 3) := by decide +kernel
theorem dX2_weighSet_21 : decode cX2_weighSet 21 = .ok (.iload_n 1, 1) := by decide +kernel
theorem dX2_weighSet_22 : decode cX2_weighSet 22 = .ok (.iconst 1, 1) := by decide +kernel
theorem dX2_weighSet_23 : decode cX2_weighSet 23 = .ok (.iload 4, 2) := by decide +kernel
theorem dX2_weighSet_25 : decode cX2_weighSet 25 = .ok (.ishl, 1) := by decide +kernel
theorem dX2_weighSet_26 : decode cX2_weighSet 26 = .ok (.ixor, 1) := by decide +kernel
theorem dX2_weighSet_27 : decode cX2_weighSet 27 = .ok (.istore 5, 2) := by decide +kernel
theorem dX2_weighSet_29 : decode cX2_weighSet 29 = .ok (.aload_n 0, 1) := by decide +kernel
theorem dX2_weighSet_30 : decode cX2_weighSet 30 = .ok (.getfield 15, 3) := by decide +kernel
theorem dX2_weighSet_33 : decode cX2_weighSet 33 = .ok (.iload_n 1, 1) := by decide +kernel
theorem dX2_weighSet_34 : decode cX2_weighSet 34 = .ok (.aload_n 0, 1) := by decide +kernel
theorem dX2_weighSet_35 : decode cX2_weighSet 35 = .ok (.getfield 15, 3) := by decide +kernel
theorem dX2_weighSet_38 : decode cX2_weighSet 38 = .ok (.iload 5, 2) := by decide +kernel
theorem dX2_weighSet_40 : decode cX2_weighSet 40 = .ok (.iaload, 1) := by decide +kernel
theorem dX2_weighSet_41 : decode cX2_weighSet 41 = .ok (.aload_n 0, 1) := by decide +kernel
theorem dX2_weighSet_42 : decode cX2_weighSet 42 = .ok (.getfield 9, 3) := by decide +kernel
theorem dX2_weighSet_45 : decode cX2_weighSet 45 = .ok (.iload 4, 2) := by decide +kernel
theorem dX2_weighSet_47 : decode cX2_weighSet 47 = .ok (.iaload, 1) := by decide +kernel
theorem dX2_weighSet_48 : decode cX2_weighSet 48 = .ok (.iadd, 1) := by decide +kernel
theorem dX2_weighSet_49 : decode cX2_weighSet 49 = .ok (.iastore, 1) := by decide +kernel
theorem dX2_weighSet_50 : decode cX2_weighSet 50 = .ok (.iload_n 3, 1) := by decide +kernel
theorem dX2_weighSet_51 : decode cX2_weighSet 51 = .ok (.aload_n 0, 1) := by decide +kernel
theorem dX2_weighSet_52 : decode cX2_weighSet 52 = .ok (.getfield 18, 3) := by decide +kernel
theorem dX2_weighSet_55 : decode cX2_weighSet 55 = .ok (.iload 5, 2) := by decide +kernel
theorem dX2_weighSet_57 : decode cX2_weighSet 57 = .ok (.iaload, 1) := by decide +kernel
theorem dX2_weighSet_58 : decode cX2_weighSet 58 = .ok (.invokestatic 27, 3) := by decide +kernel
theorem dX2_weighSet_61 : decode cX2_weighSet 61 = .ok (.istore_n 3, 1) := by decide +kernel
theorem dX2_weighSet_62 : decode cX2_weighSet 62 = .ok (.iinc 4 1, 3) := by decide +kernel
theorem dX2_weighSet_65 : decode cX2_weighSet 65 = .ok (.goto (-60), 3) := by decide +kernel
theorem dX2_weighSet_68 : decode cX2_weighSet 68 = .ok (.aload_n 0, 1) := by decide +kernel
theorem dX2_weighSet_69 : decode cX2_weighSet 69 = .ok (.getfield 18, 3) := by decide +kernel
theorem dX2_weighSet_72 : decode cX2_weighSet 72 = .ok (.iload_n 1, 1) := by decide +kernel
theorem dX2_weighSet_73 : decode cX2_weighSet 73 = .ok (.aload_n 0, 1) := by decide +kernel
theorem dX2_weighSet_74 : decode cX2_weighSet 74 = .ok (.getfield 15, 3) := by decide +kernel
theorem dX2_weighSet_77 : decode cX2_weighSet 77 = .ok (.iload_n 1, 1) := by decide +kernel
theorem dX2_weighSet_78 : decode cX2_weighSet 78 = .ok (.iaload, 1) := by decide +kernel
theorem dX2_weighSet_79 : decode cX2_weighSet 79 = .ok (.ifCond .ne 9, 3) := by decide +kernel
theorem dX2_weighSet_82 : decode cX2_weighSet 82 = .ok (.iload_n 3, 1) := by decide +kernel
theorem dX2_weighSet_83 : decode cX2_weighSet 83 = .ok (.iconst 1, 1) := by decide +kernel
theorem dX2_weighSet_84 : decode cX2_weighSet 84 = .ok (.iadd, 1) := by decide +kernel
theorem dX2_weighSet_85 : decode cX2_weighSet 85 = .ok (.goto 4, 3) := by decide +kernel
theorem dX2_weighSet_88 : decode cX2_weighSet 88 = .ok (.iload_n 3, 1) := by decide +kernel
theorem dX2_weighSet_89 : decode cX2_weighSet 89 = .ok (.iastore, 1) := by decide +kernel
theorem dX2_weighSet_90 : decode cX2_weighSet 90 = .ok (.return_, 1) := by decide +kernel
theorem dX3_init_0 : decode cX3_init 0 = .ok (.aload_n 0, 1) := by decide +kernel
theorem dX3_init_1 : decode cX3_init 1 = .ok (.invokespecial 3, 3) := by decide +kernel
theorem dX3_init_4 : decode cX3_init 4 = .ok (.aload_n 0, 1) := by decide +kernel
theorem dX3_init_5 : decode cX3_init 5 = .ok (.bipush 10, 2) := by decide +kernel
theorem dX3_init_7 : decode cX3_init 7 = .ok (.newarray .int, 2) := by decide +kernel
theorem dX3_init_9 : decode cX3_init 9 = .ok (.putfield 9, 3) := by decide +kernel
theorem dX3_init_12 : decode cX3_init 12 = .ok (.aload_n 0, 1) := by decide +kernel
theorem dX3_init_13 : decode cX3_init 13 = .ok (.bipush 8, 2) := by decide +kernel
theorem dX3_init_15 : decode cX3_init 15 = .ok (.newarray .int, 2) := by decide +kernel
theorem dX3_init_17 : decode cX3_init 17 = .ok (.putfield 15, 3) := by decide +kernel
theorem dX3_init_20 : decode cX3_init 20 = .ok (.aload_n 0, 1) := by decide +kernel
theorem dX3_init_21 : decode cX3_init 21 = .ok (.bipush 9, 2) := by decide +kernel
theorem dX3_init_23 : decode cX3_init 23 = .ok (.newarray .int, 2) := by decide +kernel
theorem dX3_init_25 : decode cX3_init 25 = .ok (.putfield 18, 3) := by decide +kernel
theorem dX3_init_28 : decode cX3_init 28 = .ok (.aload_n 0, 1) := by decide +kernel
theorem dX3_init_29 : decode cX3_init 29 = .ok (.bipush 9, 2) := by decide +kernel
theorem dX3_init_31 : decode cX3_init 31 = .ok (.newarray .int, 2) := by decide +kernel
theorem dX3_init_33 : decode cX3_init 33 = .ok (.putfield 21, 3) := by decide +kernel
theorem dX3_init_36 : decode cX3_init 36 = .ok (.aload_n 0, 1) := by decide +kernel
theorem dX3_init_37 : decode cX3_init 37 = .ok (.bipush 9, 2) := by decide +kernel
theorem dX3_init_39 : decode cX3_init 39 = .ok (.newarray .int, 2) := by decide +kernel
theorem dX3_init_41 : decode cX3_init 41 = .ok (.putfield 24, 3) := by decide +kernel
theorem dX3_init_44 : decode cX3_init 44 = .ok (.aload_n 0, 1) := by decide +kernel
theorem dX3_init_45 : decode cX3_init 45 = .ok (.bipush 9, 2) := by decide +kernel
theorem dX3_init_47 : decode cX3_init 47 = .ok (.newarray .int, 2) := by decide +kernel
theorem dX3_init_49 : decode cX3_init 49 = .ok (.putfield 27, 3) := by decide +kernel
theorem dX3_init_52 : decode cX3_init 52 = .ok (.aload_n 0, 1) := by decide +kernel
theorem dX3_init_53 : decode cX3_init 53 = .ok (.bipush 9, 2) := by decide +kernel
theorem dX3_init_55 : decode cX3_init 55 = .ok (.newarray .int, 2) := by decide +kernel
theorem dX3_init_57 : decode cX3_init 57 = .ok (.putfield 30, 3) := by decide +kernel
theorem dX3_init_60 : decode cX3_init 60 = .ok (.aload_n 0, 1) := by decide +kernel
theorem dX3_init_61 : decode cX3_init 61 = .ok (.bipush 9, 2) := by decide +kernel
theorem dX3_init_63 : decode cX3_init 63 = .ok (.newarray .int, 2) := by decide +kernel
theorem dX3_init_65 : decode cX3_init 65 = .ok (.putfield 33, 3) := by decide +kernel
theorem dX3_init_68 : decode cX3_init 68 = .ok (.aload_n 0, 1) := by decide +kernel
theorem dX3_init_69 : decode cX3_init 69 = .ok (.bipush 81, 2) := by decide +kernel
theorem dX3_init_71 : decode cX3_init 71 = .ok (.newarray .int, 2) := by decide +kernel
theorem dX3_init_73 : decode cX3_init 73 = .ok (.putfield 36, 3) := by decide +kernel
theorem dX3_init_76 : decode cX3_init 76 = .ok (.return_, 1) := by decide +kernel
theorem dX3_copyFrom_0 : decode cX3_copyFrom 0 = .ok (.aload_n 0, 1) := by decide +kernel
theorem dX3_copyFrom_1 : decode cX3_copyFrom 1 = .ok (.aload_n 1, 1) := by decide +kernel
theorem dX3_copyFrom_2 : decode cX3_copyFrom 2 = .ok (.getfield 39, 3) := by decide +kernel
theorem dX3_copyFrom_5 : decode cX3_copyFrom 5 = .ok (.putfield 39, 3) := by decide +kernel
theorem dX3_copyFrom_8 : decode cX3_copyFrom 8 = .ok (.aload_n 0, 1) := by decide +kernel
theorem dX3_copyFrom_9 : decode cX3_copyFrom 9 = .ok (.aload_n 1, 1) := by decide +kernel
theorem dX3_copyFrom_10 : decode cX3_copyFrom 10 = .ok (.getfield 43, 3) := by decide +kernel
theorem dX3_copyFrom_13 : decode cX3_copyFrom 13 = .ok (.putfield 43, 3) := by decide +kernel
theorem dX3_copyFrom_16 : decode cX3_copyFrom 16 = .ok (.aload_n 0, 1) := by decide +kernel
theorem dX3_copyFrom_17 : decode cX3_copyFrom 17 = .ok (.aload_n 1, 1) := by decide +kernel
theorem dX3_copyFrom_18 : decode cX3_copyFrom 18 = .ok (.getfield 46, 3) := by decide +kernel
theorem dX3_copyFrom_21 : decode cX3_copyFrom 21 = .ok (.putfield 46, 3) := by decide +kernel
theorem dX3_copyFrom_24 : decode cX3_copyFrom 24 = .ok (.aload_n 0, 1) := by decide +kernel
theorem dX3_copyFrom_25 : decode cX3_copyFrom 25 = .ok (.aload_n 1, 1) := by decide +kernel
theorem dX3_copyFrom_26 : decode cX3_copyFrom 26 = .ok (.getfield 49, 3) := by decide +kernel
theorem dX3_copyFrom_29 : decode cX3_copyFrom 29 = .ok (.putfield 49, 3) := by decide +kernel
theorem dX3_copyFrom_32 : decode cX3_copyFrom 32 = .ok (.aload_n 0, 1) := by decide +kernel
theorem dX3_copyFrom_33 : decode cX3_copyFrom 33 = .ok (.aload_n 1, 1) := by decide +kernel
theorem dX3_copyFrom_34 : decode cX3_copyFrom 34 = .ok (.getfield 52, 3) := by decide +kernel
theorem dX3_copyFrom_37 : decode cX3_copyFrom 37 = .ok (.putfield 52, 3) := by decide +kernel
theorem dX3_copyFrom_40 : decode cX3_copyFrom 40 = .ok (.aload_n 0, 1) := by decide +kernel
theorem dX3_copyFrom_41 : decode cX3_copyFrom 41 = .ok (.aload_n 1, 1) := by decide +kernel
theorem dX3_copyFrom_42 : decode cX3_copyFrom 42 = .ok (.getfield 55, 3) := by decide +kernel
theorem dX3_copyFrom_45 : decode cX3_copyFrom 45 = .ok (.putfield 55, 3) := by decide +kernel
theorem dX3_copyFrom_48 : decode cX3_copyFrom 48 = .ok (.aload_n 0, 1) := by decide +kernel
theorem dX3_copyFrom_49 : decode cX3_copyFrom 49 = .ok (.aload_n 1, 1) := by decide +kernel
theorem dX3_copyFrom_50 : decode cX3_copyFrom 50 = .ok (.getfield 58, 3) := by decide +kernel
theorem dX3_copyFrom_53 : decode cX3_copyFrom 53 = .ok (.putfield 58, 3) := by decide +kernel
theorem dX3_copyFrom_56 : decode cX3_copyFrom 56 = .ok (.aload_n 1, 1) := by decide +kernel
theorem dX3_copyFrom_57 : decode cX3_copyFrom 57 = .ok (.getfield 9, 3) := by decide +kernel
theorem dX3_copyFrom_60 : decode cX3_copyFrom 60 = .ok (.iconst 0, 1) := by decide +kernel
theorem dX3_copyFrom_61 : decode cX3_copyFrom 61 = .ok (.aload_n 0, 1) := by decide +kernel
theorem dX3_copyFrom_62 : decode cX3_copyFrom 62 = .ok (.getfield 9, 3) := by decide +kernel
theorem dX3_copyFrom_65 : decode cX3_copyFrom 65 = .ok (.iconst 0, 1) := by decide +kernel
theorem dX3_copyFrom_66 : decode cX3_copyFrom 66 = .ok (.bipush 10, 2) := by decide +kernel
theorem dX3_copyFrom_68 : decode cX3_copyFrom 68 = .ok (.invokestatic 61, 3) := by decide +kernel
theorem dX3_copyFrom_71 : decode cX3_copyFrom 71 = .ok (.aload_n 1, 1) := by decide +kernel
theorem dX3_copyFrom_72 : decode cX3_copyFrom 72 = .ok (.getfield 15, 3) := by decide +kernel
theorem dX3_copyFrom_75 : decode cX3_copyFrom 75 = .ok (.iconst 0, 1) := by decide +kernel
theorem dX3_copyFrom_76 : decode cX3_copyFrom 76 = .ok (.aload_n 0, 1) := by decide +kernel
theorem dX3_copyFrom_77 : decode cX3_copyFrom 77 = .ok (.getfield 15, 3) := by decide +kernel
theorem dX3_copyFrom_80 : decode cX3_copyFrom 80 = .ok (.iconst 0, 1) := by decide +kernel
theorem dX3_copyFrom_81 : decode cX3_copyFrom 81 = .ok (.bipush 8, 2) := by decide +kernel
theorem dX3_copyFrom_83 : decode cX3_copyFrom 83 = .ok (.invokestatic 61, 3) := by decide +kernel
theorem dX3_copyFrom_86 : decode cX3_copyFrom 86 = .ok (.aload_n 1, 1) := by decide +kernel
theorem dX3_copyFrom_87 : decode cX3_copyFrom 87 = .ok (.getfield 18, 3) := by decide +kernel
theorem dX3_copyFrom_90 : decode cX3_copyFrom 90 = .ok (.iconst 0, 1) := by decide +kernel
theorem dX3_copyFrom_91 : decode cX3_copyFrom 91 = .ok (.aload_n 0, 1) := by decide +kernel
theorem dX3_copyFrom_92 : decode cX3_copyFrom 92 = .ok (.getfield 18, 3) := by decide +kernel
theorem dX3_copyFrom_95 : decode cX3_copyFrom 95 = .ok (.iconst 0, 1) := by decide +kernel
theorem dX3_copyFrom_96 : decode cX3_copyFrom 96 = .ok (.bipush 9, 2) := by decide +kernel
theorem dX3_copyFrom_98 : decode cX3_copyFrom 98 = .ok (.invokestatic 61, 3) := by decide +kernel
theorem dX3_copyFrom_101 : decode cX3_copyFrom 101 = .ok (.aload_n 1, 1) := by decide +kernel
theorem dX3_copyFrom_102 : decode cX3_copyFrom 102 = .ok (.getfield 21, 3) := by decide +kernel
theorem dX3_copyFrom_105 : decode cX3_copyFrom 105 = .ok (.iconst 0, 1) := by decide +kernel
theorem dX3_copyFrom_106 : decode cX3_copyFrom 106 = .ok (.aload_n 0, 1) := by decide +kernel
theorem dX3_copyFrom_107 : decode cX3_copyFrom 107 = .ok (.getfield 21, 3) := by decide +kernel
theorem dX3_copyFrom_110 : decode cX3_copyFrom 110 = .ok (.iconst 0, 1) := by decide +kernel
theorem dX3_copyFrom_111 : decode cX3_copyFrom 111 = .ok (.bipush 9, 2) := by decide +kernel
theorem dX3_copyFrom_113 : decode cX3_copyFrom 113 = .ok (.invokestatic 61, 3) := by decide +kernel
theorem dX3_copyFrom_116 : decode cX3_copyFrom 116 = .ok (.aload_n 1, 1) := by decide +kernel
theorem dX3_copyFrom_117 : decode cX3_copyFrom 117 = .ok (.getfield 24, 3) := by decide +kernel
theorem dX3_copyFrom_120 : decode cX3_copyFrom 120 = .ok (.iconst 0, 1) := by decide +kernel
theorem dX3_copyFrom_121 : decode cX3_copyFrom 121 = .ok (.aload_n 0, 1) := by decide +kernel
theorem dX3_copyFrom_122 : decode cX3_copyFrom 122 = .ok (.getfield 24, 3) := by decide +kernel
theorem dX3_copyFrom_125 : decode cX3_copyFrom 125 = .ok (.iconst 0, 1) := by decide +kernel
theorem dX3_copyFrom_126 : decode cX3_copyFrom 126 = .ok (.bipush 9, 2) := by decide +kernel
theorem dX3_copyFrom_128 : decode cX3_copyFrom 128 = .ok (.invokestatic 61, 3) := by decide +kernel
theorem dX3_copyFrom_131 : decode cX3_copyFrom 131 = .ok (.aload_n 1, 1) := by decide +kernel
theorem dX3_copyFrom_132 : decode cX3_copyFrom 132 = .ok (.getfield 27, 3) := by decide +kernel
theorem dX3_copyFrom_135 : decode cX3_copyFrom 135 = .ok (.iconst 0, 1) := by decide +kernel
theorem dX3_copyFrom_136 : decode cX3_copyFrom 136 = .ok (.aload_n 0, 1) := by decide +kernel
theorem dX3_copyFrom_137 : decode cX3_copyFrom 137 = .ok (.getfield 27, 3) := by decide +kernel
theorem dX3_copyFrom_140 : decode cX3_copyFrom 140 = .ok (.iconst 0, 1) := by decide +kernel
theorem dX3_copyFrom_141 : decode cX3_copyFrom 141 = .ok (.bipush 9, 2) := by decide +kernel
theorem dX3_copyFrom_143 : decode cX3_copyFrom 143 = .ok (.invokestatic 61, 3) := by decide +kernel
theorem dX3_copyFrom_146 : decode cX3_copyFrom 146 = .ok (.aload_n 1, 1) := by decide +kernel
theorem dX3_copyFrom_147 : decode cX3_copyFrom 147 = .ok (.getfield 30, 3) := by decide +kernel
theorem dX3_copyFrom_150 : decode cX3_copyFrom 150 = .ok (.iconst 0, 1) := by decide +kernel
theorem dX3_copyFrom_151 : decode cX3_copyFrom 151 = .ok (.aload_n 0, 1) := by decide +kernel
theorem dX3_copyFrom_152 : decode cX3_copyFrom 152 = .ok (.getfield 30, 3) := by decide +kernel
theorem dX3_copyFrom_155 : decode cX3_copyFrom 155 = .ok (.iconst 0, 1) := by decide +kernel
theorem dX3_copyFrom_156 : decode cX3_copyFrom 156 = .ok (.bipush 9, 2) := by decide +kernel
theorem dX3_copyFrom_158 : decode cX3_copyFrom 158 = .ok (.invokestatic 61, 3) := by decide +kernel
theorem dX3_copyFrom_161 : decode cX3_copyFrom 161 = .ok (.aload_n 1, 1) := by decide +kernel
theorem dX3_copyFrom_162 : decode cX3_copyFrom 162 = .ok (.getfield 33, 3) := by decide +kernel
theorem dX3_copyFrom_165 : decode cX3_copyFrom 165 = .ok (.iconst 0, 1) := by decide +kernel
theorem dX3_copyFrom_166 : decode cX3_copyFrom 166 = .ok (.aload_n 0, 1) := by decide +kernel
theorem dX3_copyFrom_167 : decode cX3_copyFrom 167 = .ok (.getfield 33, 3) := by decide +kernel
theorem dX3_copyFrom_170 : decode cX3_copyFrom 170 = .ok (.iconst 0, 1) := by decide +kernel
theorem dX3_copyFrom_171 : decode cX3_copyFrom 171 = .ok (.bipush 9, 2) := by decide +kernel
theorem dX3_copyFrom_173 : decode cX3_copyFrom 173 = .ok (.invokestatic 61, 3) := by decide +kernel
theorem dX3_copyFrom_176 : decode cX3_copyFrom 176 = .ok (.aload_n 1, 1) := by decide +kernel
theorem dX3_copyFrom_177 : decode cX3_copyFrom 177 = .ok (.getfield 36, 3) := by decide +kernel
theorem dX3_copyFrom_180 : decode cX3_copyFrom 180 = .ok (.iconst 0, 1) := by decide +kernel
theorem dX3_copyFrom_181 : decode cX3_copyFrom 181 = .ok (.aload_n 0, 1) := by decide +kernel
theorem dX3_copyFrom_182 : decode cX3_copyFrom 182 = .ok (.getfield 36, 3) := by decide +kernel
theorem dX3_copyFrom_185 : decode cX3_copyFrom 185 = .ok (.iconst 0, 1) := by decide +kernel
theorem dX3_copyFrom_186 : decode cX3_copyFrom 186 = .ok (.bipush 81, 2) := by decide +kernel
theorem dX3_copyFrom_188 : decode cX3_copyFrom 188 = .ok (.invokestatic 61, 3) := by decide +kernel
theorem dX3_copyFrom_191 : decode cX3_copyFrom 191 = .ok (.return_, 1) := by decide +kernel
theorem dX3_clearAllButDraws_0 : decode cX3_clearAllButDraws 0 = .ok (.aload_n 0, 1) := by decide +kernel
theorem dX3_clearAllButDraws_1 : decode cX3_clearAllButDraws 1 = .ok (.iconst 0, 1) := by decide +kernel
theorem dX3_clearAllButDraws_2 : decode cX3_clearAllButDraws 2 = .ok (.putfield 43, 3) := by decide +kernel
theorem dX3_clearAllButDraws_5 : decode cX3_clearAllButDraws 5 = .ok (.aload_n 0, 1) := by decide +kernel
theorem dX3_clearAllButDraws_6 : decode cX3_clearAllButDraws 6 = .ok (.iconst 0, 1) := by decide +kernel
theorem dX3_clearAllButDraws_7 : decode cX3_clearAllButDraws 7 = .ok (.putfield 46, 3) := by decide +kernel
theorem dX3_clearAllButDraws_10 : decode cX3_clearAllButDraws 10 = .ok (.aload_n 0, 1) := by decide +kernel
theorem dX3_clearAllButDraws_11 : decode cX3_clearAllButDraws 11 = .ok (.iconst 0, 1) := by decide +kernel
theorem dX3_clearAllButDraws_12 : decode cX3_clearAllButDraws 12 = .ok (.putfield 49, 3) := by decide +kernel
theorem dX3_clearAllButDraws_15 : decode cX3_clearAllButDraws 15 = .ok (.aload_n 0, 1) := by decide +kernel
theorem dX3_clearAllButDraws_16 : decode cX3_clearAllButDraws 16 = .ok (.iconst 0, 1) := by decide +kernel
theorem dX3_clearAllButDraws_17 : decode cX3_clearAllButDraws 17 = .ok (.putfield 52, 3) := by decide +kernel
theorem dX3_clearAllButDraws_20 : decode cX3_clearAllButDraws 20 = .ok (.aload_n 0, 1) := by decide +kernel
theorem dX3_clearAllButDraws_21 : decode cX3_clearAllButDraws 21 = .ok (.iconst 0, 1) := by decide +kernel
theorem dX3_clearAllButDraws_22 : decode cX3_clearAllButDraws 22 = .ok (.putfield 55, 3) := by decide +kernel
theorem dX3_clearAllButDraws_25 : decode cX3_clearAllButDraws 25 = .ok (.aload_n 0, 1) := by decide +kernel
theorem dX3_clearAllButDraws_26 : decode cX3_clearAllButDraws 26 = .ok (.iconst 0, 1) := by decide +kernel
theorem dX3_clearAllButDraws_27 : decode cX3_clearAllButDraws 27 = .ok (.putfield 58, 3) := by decide +kernel
theorem dX3_clearAllButDraws_30 : decode cX3_clearAllButDraws 30 = .ok (.aload_n 0, 1) := by decide +kernel
theorem dX3_clearAllButDraws_31 : decode cX3_clearAllButDraws 31 = .ok (.getfield 9, 3) := by decide +kernel
theorem dX3_clearAllButDraws_34 : decode cX3_clearAllButDraws 34 = .ok (.iconst 0, 1) := by decide +kernel
theorem dX3_clearAllButDraws_35 : decode cX3_clearAllButDraws 35 = .ok (.invokestatic 67, 3) := by decide +kernel
theorem dX3_clearAllButDraws_38 : decode cX3_clearAllButDraws 38 = .ok (.aload_n 0, 1) := by decide +kernel
theorem dX3_clearAllButDraws_39 : decode cX3_clearAllButDraws 39 = .ok (.getfield 15, 3) := by decide +kernel
theorem dX3_clearAllButDraws_42 : decode cX3_clearAllButDraws 42 = .ok (.iconst 0, 1) := by decide +kernel
theorem dX3_clearAllButDraws_43 : decode cX3_clearAllButDraws 43 = .ok (.invokestatic 67, 3) := by decide +kernel
theorem dX3_clearAllButDraws_46 : decode cX3_clearAllButDraws 46 = .ok (.aload_n 0, 1) := by decide +kernel
theorem dX3_clearAllButDraws_47 : decode cX3_clearAllButDraws 47 = .ok (.getfield 18, 3) := by decide +kernel
theorem dX3_clearAllButDraws_50 : decode cX3_clearAllButDraws 50 = .ok (.iconst 0, 1) := by decide +kernel
theorem dX3_clearAllButDraws_51 : decode cX3_clearAllButDraws 51 = .ok (.invokestatic 67, 3) := by decide +kernel
theorem dX3_clearAllButDraws_54 : decode cX3_clearAllButDraws 54 = .ok (.aload_n 0, 1) := by decide +kernel
theorem dX3_clearAllButDraws_55 : decode cX3_clearAllButDraws 55 = .ok (.getfield 21, 3) := by decide +kernel
theorem dX3_clearAllButDraws_58 : decode cX3_clearAllButDraws 58 = .ok (.iconst 0, 1) := by decide +kernel
theorem dX3_clearAllButDraws_59 : decode cX3_clearAllButDraws 59 = .ok (.invokestatic 67, 3) := by decide +kernel
theorem dX3_clearAllButDraws_62 : decode cX3_clearAllButDraws 62 = .ok (.aload_n 0, 1) := by decide +kernel
theorem dX3_clearAllButDraws_63 : decode cX3_clearAllButDraws 63 = .ok (.getfield 27, 3) := by decide +kernel
theorem dX3_clearAllButDraws_66 : decode cX3_clearAllButDraws 66 = .ok (.iconst 0, 1) := by decide +kernel
theorem dX3_clearAllButDraws_67 : decode cX3_clearAllButDraws 67 = .ok (.invokestatic 67, 3) := by decide +kernel
theorem dX3_clearAllButDraws_70 : decode cX3_clearAllButDraws 70 = .ok (.aload_n 0, 1) := by decide +kernel
theorem dX3_clearAllButDraws_71 : decode cX3_clearAllButDraws 71 = .ok (.getfield 33, 3) := by decide +kernel
theorem dX3_clearAllButDraws_74 : decode cX3_clearAllButDraws 74 = .ok (.iconst 0, 1) := by decide +kernel
theorem dX3_clearAllButDraws_75 : decode cX3_clearAllButDraws 75 = .ok (.invokestatic 67, 3) := by decide +kernel
theorem dX3_clearAllButDraws_78 : decode cX3_clearAllButDraws 78 = .ok (.aload_n 0, 1) := by decide +kernel
theorem dX3_clearAllButDraws_79 : decode cX3_clearAllButDraws 79 = .ok (.getfield 36, 3) := by decide +kernel
theorem dX3_clearAllButDraws_82 : decode cX3_clearAllButDraws 82 = .ok (.iconst 0, 1) := by decide +kernel
theorem dX3_clearAllButDraws_83 : decode cX3_clearAllButDraws 83 = .ok (.invokestatic 67, 3) := by decide +kernel
theorem dX3_clearAllButDraws_86 : decode cX3_clearAllButDraws 86 = .ok (.aload_n 0, 1) := by decide +kernel
theorem dX3_clearAllButDraws_87 : decode cX3_clearAllButDraws 87 = .ok (.invokevirtual 73, 3) := by decide +kernel
theorem dX3_clearAllButDraws_90 : decode cX3_clearAllButDraws 90 = .ok (.return_, 1) := by decide +kernel
theorem dX3_forgetToday_0 : decode cX3_forgetToday 0 = .ok (.aload_n 0, 1) := by decide +kernel
theorem dX3_forgetToday_1 : decode cX3_forgetToday 1 = .ok (.getfield 24, 3) := by decide +kernel
theorem dX3_forgetToday_4 : decode cX3_forgetToday 4 = .ok (.iconst 0, 1) := by decide +kernel
theorem dX3_forgetToday_5 : decode cX3_forgetToday 5 = .ok (.invokestatic 67, 3) := by decide +kernel
theorem dX3_forgetToday_8 : decode cX3_forgetToday 8 = .ok (.aload_n 0, 1) := by decide +kernel
theorem dX3_forgetToday_9 : decode cX3_forgetToday 9 = .ok (.getfield 30, 3) := by decide +kernel
theorem dX3_forgetToday_12 : decode cX3_forgetToday 12 = .ok (.iconst 0, 1) := by decide +kernel
theorem dX3_forgetToday_13 : decode cX3_forgetToday 13 = .ok (.invokestatic 67, 3) := by decide +kernel
theorem dX3_forgetToday_16 : decode cX3_forgetToday 16 = .ok (.return_, 1) := by decide +kernel
theorem dX3_draw_0 : decode cX3_draw 0 = .ok (.aload_n 0, 1) := by decide +kernel
theorem dX3_draw_1 : decode cX3_draw 1 = .ok (.ldc 76, 2) := by decide +kernel
theorem dX3_draw_3 : decode cX3_draw 3 = .ok (.aload_n 0, 1) := by decide +kernel
theorem dX3_draw_4 : decode cX3_draw 4 = .ok (.getfield 39, 3) := by decide +kernel
theorem dX3_draw_7 : decode cX3_draw 7 = .ok (.imul, 1) := by decide +kernel
theorem dX3_draw_8 : decode cX3_draw 8 = .ok (.ldc 77, 2) := by decide +kernel
theorem dX3_draw_10 : decode cX3_draw 10 = .ok (.iadd, 1) := by decide +kernel
theorem dX3_draw_11 : decode cX3_draw 11 = .ok (.putfield 39, 3) := by decide +kernel
theorem dX3_draw_14 : decode cX3_draw 14 = .ok (.iload_n 1, 1) := by decide +kernel
theorem dX3_draw_15 : decode cX3_draw 15 = .ok (.ifCond .le 15, 3) := by decide +kernel
theorem dX3_draw_18 : decode cX3_draw 18 = .ok (.aload_n 0, 1) := by decide +kernel
theorem dX3_draw_19 : decode cX3_draw 19 = .ok (.getfield 39, 3) := by decide +kernel
theorem dX3_draw_22 : decode cX3_draw 22 = .ok (.bipush 8, 2) := by decide +kernel
theorem dX3_draw_24 : decode cX3_draw 24 = .ok (.iushr, 1) := by decide +kernel
theorem dX3_draw_25 : decode cX3_draw 25 = .ok (.iload_n 1, 1) := by decide +kernel
theorem dX3_draw_26 : decode cX3_draw 26 = .ok (.irem, 1) := by decide +kernel
theorem dX3_draw_27 : decode cX3_draw 27 = .ok (.goto 4, 3) := by decide +kernel
theorem dX3_draw_30 : decode cX3_draw 30 = .ok (.iconst 0, 1) := by decide +kernel
theorem dX3_draw_31 : decode cX3_draw 31 = .ok (.ireturn, 1) := by decide +kernel
theorem dX3_allDrops_0 : decode cX3_allDrops 0 = .ok (.aload_n 0, 1) := by decide +kernel
theorem dX3_allDrops_1 : decode cX3_allDrops 1 = .ok (.getfield 43, 3) := by decide +kernel
theorem dX3_allDrops_4 : decode cX3_allDrops 4 = .ok (.aload_n 0, 1) := by decide +kernel
theorem dX3_allDrops_5 : decode cX3_allDrops 5 = .ok (.getfield 46, 3) := by decide +kernel
theorem dX3_allDrops_8 : decode cX3_allDrops 8 = .ok (.iadd, 1) := by decide +kernel
theorem dX3_allDrops_9 : decode cX3_allDrops 9 = .ok (.istore_n 1, 1) := by decide +kernel
theorem dX3_allDrops_10 : decode cX3_allDrops 10 = .ok (.iconst 0, 1) := by decide +kernel
theorem dX3_allDrops_11 : decode cX3_allDrops 11 = .ok (.istore_n 2, 1) := by decide +kernel
theorem dX3_allDrops_12 : decode cX3_allDrops 12 = .ok (.iload_n 2, 1) := by decide +kernel
theorem dX3_allDrops_13 : decode cX3_allDrops 13 = .ok (.bipush 10, 2) := by decide +kernel
theorem dX3_allDrops_15 : decode cX3_allDrops 15 = .ok (.if_icmp .ge 18, 3) := by decide +kernel
theorem dX3_allDrops_18 : decode cX3_allDrops 18 = .ok (.iload_n 1, 1) := by decide +kernel
theorem dX3_allDrops_19 : decode cX3_allDrops 19 = .ok (.aload_n 0, 1) := by decide +kernel
theorem dX3_allDrops_20 : decode cX3_allDrops 20 = .ok (.getfield 9, 3) := by decide +kernel
theorem dX3_allDrops_23 : decode cX3_allDrops 23 = .ok (.iload_n 2, 1) := by decide +kernel
theorem dX3_allDrops_24 : decode cX3_allDrops 24 = .ok (.iaload, 1) := by decide +kernel
theorem dX3_allDrops_25 : decode cX3_allDrops 25 = .ok (.iadd, 1) := by decide +kernel
theorem dX3_allDrops_26 : decode cX3_allDrops 26 = .ok (.istore_n 1, 1) := by decide +kernel
theorem dX3_allDrops_27 : decode cX3_allDrops 27 = .ok (.iinc 2 1, 3) := by decide +kernel
theorem dX3_allDrops_30 : decode cX3_allDrops 30 = .ok (.goto (-18), 3) := by decide +kernel
theorem dX3_allDrops_33 : decode cX3_allDrops 33 = .ok (.iconst 0, 1) := by decide +kernel
theorem dX3_allDrops_34 : decode cX3_allDrops 34 = .ok (.istore_n 2, 1) := by decide +kernel
theorem dX3_allDrops_35 : decode cX3_allDrops 35 = .ok (.iload_n 2, 1) := by decide +kernel
theorem dX3_allDrops_36 : decode cX3_allDrops 36 = .ok (.bipush 9, 2) := by decide +kernel
theorem dX3_allDrops_38 : decode cX3_allDrops 38 = .ok (.if_icmp .ge 18, 3) := by decide +kernel
theorem dX3_allDrops_41 : decode cX3_allDrops 41 = .ok (.iload_n 1, 1) := by decide +kernel
theorem dX3_allDrops_42 : decode cX3_allDrops 42 = .ok (.aload_n 0, 1) := by decide +kernel
theorem dX3_allDrops_43 : decode cX3_allDrops 43 = .ok (.getfield 18, 3) := by decide +kernel
theorem dX3_allDrops_46 : decode cX3_allDrops 46 = .ok (.iload_n 2, 1) := by decide +kernel
theorem dX3_allDrops_47 : decode cX3_allDrops 47 = .ok (.iaload, 1) := by decide +kernel
theorem dX3_allDrops_48 : decode cX3_allDrops 48 = .ok (.iadd, 1) := by decide +kernel
theorem dX3_allDrops_49 : decode cX3_allDrops 49 = .ok (.istore_n 1, 1) := by decide +kernel
theorem dX3_allDrops_50 : decode cX3_allDrops 50 = .ok (.iinc 2 1, 3) := by decide +kernel
theorem dX3_allDrops_53 : decode cX3_allDrops 53 = .ok (.goto (-18), 3) := by decide +kernel
theorem dX3_allDrops_56 : decode cX3_allDrops 56 = .ok (.iload_n 1, 1) := by decide +kernel
theorem dX3_allDrops_57 : decode cX3_allDrops 57 = .ok (.ireturn, 1) := by decide +kernel
theorem dX3_debtOf_0 : decode cX3_debtOf 0 = .ok (.iconst 0, 1) := by decide +kernel
theorem dX3_debtOf_1 : decode cX3_debtOf 1 = .ok (.istore_n 2, 1) := by decide +kernel
theorem dX3_debtOf_2 : decode cX3_debtOf 2 = .ok (.iconst 0, 1) := by decide +kernel
theorem dX3_debtOf_3 : decode cX3_debtOf 3 = .ok (.istore_n 3, 1) := by decide +kernel
theorem dX3_debtOf_4 : decode cX3_debtOf 4 = .ok (.iload_n 3, 1) := by decide +kernel
theorem dX3_debtOf_5 : decode cX3_debtOf 5 = .ok (.bipush 9, 2) := by decide +kernel
theorem dX3_debtOf_7 : decode cX3_debtOf 7 = .ok (.if_icmp .ge 23, 3) := by decide +kernel
theorem dX3_debtOf_10 : decode cX3_debtOf 10 = .ok (.iload_n 2, 1) := by decide +kernel
theorem dX3_debtOf_11 : decode cX3_debtOf 11 = .ok (.aload_n 0, 1) := by decide +kernel
theorem dX3_debtOf_12 : decode cX3_debtOf 12 = .ok (.getfield 36, 3) := by decide +kernel
theorem dX3_debtOf_15 : decode cX3_debtOf 15 = .ok (.iload_n 1, 1) := by decide +kernel
theorem dX3_debtOf_16 : decode cX3_debtOf 16 = .ok (.bipush 9, 2) := by decide +kernel
theorem dX3_debtOf_18 : decode cX3_debtOf 18 = .ok (.imul, 1) := by decide +kernel
theorem dX3_debtOf_19 : decode cX3_debtOf 19 = .ok (.iload_n 3, 1) := by decide +kernel
theorem dX3_debtOf_20 : decode cX3_debtOf 20 = .ok (.iadd, 1) := by decide +kernel
theorem dX3_debtOf_21 : decode cX3_debtOf 21 = .ok (.iaload, 1) := by decide +kernel
theorem dX3_debtOf_22 : decode cX3_debtOf 22 = .ok (.iadd, 1) := by decide +kernel
theorem dX3_debtOf_23 : decode cX3_debtOf 23 = .ok (.istore_n 2, 1) := by decide +kernel
theorem dX3_debtOf_24 : decode cX3_debtOf 24 = .ok (.iinc 3 1, 3) := by decide +kernel
theorem dX3_debtOf_27 : decode cX3_debtOf 27 = .ok (.goto (-23), 3) := by decide +kernel
theorem dX3_debtOf_30 : decode cX3_debtOf 30 = .ok (.iload_n 2, 1) := by decide +kernel
theorem dX3_debtOf_31 : decode cX3_debtOf 31 = .ok (.ireturn, 1) := by decide +kernel
theorem dX3_creditOf_0 : decode cX3_creditOf 0 = .ok (.iconst 0, 1) := by decide +kernel
theorem dX3_creditOf_1 : decode cX3_creditOf 1 = .ok (.istore_n 2, 1) := by decide +kernel
theorem dX3_creditOf_2 : decode cX3_creditOf 2 = .ok (.iconst 0, 1) := by decide +kernel
theorem dX3_creditOf_3 : decode cX3_creditOf 3 = .ok (.istore_n 3, 1) := by decide +kernel
theorem dX3_creditOf_4 : decode cX3_creditOf 4 = .ok (.iload_n 3, 1) := by decide +kernel
theorem dX3_creditOf_5 : decode cX3_creditOf 5 = .ok (.bipush 9, 2) := by decide +kernel
theorem dX3_creditOf_7 : decode cX3_creditOf 7 = .ok (.if_icmp .ge 23, 3) := by decide +kernel
theorem dX3_creditOf_10 : decode cX3_creditOf 10 = .ok (.iload_n 2, 1) := by decide +kernel
theorem dX3_creditOf_11 : decode cX3_creditOf 11 = .ok (.aload_n 0, 1) := by decide +kernel
theorem dX3_creditOf_12 : decode cX3_creditOf 12 = .ok (.getfield 36, 3) := by decide +kernel
theorem dX3_creditOf_15 : decode cX3_creditOf 15 = .ok (.iload_n 3, 1) := by decide +kernel
theorem dX3_creditOf_16 : decode cX3_creditOf 16 = .ok (.bipush 9, 2) := by decide +kernel
theorem dX3_creditOf_18 : decode cX3_creditOf 18 = .ok (.imul, 1) := by decide +kernel
theorem dX3_creditOf_19 : decode cX3_creditOf 19 = .ok (.iload_n 1, 1) := by decide +kernel
theorem dX3_creditOf_20 : decode cX3_creditOf 20 = .ok (.iadd, 1) := by decide +kernel
theorem dX3_creditOf_21 : decode cX3_creditOf 21 = .ok (.iaload, 1) := by decide +kernel
theorem dX3_creditOf_22 : decode cX3_creditOf 22 = .ok (.iadd, 1) := by decide +kernel
theorem dX3_creditOf_23 : decode cX3_creditOf 23 = .ok (.istore_n 2, 1) := by decide +kernel
theorem dX3_creditOf_24 : decode cX3_creditOf 24 = .ok (.iinc 3 1, 3) := by decide +kernel
theorem dX3_creditOf_27 : decode cX3_creditOf 27 = .ok (.goto (-23), 3) := by decide +kernel
theorem dX3_creditOf_30 : decode cX3_creditOf 30 = .ok (.iload_n 2, 1) := by decide +kernel
theorem dX3_creditOf_31 : decode cX3_creditOf 31 = .ok (.ireturn, 1) := by decide +kernel
theorem dX4_init_0 : decode cX4_init 0 = .ok (.aload_n 0, 1) := by decide +kernel
theorem dX4_init_1 : decode cX4_init 1 = .ok (.invokespecial 1, 3) := by decide +kernel
theorem dX4_init_4 : decode cX4_init 4 = .ok (.aload_n 0, 1) := by decide +kernel
theorem dX4_init_5 : decode cX4_init 5 = .ok (.bipush 8, 2) := by decide +kernel
theorem dX4_init_7 : decode cX4_init 7 = .ok (.anewarray 9, 3) := by decide +kernel
theorem dX4_init_10 : decode cX4_init 10 = .ok (.putfield 11, 3) := by decide +kernel
theorem dX4_init_13 : decode cX4_init 13 = .ok (.iconst 0, 1) := by decide +kernel
theorem dX4_init_14 : decode cX4_init 14 = .ok (.istore_n 1, 1) := by decide +kernel
theorem dX4_init_15 : decode cX4_init 15 = .ok (.iload_n 1, 1) := by decide +kernel
theorem dX4_init_16 : decode cX4_init 16 = .ok (.bipush 8, 2) := by decide +kernel
theorem dX4_init_18 : decode cX4_init 18 = .ok (.if_icmp .ge 22, 3) := by decide +kernel
theorem dX4_init_21 : decode cX4_init 21 = .ok (.aload_n 0, 1) := by decide +kernel
theorem dX4_init_22 : decode cX4_init 22 = .ok (.getfield 11, 3) := by decide +kernel
theorem dX4_init_25 : decode cX4_init 25 = .ok (.iload_n 1, 1) := by decide +kernel
theorem dX4_init_26 : decode cX4_init 26 = .ok (.new 9, 3) := by decide +kernel
theorem dX4_init_29 : decode cX4_init 29 = .ok (.dup, 1) := by decide +kernel
theorem dX4_init_30 : decode cX4_init 30 = .ok (.invokespecial 15, 3) := by decide +kernel
theorem dX4_init_33 : decode cX4_init 33 = .ok (.aastore, 1) := by decide +kernel
theorem dX4_init_34 : decode cX4_init 34 = .ok (.iinc 1 1, 3) := by decide +kernel
theorem dX4_init_37 : decode cX4_init 37 = .ok (.goto (-22), 3) := by decide +kernel
theorem dX4_init_40 : decode cX4_init 40 = .ok (.return_, 1) := by decide +kernel
theorem dX4_forget_0 : decode cX4_forget 0 = .ok (.aload_n 0, 1) := by decide +kernel
theorem dX4_forget_1 : decode cX4_forget 1 = .ok (.iconst 0, 1) := by decide +kernel
theorem dX4_forget_2 : decode cX4_forget 2 = .ok (.putfield 16, 3) := by decide +kernel
theorem dX4_forget_5 : decode cX4_forget 5 = .ok (.return_, 1) := by decide +kernel
theorem dX4_keep_0 : decode cX4_keep 0 = .ok (.aload_n 0, 1) := by decide +kernel
theorem dX4_keep_1 : decode cX4_keep 1 = .ok (.getfield 20, 3) := by decide +kernel
theorem dX4_keep_4 : decode cX4_keep 4 = .ok (.iconst 0, 1) := by decide +kernel
theorem dX4_keep_5 : decode cX4_keep 5 = .ok (.bipush 7, 2) := by decide +kernel
theorem dX4_keep_7 : decode cX4_keep 7 = .ok (.invokestatic 23, 3) := by decide +kernel
theorem dX4_keep_10 : decode cX4_keep 10 = .ok (.ifCond .ne 4, 3) := by decide +kernel
theorem dX4_keep_13 : decode cX4_keep 13 = .ok (.return_, 1) := by decide +kernel
theorem dX4_keep_14 : decode cX4_keep 14 = .ok (.aload_n 0, 1) := by decide +kernel
theorem dX4_keep_15 : decode cX4_keep 15 = .ok (.getfield 11, 3) := by decide +kernel
theorem dX4_keep_18 : decode cX4_keep 18 = .ok (.aload_n 0, 1) := by decide +kernel
theorem dX4_keep_19 : decode cX4_keep 19 = .ok (.getfield 20, 3) := by decide +kernel
theorem dX4_keep_22 : decode cX4_keep 22 = .ok (.aaload, 1) := by decide +kernel
theorem dX4_keep_23 : decode cX4_keep 23 = .ok (.aload_n 1, 1) := by decide +kernel
theorem dX4_keep_24 : decode cX4_keep 24 = .ok (.invokevirtual 29, 3) := by decide +kernel
theorem dX4_keep_27 : decode cX4_keep 27 = .ok (.aload_n 0, 1) := by decide +kernel
theorem dX4_keep_28 : decode cX4_keep 28 = .ok (.aload_n 0, 1) := by decide +kernel
theorem dX4_keep_29 : decode cX4_keep 29 = .ok (.getfield 20, 3) := by decide +kernel
theorem dX4_keep_32 : decode cX4_keep 32 = .ok (.iconst 1, 1) := by decide +kernel
theorem dX4_keep_33 : decode cX4_keep 33 = .ok (.iadd, 1) := by decide +kernel
theorem dX4_keep_34 : decode cX4_keep 34 = .ok (.bipush 8, 2) := by decide +kernel
theorem dX4_keep_36 : decode cX4_keep 36 = .ok (.if_icmp .ge 12, 3) := by decide +kernel
theorem dX4_keep_39 : decode cX4_keep 39 = .ok (.aload_n 0, 1) := by decide +kernel
theorem dX4_keep_40 : decode cX4_keep 40 = .ok (.getfield 20, 3) := by decide +kernel
theorem dX4_keep_43 : decode cX4_keep 43 = .ok (.iconst 1, 1) := by decide +kernel
theorem dX4_keep_44 : decode cX4_keep 44 = .ok (.iadd, 1) := by decide +kernel
theorem dX4_keep_45 : decode cX4_keep 45 = .ok (.goto 4, 3) := by decide +kernel
theorem dX4_keep_48 : decode cX4_keep 48 = .ok (.iconst 0, 1) := by decide +kernel
theorem dX4_keep_49 : decode cX4_keep 49 = .ok (.putfield 20, 3) := by decide +kernel
theorem dX4_keep_52 : decode cX4_keep 52 = .ok (.aload_n 0, 1) := by decide +kernel
theorem dX4_keep_53 : decode cX4_keep 53 = .ok (.bipush 8, 2) := by decide +kernel
theorem dX4_keep_55 : decode cX4_keep 55 = .ok (.aload_n 0, 1) := by decide +kernel
theorem dX4_keep_56 : decode cX4_keep 56 = .ok (.getfield 16, 3) := by decide +kernel
theorem dX4_keep_59 : decode cX4_keep 59 = .ok (.iconst 1, 1) := by decide +kernel
theorem dX4_keep_60 : decode cX4_keep 60 = .ok (.iadd, 1) := by decide +kernel
theorem dX4_keep_61 : decode cX4_keep 61 = .ok (.invokestatic 33, 3) := by decide +kernel
theorem dX4_keep_64 : decode cX4_keep 64 = .ok (.putfield 16, 3) := by decide +kernel
theorem dX4_keep_67 : decode cX4_keep 67 = .ok (.return_, 1) := by decide +kernel
theorem dX4_bringBack_0 : decode cX4_bringBack 0 = .ok (.aload_n 0, 1) := by decide +kernel
theorem dX4_bringBack_1 : decode cX4_bringBack 1 = .ok (.getfield 16, 3) := by decide +kernel
theorem dX4_bringBack_4 : decode cX4_bringBack 4 = .ok (.ifCond .gt 5, 3) := by decide +kernel
theorem dX4_bringBack_7 : decode cX4_bringBack 7 = .ok (.iconst 0, 1) := by decide +kernel
theorem dX4_bringBack_8 : decode cX4_bringBack 8 = .ok (.ireturn, 1) := by decide +kernel
theorem dX4_bringBack_9 : decode cX4_bringBack 9 = .ok (.aload_n 0, 1) := by decide +kernel
theorem dX4_bringBack_10 : decode cX4_bringBack 10 = .ok (.aload_n 0, 1) := by decide +kernel
theorem dX4_bringBack_11 : decode cX4_bringBack 11 = .ok (.getfield 20, 3) := by decide +kernel
theorem dX4_bringBack_14 : decode cX4_bringBack 14 = .ok (.ifCond .le 12, 3) := by decide +kernel
theorem dX4_bringBack_17 : decode cX4_bringBack 17 = .ok (.aload_n 0, 1) := by decide +kernel
theorem dX4_bringBack_18 : decode cX4_bringBack 18 = .ok (.getfield 20, 3) := by decide +kernel
theorem dX4_bringBack_21 : decode cX4_bringBack 21 = .ok (.iconst 1, 1) := by decide +kernel
theorem dX4_bringBack_22 : decode cX4_bringBack 22 = .ok (.isub, 1) := by decide +kernel
theorem dX4_bringBack_23 : decode cX4_bringBack 23 = .ok (.goto 5, 3) := by decide +kernel
theorem dX4_bringBack_26 : decode cX4_bringBack 26 = .ok (.bipush 7, 2) := by decide +kernel
theorem dX4_bringBack_28 : decode cX4_bringBack 28 = .ok (.putfield 20, 3) := by decide +kernel
theorem dX4_bringBack_31 : decode cX4_bringBack 31 = .ok (.aload_n 1, 1) := by decide +kernel
theorem dX4_bringBack_32 : decode cX4_bringBack 32 = .ok (.aload_n 0, 1) := by decide +kernel
theorem dX4_bringBack_33 : decode cX4_bringBack 33 = .ok (.getfield 11, 3) := by decide +kernel
theorem dX4_bringBack_36 : decode cX4_bringBack 36 = .ok (.aload_n 0, 1) := by decide +kernel
theorem dX4_bringBack_37 : decode cX4_bringBack 37 = .ok (.getfield 20, 3) := by decide +kernel
theorem dX4_bringBack_40 : decode cX4_bringBack 40 = .ok (.aaload, 1) := by decide +kernel
theorem dX4_bringBack_41 : decode cX4_bringBack 41 = .ok (.invokevirtual 29, 3) := by decide +kernel
theorem dX4_bringBack_44 : decode cX4_bringBack 44 = .ok (.aload_n 0, 1) := by decide +kernel
theorem dX4_bringBack_45 : decode cX4_bringBack 45 = .ok (.dup, 1) := by decide +kernel
theorem dX4_bringBack_46 : decode cX4_bringBack 46 = .ok (.getfield 16, 3) := by decide +kernel
theorem dX4_bringBack_49 : decode cX4_bringBack 49 = .ok (.iconst 1, 1) := by decide +kernel
theorem dX4_bringBack_50 : decode cX4_bringBack 50 = .ok (.isub, 1) := by decide +kernel
theorem dX4_bringBack_51 : decode cX4_bringBack 51 = .ok (.putfield 16, 3) := by decide +kernel
theorem dX4_bringBack_54 : decode cX4_bringBack 54 = .ok (.iconst 1, 1) := by decide +kernel
theorem dX4_bringBack_55 : decode cX4_bringBack 55 = .ok (.ireturn, 1) := by decide +kernel
theorem dX4_tellDraws_0 : decode cX4_tellDraws 0 = .ok (.iconst 0, 1) := by decide +kernel
theorem dX4_tellDraws_1 : decode cX4_tellDraws 1 = .ok (.istore_n 2, 1) := by decide +kernel
theorem dX4_tellDraws_2 : decode cX4_tellDraws 2 = .ok (.iload_n 2, 1) := by decide +kernel
theorem dX4_tellDraws_3 : decode cX4_tellDraws 3 = .ok (.bipush 8, 2) := by decide +kernel
theorem dX4_tellDraws_5 : decode cX4_tellDraws 5 = .ok (.if_icmp .ge 19, 3) := by decide +kernel
theorem dX4_tellDraws_8 : decode cX4_tellDraws 8 = .ok (.aload_n 0, 1) := by decide +kernel
theorem dX4_tellDraws_9 : decode cX4_tellDraws 9 = .ok (.getfield 11, 3) := by decide +kernel
theorem dX4_tellDraws_12 : decode cX4_tellDraws 12 = .ok (.iload_n 2, 1) := by decide +kernel
theorem dX4_tellDraws_13 : decode cX4_tellDraws 13 = .ok (.aaload, 1) := by decide +kernel
theorem dX4_tellDraws_14 : decode cX4_tellDraws 14 = .ok (.iload_n 1, 1) := by decide +kernel
theorem dX4_tellDraws_15 : decode cX4_tellDraws 15 = .ok (.putfield 39, 3) := by decide +kernel
theorem dX4_tellDraws_18 : decode cX4_tellDraws 18 = .ok (.iinc 2 1, 3) := by decide +kernel
theorem dX4_tellDraws_21 : decode cX4_tellDraws 21 = .ok (.goto (-19), 3) := by decide +kernel
theorem dX4_tellDraws_24 : decode cX4_tellDraws 24 = .ok (.return_, 1) := by decide +kernel
theorem dX5_init_0 : decode cX5_init 0 = .ok (.aload_n 0, 1) := by decide +kernel
theorem dX5_init_1 : decode cX5_init 1 = .ok (.invokespecial 3, 3) := by decide +kernel
theorem dX5_init_4 : decode cX5_init 4 = .ok (.aload_n 0, 1) := by decide +kernel
theorem dX5_init_5 : decode cX5_init 5 = .ok (.new 9, 3) := by decide +kernel
theorem dX5_init_8 : decode cX5_init 8 = .ok (.dup, 1) := by decide +kernel
theorem dX5_init_9 : decode cX5_init 9 = .ok (.invokespecial 11, 3) := by decide +kernel
theorem dX5_init_12 : decode cX5_init 12 = .ok (.putfield 12, 3) := by decide +kernel
theorem dX5_init_15 : decode cX5_init 15 = .ok (.aload_n 0, 1) := by decide +kernel
theorem dX5_init_16 : decode cX5_init 16 = .ok (.iconst (-1), 1) := by decide +kernel
theorem dX5_init_17 : decode cX5_init 17 = .ok (.putfield 18, 3) := by decide +kernel
theorem dX5_init_20 : decode cX5_init 20 = .ok (.aload_n 0, 1) := by decide +kernel
theorem dX5_init_21 : decode cX5_init 21 = .ok (.sipush 400, 3) := by decide +kernel
theorem dX5_init_24 : decode cX5_init 24 = .ok (.newarray .int, 2) := by decide +kernel
theorem dX5_init_26 : decode cX5_init 26 = .ok (.putfield 22, 3) := by decide +kernel
theorem dX5_init_29 : decode cX5_init 29 = .ok (.return_, 1) := by decide +kernel
theorem dX5_read_0 : decode cX5_read 0 = .ok (.aload_n 0, 1) := by decide +kernel
theorem dX5_read_1 : decode cX5_read 1 = .ok (.getfield 12, 3) := by decide +kernel
theorem dX5_read_4 : decode cX5_read 4 = .ok (.invokevirtual 26, 3) := by decide +kernel
theorem dX5_read_7 : decode cX5_read 7 = .ok (.aload_n 0, 1) := by decide +kernel
theorem dX5_read_8 : decode cX5_read 8 = .ok (.iconst 0, 1) := by decide +kernel
theorem dX5_read_9 : decode cX5_read 9 = .ok (.putfield 29, 3) := by decide +kernel
theorem dX5_read_12 : decode cX5_read 12 = .ok (.aload_n 0, 1) := by decide +kernel
theorem dX5_read_13 : decode cX5_read 13 = .ok (.iconst (-1), 1) := by decide +kernel
theorem dX5_read_14 : decode cX5_read 14 = .ok (.putfield 18, 3) := by decide +kernel
theorem dX5_read_17 : decode cX5_read 17 = .ok (.aload_n 0, 1) := by decide +kernel
theorem dX5_read_18 : decode cX5_read 18 = .ok (.iconst 0, 1) := by decide +kernel
theorem dX5_read_19 : decode cX5_read 19 = .ok (.putfield 32, 3) := by decide +kernel
theorem dX5_read_22 : decode cX5_read 22 = .ok (.aload_n 0, 1) := by decide +kernel
theorem dX5_read_23 : decode cX5_read 23 = .ok (.iconst 0, 1) := by decide +kernel
theorem dX5_read_24 : decode cX5_read 24 = .ok (.putfield 35, 3) := by decide +kernel
theorem dX5_read_27 : decode cX5_read 27 = .ok (.aload_n 0, 1) := by decide +kernel
theorem dX5_read_28 : decode cX5_read 28 = .ok (.iconst 0, 1) := by decide +kernel
theorem dX5_read_29 : decode cX5_read 29 = .ok (.putfield 38, 3) := by decide +kernel
theorem dX5_read_32 : decode cX5_read 32 = .ok (.aload_n 0, 1) := by decide +kernel
theorem dX5_read_33 : decode cX5_read 33 = .ok (.aload_n 0, 1) := by decide +kernel
theorem dX5_read_34 : decode cX5_read 34 = .ok (.getfield 12, 3) := by decide +kernel
theorem dX5_read_37 : decode cX5_read 37 = .ok (.getfield 41, 3) := by decide +kernel
theorem dX5_read_40 : decode cX5_read 40 = .ok (.iconst 0, 1) := by decide +kernel
theorem dX5_read_41 : decode cX5_read 41 = .ok (.iaload, 1) := by decide +kernel
theorem dX5_read_42 : decode cX5_read 42 = .ok (.putfield 44, 3) := by decide +kernel
theorem dX5_read_45 : decode cX5_read 45 = .ok (.iconst 0, 1) := by decide +kernel
theorem dX5_read_46 : decode cX5_read 46 = .ok (.istore_n 1, 1) := by decide +kernel
theorem dX5_read_47 : decode cX5_read 47 = .ok (.iload_n 1, 1) := by decide +kernel
theorem dX5_read_48 : decode cX5_read 48 = .ok (.bipush 16, 2) := by decide +kernel
theorem dX5_read_50 : decode cX5_read 50 = .ok (.if_icmp .gt 37, 3) := by decide +kernel
theorem dX5_read_53 : decode cX5_read 53 = .ok (.aload_n 0, 1) := by decide +kernel
theorem dX5_read_54 : decode cX5_read 54 = .ok (.getfield 44, 3) := by decide +kernel
theorem dX5_read_57 : decode cX5_read 57 = .ok (.sipush (-300), 3) := by decide +kernel
theorem dX5_read_60 : decode cX5_read 60 = .ok (.if_icmp .ne 27, 3) := by decide +kernel
theorem dX5_read_63 : decode cX5_read 63 = .ok (.iload_n 1, 1) := by decide +kernel
theorem dX5_read_64 : decode cX5_read 64 = .ok (.bipush 16, 2) := by decide +kernel
theorem dX5_read_66 : decode cX5_read 66 = .ok (.if_icmp .ge 10, 3) := by decide +kernel
theorem dX5_read_69 : decode cX5_read 69 = .ok (.aload_n 0, 1) := by decide +kernel
theorem dX5_read_70 : decode cX5_read 70 = .ok (.invokevirtual 46, 3) := by decide +kernel
theorem dX5_read_73 : decode cX5_read 73 = .ok (.goto 8, 3) := by decide +kernel
theorem dX5_read_76 : decode cX5_read 76 = .ok (.aload_n 0, 1) := by decide +kernel
theorem dX5_read_77 : decode cX5_read 77 = .ok (.iconst 3, 1) := by decide +kernel
theorem dX5_read_78 : decode cX5_read 78 = .ok (.invokevirtual 49, 3) := by decide +kernel
theorem dX5_read_81 : decode cX5_read 81 = .ok (.iinc 1 1, 3) := by decide +kernel
theorem dX5_read_84 : decode cX5_read 84 = .ok (.goto (-37), 3) := by decide +kernel
theorem dX5_read_87 : decode cX5_read 87 = .ok (.aload_n 0, 1) := by decide +kernel
theorem dX5_read_88 : decode cX5_read 88 = .ok (.getfield 44, 3) := by decide +kernel
theorem dX5_read_91 : decode cX5_read 91 = .ok (.bipush (-2), 2) := by decide +kernel
theorem dX5_read_93 : decode cX5_read 93 = .ok (.if_icmp .eq 8, 3) := by decide +kernel
theorem dX5_read_96 : decode cX5_read 96 = .ok (.aload_n 0, 1) := by decide +kernel
theorem dX5_read_97 : decode cX5_read 97 = .ok (.iconst 1, 1) := by decide +kernel
theorem dX5_read_98 : decode cX5_read 98 = .ok (.invokevirtual 49, 3) := by decide +kernel
theorem dX5_read_101 : decode cX5_read 101 = .ok (.return_, 1) := by decide +kernel
theorem dX5_fail_0 : decode cX5_fail 0 = .ok (.aload_n 0, 1) := by decide +kernel
theorem dX5_fail_1 : decode cX5_fail 1 = .ok (.getfield 29, 3) := by decide +kernel
theorem dX5_fail_4 : decode cX5_fail 4 = .ok (.ifCond .ne 24, 3) := by decide +kernel
theorem dX5_fail_7 : decode cX5_fail 7 = .ok (.aload_n 0, 1) := by decide +kernel
theorem dX5_fail_8 : decode cX5_fail 8 = .ok (.iload_n 1, 1) := by decide +kernel
theorem dX5_fail_9 : decode cX5_fail 9 = .ok (.putfield 29, 3) := by decide +kernel
theorem dX5_fail_12 : decode cX5_fail 12 = .ok (.aload_n 0, 1) := by decide +kernel
theorem dX5_fail_13 : decode cX5_fail 13 = .ok (.aload_n 0, 1) := by decide +kernel
theorem dX5_fail_14 : decode cX5_fail 14 = .ok (.getfield 12, 3) := by decide +kernel
theorem dX5_fail_17 : decode cX5_fail 17 = .ok (.getfield 53, 3) := by decide +kernel
theorem dX5_fail_20 : decode cX5_fail 20 = .ok (.aload_n 0, 1) := by decide +kernel
theorem dX5_fail_21 : decode cX5_fail 21 = .ok (.getfield 38, 3) := by decide +kernel
theorem dX5_fail_24 : decode cX5_fail 24 = .ok (.iaload, 1) := by decide +kernel
theorem dX5_fail_25 : decode cX5_fail 25 = .ok (.putfield 18, 3) := by decide +kernel
theorem dX5_fail_28 : decode cX5_fail 28 = .ok (.aload_n 0, 1) := by decide +kernel
theorem dX5_fail_29 : decode cX5_fail 29 = .ok (.iconst (-1), 1) := by decide +kernel
theorem dX5_fail_30 : decode cX5_fail 30 = .ok (.putfield 44, 3) := by decide +kernel
theorem dX5_fail_33 : decode cX5_fail 33 = .ok (.return_, 1) := by decide +kernel
theorem dX5_next_0 : decode cX5_next 0 = .ok (.aload_n 0, 1) := by decide +kernel
theorem dX5_next_1 : decode cX5_next 1 = .ok (.getfield 38, 3) := by decide +kernel
theorem dX5_next_4 : decode cX5_next 4 = .ok (.iconst 1, 1) := by decide +kernel
theorem dX5_next_5 : decode cX5_next 5 = .ok (.iadd, 1) := by decide +kernel
theorem dX5_next_6 : decode cX5_next 6 = .ok (.aload_n 0, 1) := by decide +kernel
theorem dX5_next_7 : decode cX5_next 7 = .ok (.getfield 12, 3) := by decide +kernel
theorem dX5_next_10 : decode cX5_next 10 = .ok (.getfield 56, 3) := by decide +kernel
theorem dX5_next_13 : decode cX5_next 13 = .ok (.if_icmp .ge 29, 3) := by decide +kernel
theorem dX5_next_16 : decode cX5_next 16 = .ok (.aload_n 0, 1) := by decide +kernel
theorem dX5_next_17 : decode cX5_next 17 = .ok (.dup, 1) := by decide +kernel
theorem dX5_next_18 : decode cX5_next 18 = .ok (.getfield 38, 3) := by decide +kernel
theorem dX5_next_21 : decode cX5_next 21 = .ok (.iconst 1, 1) := by decide +kernel
theorem dX5_next_22 : decode cX5_next 22 = .ok (.iadd, 1) := by decide +kernel
theorem dX5_next_23 : decode cX5_next 23 = .ok (.putfield 38, 3) := by decide +kernel
theorem dX5_next_26 : decode cX5_next 26 = .ok (.aload_n 0, 1) := by decide +kernel
theorem dX5_next_27 : decode cX5_next 27 = .ok (.aload_n 0, 1) := by decide +kernel
theorem dX5_next_28 : decode cX5_next 28 = .ok (.getfield 12, 3) := by decide +kernel
theorem dX5_next_31 : decode cX5_next 31 = .ok (.getfield 41, 3) := by decide +kernel
theorem dX5_next_34 : decode cX5_next 34 = .ok (.aload_n 0, 1) := by decide +kernel
theorem dX5_next_35 : decode cX5_next 35 = .ok (.getfield 38, 3) := by decide +kernel
theorem dX5_next_38 : decode cX5_next 38 = .ok (.iaload, 1) := by decide +kernel
theorem dX5_next_39 : decode cX5_next 39 = .ok (.putfield 44, 3) := by decide +kernel
theorem dX5_next_42 : decode cX5_next 42 = .ok (.return_, 1) := by decide +kernel
theorem dX5_emit_0 : decode cX5_emit 0 = .ok (.aload_n 0, 1) := by decide +kernel
theorem dX5_emit_1 : decode cX5_emit 1 = .ok (.getfield 35, 3) := by decide +kernel
theorem dX5_emit_4 : decode cX5_emit 4 = .ok (.aload_n 0, 1) := by decide +kernel
theorem dX5_emit_5 : decode cX5_emit 5 = .ok (.getfield 22, 3) := by decide +kernel
theorem dX5_emit_8 : decode cX5_emit 8 = .ok (.arraylength, 1) := by decide +kernel
theorem dX5_emit_9 : decode cX5_emit 9 = .ok (.if_icmp .ge 23, 3) := by decide +kernel
theorem dX5_emit_12 : decode cX5_emit 12 = .ok (.aload_n 0, 1) := by decide +kernel
theorem dX5_emit_13 : decode cX5_emit 13 = .ok (.getfield 22, 3) := by decide +kernel
theorem dX5_emit_16 : decode cX5_emit 16 = .ok (.aload_n 0, 1) := by decide +kernel
theorem dX5_emit_17 : decode cX5_emit 17 = .ok (.getfield 35, 3) := by decide +kernel
theorem dX5_emit_20 : decode cX5_emit 20 = .ok (.iload_n 1, 1) := by decide +kernel
theorem dX5_emit_21 : decode cX5_emit 21 = .ok (.iastore, 1) := by decide +kernel
theorem dX5_emit_22 : decode cX5_emit 22 = .ok (.aload_n 0, 1) := by decide +kernel
theorem dX5_emit_23 : decode cX5_emit 23 = .ok (.dup, 1) := by decide +kernel
theorem dX5_emit_24 : decode cX5_emit 24 = .ok (.getfield 35, 3) := by decide +kernel
theorem dX5_emit_27 : decode cX5_emit 27 = .ok (.iconst 1, 1) := by decide +kernel
theorem dX5_emit_28 : decode cX5_emit 28 = .ok (.iadd, 1) := by decide +kernel
theorem dX5_emit_29 : decode cX5_emit 29 = .ok (.putfield 35, 3) := by decide +kernel
theorem dX5_emit_32 : decode cX5_emit 32 = .ok (.return_, 1) := by decide +kernel
theorem dX5_expect_0 : decode cX5_expect 0 = .ok (.aload_n 0, 1) := by decide +kernel
theorem dX5_expect_1 : decode cX5_expect 1 = .ok (.getfield 44, 3) := by decide +kernel
theorem dX5_expect_4 : decode cX5_expect 4 = .ok (.iload_n 1, 1) := by decide +kernel
theorem dX5_expect_5 : decode cX5_expect 5 = .ok (.if_icmp .ne 10, 3) := by decide +kernel
theorem dX5_expect_8 : decode cX5_expect 8 = .ok (.aload_n 0, 1) := by decide +kernel
theorem dX5_expect_9 : decode cX5_expect 9 = .ok (.invokevirtual 59, 3) := by decide +kernel
theorem dX5_expect_12 : decode cX5_expect 12 = .ok (.goto 8, 3) := by decide +kernel
theorem dX5_expect_15 : decode cX5_expect 15 = .ok (.aload_n 0, 1) := by decide +kernel
theorem dX5_expect_16 : decode cX5_expect 16 = .ok (.iconst 1, 1) := by decide +kernel
theorem dX5_expect_17 : decode cX5_expect 17 = .ok (.invokevirtual 49, 3) := by decide +kernel
theorem dX5_expect_20 : decode cX5_expect 20 = .ok (.return_, 1) := by decide +kernel
theorem dX5_readLine_0 : decode cX5_readLine 0 = .ok (.aload_n 0, 1) := by decide +kernel
theorem dX5_readLine_1 : decode cX5_readLine 1 = .ok (.dup, 1) := by decide +kernel
theorem dX5_readLine_2 : decode cX5_readLine 2 = .ok (.getfield 32, 3) := by decide +kernel
theorem dX5_readLine_5 : decode cX5_readLine 5 = .ok (.iconst 1, 1) := by decide +kernel
theorem dX5_readLine_6 : decode cX5_readLine 6 = .ok (.iadd, 1) := by decide +kernel
theorem dX5_readLine_7 : decode cX5_readLine 7 = .ok (.putfield 32, 3) := by decide +kernel
theorem dX5_readLine_10 : decode cX5_readLine 10 = .ok (.aload_n 0, 1) := by decide +kernel
theorem dX5_readLine_11 : decode cX5_readLine 11 = .ok (.invokevirtual 59, 3) := by decide +kernel
theorem dX5_readLine_14 : decode cX5_readLine 14 = .ok (.aload_n 0, 1) := by decide +kernel
theorem dX5_readLine_15 : decode cX5_readLine 15 = .ok (.invokevirtual 62, 3) := by decide +kernel
theorem dX5_readLine_18 : decode cX5_readLine 18 = .ok (.aload_n 0, 1) := by decide +kernel
theorem dX5_readLine_19 : decode cX5_readLine 19 = .ok (.getfield 44, 3) := by decide +kernel
theorem dX5_readLine_22 : decode cX5_readLine 22 = .ok (.sipush (-301), 3) := by decide +kernel
theorem dX5_readLine_25 : decode cX5_readLine 25 = .ok (.if_icmp .ne 22, 3) := by decide +kernel
theorem dX5_readLine_28 : decode cX5_readLine 28 = .ok (.aload_n 0, 1) := by decide +kernel
theorem dX5_readLine_29 : decode cX5_readLine 29 = .ok (.invokevirtual 59, 3) := by decide +kernel
theorem dX5_readLine_32 : decode cX5_readLine 32 = .ok (.aload_n 0, 1) := by decide +kernel
theorem dX5_readLine_33 : decode cX5_readLine 33 = .ok (.iconst 0, 1) := by decide +kernel
theorem dX5_readLine_34 : decode cX5_readLine 34 = .ok (.invokevirtual 65, 3) := by decide +kernel
theorem dX5_readLine_37 : decode cX5_readLine 37 = .ok (.aload_n 0, 1) := by decide +kernel
theorem dX5_readLine_38 : decode cX5_readLine 38 = .ok (.sipush (-301), 3) := by decide +kernel
theorem dX5_readLine_41 : decode cX5_readLine 41 = .ok (.invokevirtual 68, 3) := by decide +kernel
theorem dX5_readLine_44 : decode cX5_readLine 44 = .ok (.goto 10, 3) := by decide +kernel
theorem dX5_readLine_47 : decode cX5_readLine 47 = .ok (.aload_n 0, 1) := by decide +kernel
theorem dX5_readLine_48 : decode cX5_readLine 48 = .ok (.sipush (-300), 3) := by decide +kernel
theorem dX5_readLine_51 : decode cX5_readLine 51 = .ok (.invokevirtual 68, 3) := by decide +kernel
theorem dX5_readLine_54 : decode cX5_readLine 54 = .ok (.aload_n 0, 1) := by decide +kernel
theorem dX5_readLine_55 : decode cX5_readLine 55 = .ok (.bipush (-59), 2) := by decide +kernel
theorem dX5_readLine_57 : decode cX5_readLine 57 = .ok (.invokevirtual 71, 3) := by decide +kernel
theorem dX5_readLine_60 : decode cX5_readLine 60 = .ok (.return_, 1) := by decide +kernel
theorem dX5_readSum_0 : decode cX5_readSum 0 = .ok (.aload_n 0, 1) := by decide +kernel
theorem dX5_readSum_1 : decode cX5_readSum 1 = .ok (.invokevirtual 74, 3) := by decide +kernel
theorem dX5_readSum_4 : decode cX5_readSum 4 = .ok (.iconst 0, 1) := by decide +kernel
theorem dX5_readSum_5 : decode cX5_readSum 5 = .ok (.istore_n 1, 1) := by decide +kernel
theorem dX5_readSum_6 : decode cX5_readSum 6 = .ok (.iconst 0, 1) := by decide +kernel
theorem dX5_readSum_7 : decode cX5_readSum 7 = .ok (.istore_n 2, 1) := by decide +kernel
theorem dX5_readSum_8 : decode cX5_readSum 8 = .ok (.iload_n 2, 1) := by decide +kernel
theorem dX5_readSum_9 : decode cX5_readSum 9 = .ok (.sipush 400, 3) := by decide +kernel
theorem dX5_readSum_12 : decode cX5_readSum 12 = .ok (.if_icmp .ge 99, 3) := by decide +kernel
theorem dX5_readSum_15 : decode cX5_readSum 15 = .ok (.aload_n 0, 1) := by decide +kernel
theorem dX5_readSum_16 : decode cX5_readSum 16 = .ok (.getfield 44, 3) := by decide +kernel
theorem dX5_readSum_19 : decode cX5_readSum 19 = .ok (.invokestatic 77, 3) := by decide +kernel
theorem dX5_readSum_22 : decode cX5_readSum 22 = .ok (.ifCond .eq 89, 3) := by decide +kernel
theorem dX5_readSum_25 : decode cX5_readSum 25 = .ok (.aload_n 0, 1) := by decide +kernel
theorem dX5_readSum_26 : decode cX5_readSum 26 = .ok (.getfield 44, 3) := by decide +kernel
theorem dX5_readSum_29 : decode cX5_readSum 29 = .ok (.istore_n 3, 1) := by decide +kernel
theorem dX5_readSum_30 : decode cX5_readSum 30 = .ok (.iload_n 3, 1) := by decide +kernel
theorem dX5_readSum_31 : decode cX5_readSum 31 = .ok (.bipush (-42), 2) := by decide +kernel
theorem dX5_readSum_33 : decode cX5_readSum 33 = .ok (.if_icmp .eq 9, 3) := by decide +kernel
theorem dX5_readSum_36 : decode cX5_readSum 36 = .ok (.iload_n 3, 1) := by decide +kernel
theorem dX5_readSum_37 : decode cX5_readSum 37 = .ok (.bipush (-47), 2) := by decide +kernel
theorem dX5_readSum_39 : decode cX5_readSum 39 = .ok (.if_icmp .ne 7, 3) := by decide +kernel
theorem dX5_readSum_42 : decode cX5_readSum 42 = .ok (.iconst 1, 1) := by decide +kernel
theorem dX5_readSum_43 : decode cX5_readSum 43 = .ok (.goto 4, 3) := by decide +kernel
theorem dX5_readSum_46 : decode cX5_readSum 46 = .ok (.iconst 0, 1) := by decide +kernel
theorem dX5_readSum_47 : decode cX5_readSum 47 = .ok (.istore 4, 2) := by decide +kernel
theorem dX5_readSum_49 : decode cX5_readSum 49 = .ok (.iload 4, 2) := by decide +kernel
theorem dX5_readSum_51 : decode cX5_readSum 51 = .ok (.ifCond .ne 12, 3) := by decide +kernel
theorem dX5_readSum_54 : decode cX5_readSum 54 = .ok (.iload_n 1, 1) := by decide +kernel
theorem dX5_readSum_55 : decode cX5_readSum 55 = .ok (.ifCond .eq 8, 3) := by decide +kernel
theorem dX5_readSum_58 : decode cX5_readSum 58 = .ok (.aload_n 0, 1) := by decide +kernel
theorem dX5_readSum_59 : decode cX5_readSum 59 = .ok (.iload_n 1, 1) := by decide +kernel
theorem dX5_readSum_60 : decode cX5_readSum 60 = .ok (.invokevirtual 68, 3) := by decide +kernel
theorem dX5_readSum_63 : decode cX5_readSum 63 = .ok (.iload 4, 2) := by decide +kernel
theorem dX5_readSum_65 : decode cX5_readSum 65 = .ok (.ifCond .eq 7, 3) := by decide +kernel
theorem dX5_readSum_68 : decode cX5_readSum 68 = .ok (.iload_n 1, 1) := by decide +kernel
theorem dX5_readSum_69 : decode cX5_readSum 69 = .ok (.goto 4, 3) := by decide +kernel
theorem dX5_readSum_72 : decode cX5_readSum 72 = .ok (.iload_n 3, 1) := by decide +kernel
theorem dX5_readSum_73 : decode cX5_readSum 73 = .ok (.istore_n 1, 1) := by decide +kernel
theorem dX5_readSum_74 : decode cX5_readSum 74 = .ok (.aload_n 0, 1) := by decide +kernel
theorem dX5_readSum_75 : decode cX5_readSum 75 = .ok (.invokevirtual 59, 3) := by decide +kernel
theorem dX5_readSum_78 : decode cX5_readSum 78 = .ok (.iload_n 3, 1) := by decide +kernel
theorem dX5_readSum_79 : decode cX5_readSum 79 = .ok (.bipush (-47), 2) := by decide +kernel
theorem dX5_readSum_81 : decode cX5_readSum 81 = .ok (.if_icmp .ne 10, 3) := by decide +kernel
theorem dX5_readSum_84 : decode cX5_readSum 84 = .ok (.aload_n 0, 1) := by decide +kernel
theorem dX5_readSum_85 : decode cX5_readSum 85 = .ok (.invokevirtual 81, 3) := by decide +kernel
theorem dX5_readSum_88 : decode cX5_readSum 88 = .ok (.goto 7, 3) := by decide +kernel
theorem dX5_readSum_91 : decode cX5_readSum 91 = .ok (.aload_n 0, 1) := by decide +kernel
theorem dX5_readSum_92 : decode cX5_readSum 92 = .ok (.invokevirtual 74, 3) := by decide +kernel
theorem dX5_readSum_95 : decode cX5_readSum 95 = .ok (.iload 4, 2) := by decide +kernel
theorem dX5_readSum_97 : decode cX5_readSum 97 = .ok (.ifCond .eq 8, 3) := by decide +kernel
theorem dX5_readSum_100 : decode cX5_readSum 100 = .ok (.aload_n 0, 1) := by decide +kernel
theorem dX5_readSum_101 : decode cX5_readSum 101 = .ok (.iload_n 3, 1) := by decide +kernel
theorem dX5_readSum_102 : decode cX5_readSum 102 = .ok (.invokevirtual 68, 3) := by decide +kernel
theorem dX5_readSum_105 : decode cX5_readSum 105 = .ok (.iinc 2 1, 3) := by decide +kernel
theorem dX5_readSum_108 : decode cX5_readSum 108 = .ok (.goto (-100), 3) := by decide +kernel
theorem dX5_readSum_111 : decode cX5_readSum 111 = .ok (.iload_n 1, 1) := by decide +kernel
theorem dX5_readSum_112 : decode cX5_readSum 112 = .ok (.ifCond .eq 8, 3) := by decide +kernel
theorem dX5_readSum_115 : decode cX5_readSum 115 = .ok (.aload_n 0, 1) := by decide +kernel
theorem dX5_readSum_116 : decode cX5_readSum 116 = .ok (.iload_n 1, 1) := by decide +kernel
theorem dX5_readSum_117 : decode cX5_readSum 117 = .ok (.invokevirtual 68, 3) := by decide +kernel
theorem dX5_readSum_120 : decode cX5_readSum 120 = .ok (.return_, 1) := by decide +kernel
theorem dX5_isArithmetic_0 : decode cX5_isArithmetic 0 = .ok (.iload_n 0, 1) := by decide +kernel
theorem dX5_isArithmetic_1 : decode cX5_isArithmetic 1 = .ok (.bipush (-43), 2) := by decide +kernel
theorem dX5_isArithmetic_3 : decode cX5_isArithmetic 3 = .ok (.if_icmp .eq 21, 3) := by decide +kernel
theorem dX5_isArithmetic_6 : decode cX5_isArithmetic 6 = .ok (.iload_n 0, 1) := by decide +kernel
theorem dX5_isArithmetic_7 : decode cX5_isArithmetic 7 = .ok (.bipush (-45), 2) := by decide +kernel
theorem dX5_isArithmetic_9 : decode cX5_isArithmetic 9 = .ok (.if_icmp .eq 15, 3) := by decide +kernel
theorem dX5_isArithmetic_12 : decode cX5_isArithmetic 12 = .ok (.iload_n 0, 1) := by decide +kernel
theorem dX5_isArithmetic_13 : decode cX5_isArithmetic 13 = .ok (.bipush (-42), 2) := by decide +kernel
theorem dX5_isArithmetic_15 : decode cX5_isArithmetic 15 = .ok (.if_icmp .eq 9, 3) := by decide +kernel
theorem dX5_isArithmetic_18 : decode cX5_isArithmetic 18 = .ok (.iload_n 0, 1) := by decide +kernel
theorem dX5_isArithmetic_19 : decode cX5_isArithmetic 19 = .ok (.bipush (-47), 2) := by decide +kernel
theorem dX5_isArithmetic_21 : decode cX5_isArithmetic 21 = .ok (.if_icmp .ne 7, 3) := by decide +kernel
theorem dX5_isArithmetic_24 : decode cX5_isArithmetic 24 = .ok (.iconst 1, 1) := by decide +kernel
theorem dX5_isArithmetic_25 : decode cX5_isArithmetic 25 = .ok (.goto 4, 3) := by decide +kernel
theorem dX5_isArithmetic_28 : decode cX5_isArithmetic 28 = .ok (.iconst 0, 1) := by decide +kernel
theorem dX5_isArithmetic_29 : decode cX5_isArithmetic 29 = .ok (.ireturn, 1) := by decide +kernel
theorem dX5_readUnit_0 : decode cX5_readUnit 0 = .ok (.aload_n 0, 1) := by decide +kernel
theorem dX5_readUnit_1 : decode cX5_readUnit 1 = .ok (.getfield 44, 3) := by decide +kernel
theorem dX5_readUnit_4 : decode cX5_readUnit 4 = .ok (.ifCond .ge 19, 3) := by decide +kernel
theorem dX5_readUnit_7 : decode cX5_readUnit 7 = .ok (.aload_n 0, 1) := by decide +kernel
theorem dX5_readUnit_8 : decode cX5_readUnit 8 = .ok (.getfield 44, 3) := by decide +kernel
theorem dX5_readUnit_11 : decode cX5_readUnit 11 = .ok (.sipush (-314), 3) := by decide +kernel
theorem dX5_readUnit_14 : decode cX5_readUnit 14 = .ok (.sipush (-305), 3) := by decide +kernel
theorem dX5_readUnit_17 : decode cX5_readUnit 17 = .ok (.invokestatic 84, 3) := by decide +kernel
theorem dX5_readUnit_20 : decode cX5_readUnit 20 = .ok (.ifCond .eq 18, 3) := by decide +kernel
theorem dX5_readUnit_23 : decode cX5_readUnit 23 = .ok (.aload_n 0, 1) := by decide +kernel
theorem dX5_readUnit_24 : decode cX5_readUnit 24 = .ok (.aload_n 0, 1) := by decide +kernel
theorem dX5_readUnit_25 : decode cX5_readUnit 25 = .ok (.getfield 44, 3) := by decide +kernel
theorem dX5_readUnit_28 : decode cX5_readUnit 28 = .ok (.invokevirtual 68, 3) := by decide +kernel
theorem dX5_readUnit_31 : decode cX5_readUnit 31 = .ok (.aload_n 0, 1) := by decide +kernel
theorem dX5_readUnit_32 : decode cX5_readUnit 32 = .ok (.invokevirtual 59, 3) := by decide +kernel
theorem dX5_readUnit_35 : decode cX5_readUnit 35 = .ok (.goto 8, 3) := by decide +kernel
theorem dX5_readUnit_38 : decode cX5_readUnit 38 = .ok (.aload_n 0, 1) := by decide +kernel
theorem dX5_readUnit_39 : decode cX5_readUnit 39 = .ok (.iconst 1, 1) := by decide +kernel
theorem dX5_readUnit_40 : decode cX5_readUnit 40 = .ok (.invokevirtual 49, 3) := by decide +kernel
theorem dX5_readUnit_43 : decode cX5_readUnit 43 = .ok (.return_, 1) := by decide +kernel
theorem dX5_readDivisor_0 : decode cX5_readDivisor 0 = .ok (.aload_n 0, 1) := by decide +kernel
theorem dX5_readDivisor_1 : decode cX5_readDivisor 1 = .ok (.getfield 44, 3) := by decide +kernel
theorem dX5_readDivisor_4 : decode cX5_readDivisor 4 = .ok (.ifCond .le 18, 3) := by decide +kernel
theorem dX5_readDivisor_7 : decode cX5_readDivisor 7 = .ok (.aload_n 0, 1) := by decide +kernel
theorem dX5_readDivisor_8 : decode cX5_readDivisor 8 = .ok (.aload_n 0, 1) := by decide +kernel
theorem dX5_readDivisor_9 : decode cX5_readDivisor 9 = .ok (.getfield 44, 3) := by decide +kernel
theorem dX5_readDivisor_12 : decode cX5_readDivisor 12 = .ok (.invokevirtual 68, 3) := by decide +kernel
theorem dX5_readDivisor_15 : decode cX5_readDivisor 15 = .ok (.aload_n 0, 1) := by decide +kernel
theorem dX5_readDivisor_16 : decode cX5_readDivisor 16 = .ok (.invokevirtual 59, 3) := by decide +kernel
theorem dX5_readDivisor_19 : decode cX5_readDivisor 19 = .ok (.goto 19, 3) := by decide +kernel
theorem dX5_readDivisor_22 : decode cX5_readDivisor 22 = .ok (.aload_n 0, 1) := by decide +kernel
theorem dX5_readDivisor_23 : decode cX5_readDivisor 23 = .ok (.aload_n 0, 1) := by decide +kernel
theorem dX5_readDivisor_24 : decode cX5_readDivisor 24 = .ok (.getfield 44, 3) := by decide +kernel
theorem dX5_readDivisor_27 : decode cX5_readDivisor 27 = .ok (.ifCond .ne 7, 3) := by decide +kernel
theorem dX5_readDivisor_30 : decode cX5_readDivisor 30 = .ok (.iconst 2, 1) := by decide +kernel
theorem dX5_readDivisor_31 : decode cX5_readDivisor 31 = .ok (.goto 4, 3) := by decide +kernel
theorem dX5_readDivisor_34 : decode cX5_readDivisor 34 = .ok (.iconst 1, 1) := by decide +kernel
theorem dX5_readDivisor_35 : decode cX5_readDivisor 35 = .ok (.invokevirtual 49, 3) := by decide +kernel
theorem dX5_readDivisor_38 : decode cX5_readDivisor 38 = .ok (.return_, 1) := by decide +kernel
theorem dX5_readAny_0 : decode cX5_readAny 0 = .ok (.aload_n 0, 1) := by decide +kernel
theorem dX5_readAny_1 : decode cX5_readAny 1 = .ok (.iload_n 1, 1) := by decide +kernel
theorem dX5_readAny_2 : decode cX5_readAny 2 = .ok (.invokevirtual 88, 3) := by decide +kernel
theorem dX5_readAny_5 : decode cX5_readAny 5 = .ok (.iconst 0, 1) := by decide +kernel
theorem dX5_readAny_6 : decode cX5_readAny 6 = .ok (.istore_n 2, 1) := by decide +kernel
theorem dX5_readAny_7 : decode cX5_readAny 7 = .ok (.iconst 0, 1) := by decide +kernel
theorem dX5_readAny_8 : decode cX5_readAny 8 = .ok (.istore_n 3, 1) := by decide +kernel
theorem dX5_readAny_9 : decode cX5_readAny 9 = .ok (.iload_n 3, 1) := by decide +kernel
theorem dX5_readAny_10 : decode cX5_readAny 10 = .ok (.sipush 400, 3) := by decide +kernel
theorem dX5_readAny_13 : decode cX5_readAny 13 = .ok (.if_icmp .ge 96, 3) := by decide +kernel
theorem dX5_readAny_16 : decode cX5_readAny 16 = .ok (.aload_n 0, 1) := by decide +kernel
theorem dX5_readAny_17 : decode cX5_readAny 17 = .ok (.getfield 44, 3) := by decide +kernel
theorem dX5_readAny_20 : decode cX5_readAny 20 = .ok (.sipush (-302), 3) := by decide +kernel
theorem dX5_readAny_23 : decode cX5_readAny 23 = .ok (.if_icmp .eq 13, 3) := by decide +kernel
theorem dX5_readAny_26 : decode cX5_readAny 26 = .ok (.aload_n 0, 1) := by decide +kernel
theorem dX5_readAny_27 : decode cX5_readAny 27 = .ok (.getfield 44, 3) := by decide +kernel
theorem dX5_readAny_30 : decode cX5_readAny 30 = .ok (.sipush (-303), 3) := by decide +kernel
theorem dX5_readAny_33 : decode cX5_readAny 33 = .ok (.if_icmp .ne 76, 3) := by decide +kernel
theorem dX5_readAny_36 : decode cX5_readAny 36 = .ok (.aload_n 0, 1) := by decide +kernel
theorem dX5_readAny_37 : decode cX5_readAny 37 = .ok (.getfield 44, 3) := by decide +kernel
theorem dX5_readAny_40 : decode cX5_readAny 40 = .ok (.istore 4, 2) := by decide +kernel
theorem dX5_readAny_42 : decode cX5_readAny 42 = .ok (.iload 4, 2) := by decide +kernel
theorem dX5_readAny_44 : decode cX5_readAny 44 = .ok (.sipush (-302), 3) := by decide +kernel
theorem dX5_readAny_47 : decode cX5_readAny 47 = .ok (.if_icmp .ne 14, 3) := by decide +kernel
theorem dX5_readAny_50 : decode cX5_readAny 50 = .ok (.iload_n 2, 1) := by decide +kernel
theorem dX5_readAny_51 : decode cX5_readAny 51 = .ok (.ifCond .eq 10, 3) := by decide +kernel
theorem dX5_readAny_54 : decode cX5_readAny 54 = .ok (.aload_n 0, 1) := by decide +kernel
theorem dX5_readAny_55 : decode cX5_readAny 55 = .ok (.sipush (-302), 3) := by decide +kernel
theorem dX5_readAny_58 : decode cX5_readAny 58 = .ok (.invokevirtual 68, 3) := by decide +kernel
theorem dX5_readAny_61 : decode cX5_readAny 61 = .ok (.iload_n 2, 1) := by decide +kernel
theorem dX5_readAny_62 : decode cX5_readAny 62 = .ok (.ifCond .ne 11, 3) := by decide +kernel
theorem dX5_readAny_65 : decode cX5_readAny 65 = .ok (.iload 4, 2) := by decide +kernel
theorem dX5_readAny_67 : decode cX5_readAny 67 = .ok (.sipush (-302), 3) := by decide +kernel
theorem dX5_readAny_70 : decode cX5_readAny 70 = .ok (.if_icmp .ne 7, 3) := by decide +kernel
theorem dX5_readAny_73 : decode cX5_readAny 73 = .ok (.iconst 1, 1) := by decide +kernel
theorem dX5_readAny_74 : decode cX5_readAny 74 = .ok (.goto 4, 3) := by decide +kernel
theorem dX5_readAny_77 : decode cX5_readAny 77 = .ok (.iconst 0, 1) := by decide +kernel
theorem dX5_readAny_78 : decode cX5_readAny 78 = .ok (.istore_n 2, 1) := by decide +kernel
theorem dX5_readAny_79 : decode cX5_readAny 79 = .ok (.aload_n 0, 1) := by decide +kernel
theorem dX5_readAny_80 : decode cX5_readAny 80 = .ok (.invokevirtual 59, 3) := by decide +kernel
theorem dX5_readAny_83 : decode cX5_readAny 83 = .ok (.aload_n 0, 1) := by decide +kernel
theorem dX5_readAny_84 : decode cX5_readAny 84 = .ok (.iload_n 1, 1) := by decide +kernel
theorem dX5_readAny_85 : decode cX5_readAny 85 = .ok (.invokevirtual 88, 3) := by decide +kernel
theorem dX5_readAny_88 : decode cX5_readAny 88 = .ok (.iload 4, 2) := by decide +kernel
theorem dX5_readAny_90 : decode cX5_readAny 90 = .ok (.sipush (-303), 3) := by decide +kernel
theorem dX5_readAny_93 : decode cX5_readAny 93 = .ok (.if_icmp .ne 10, 3) := by decide +kernel
theorem dX5_readAny_96 : decode cX5_readAny 96 = .ok (.aload_n 0, 1) := by decide +kernel
theorem dX5_readAny_97 : decode cX5_readAny 97 = .ok (.sipush (-303), 3) := by decide +kernel
theorem dX5_readAny_100 : decode cX5_readAny 100 = .ok (.invokevirtual 68, 3) := by decide +kernel
theorem dX5_readAny_103 : decode cX5_readAny 103 = .ok (.iinc 3 1, 3) := by decide +kernel
theorem dX5_readAny_106 : decode cX5_readAny 106 = .ok (.goto (-97), 3) := by decide +kernel
theorem dX5_readAny_109 : decode cX5_readAny 109 = .ok (.iload_n 2, 1) := by decide +kernel
theorem dX5_readAny_110 : decode cX5_readAny 110 = .ok (.ifCond .eq 10, 3) := by decide +kernel
theorem dX5_readAny_113 : decode cX5_readAny 113 = .ok (.aload_n 0, 1) := by decide +kernel
theorem dX5_readAny_114 : decode cX5_readAny 114 = .ok (.sipush (-302), 3) := by decide +kernel
theorem dX5_readAny_117 : decode cX5_readAny 117 = .ok (.invokevirtual 68, 3) := by decide +kernel
theorem dX5_readAny_120 : decode cX5_readAny 120 = .ok (.return_, 1) := by decide +kernel
theorem dX5_readCondition_0 : decode cX5_readCondition 0 = .ok (.aload_n 0, 1) := by decide +kernel
theorem dX5_readCondition_1 : decode cX5_readCondition 1 = .ok (.getfield 44, 3) := by decide +kernel
theorem dX5_readCondition_4 : decode cX5_readCondition 4 = .ok (.sipush (-304), 3) := by decide +kernel
theorem dX5_readCondition_7 : decode cX5_readCondition 7 = .ok (.if_icmp .eq 12, 3) := by decide +kernel
theorem dX5_readCondition_10 : decode cX5_readCondition 10 = .ok (.aload_n 0, 1) := by decide +kernel
theorem dX5_readCondition_11 : decode cX5_readCondition 11 = .ok (.getfield 44, 3) := by decide +kernel
theorem dX5_readCondition_14 : decode cX5_readCondition 14 = .ok (.bipush (-40), 2) := by decide +kernel
theorem dX5_readCondition_16 : decode cX5_readCondition 16 = .ok (.if_icmp .ne 7, 3) := by decide +kernel
theorem dX5_readCondition_19 : decode cX5_readCondition 19 = .ok (.iconst 1, 1) := by decide +kernel
theorem dX5_readCondition_20 : decode cX5_readCondition 20 = .ok (.goto 4, 3) := by decide +kernel
theorem dX5_readCondition_23 : decode cX5_readCondition 23 = .ok (.iconst 0, 1) := by decide +kernel
theorem dX5_readCondition_24 : decode cX5_readCondition 24 = .ok (.istore_n 2, 1) := by decide +kernel
theorem dX5_readCondition_25 : decode cX5_readCondition 25 = .ok (.iload_n 2, 1) := by decide +kernel
theorem dX5_readCondition_26 : decode cX5_readCondition 26 = .ok (.ifCond .eq 17, 3) := by decide +kernel
theorem dX5_readCondition_29 : decode cX5_readCondition 29 = .ok (.iload_n 1, 1) := by decide +kernel
theorem dX5_readCondition_30 : decode cX5_readCondition 30 = .ok (.bipush 8, 2) := by decide +kernel
theorem dX5_readCondition_32 : decode cX5_readCondition 32 = .ok (.if_icmp .lt 11, 3) := by decide +kernel
theorem dX5_readCondition_35 : decode cX5_readCondition 35 = .ok (.aload_n 0, 1) := by decide +kernel
theorem dX5_readCondition_36 : decode cX5_readCondition 36 = .ok (.iconst 3, 1) := by decide +kernel
theorem dX5_readCondition_37 : decode cX5_readCondition 37 = .ok (.invokevirtual 49, 3) := by decide +kernel
theorem dX5_readCondition_40 : decode cX5_readCondition 40 = .ok (.goto 106, 3) := by decide +kernel
theorem dX5_readCondition_43 : decode cX5_readCondition 43 = .ok (.aload_n 0, 1) := by decide +kernel
theorem dX5_readCondition_44 : decode cX5_readCondition 44 = .ok (.getfield 44, 3) := by decide +kernel
theorem dX5_readCondition_47 : decode cX5_readCondition 47 = .ok (.sipush (-304), 3) := by decide +kernel
theorem dX5_readCondition_50 : decode cX5_readCondition 50 = .ok (.if_icmp .ne 24, 3) := by decide +kernel
theorem dX5_readCondition_53 : decode cX5_readCondition 53 = .ok (.aload_n 0, 1) := by decide +kernel
theorem dX5_readCondition_54 : decode cX5_readCondition 54 = .ok (.invokevirtual 59, 3) := by decide +kernel
theorem dX5_readCondition_57 : decode cX5_readCondition 57 = .ok (.aload_n 0, 1) := by decide +kernel
theorem dX5_readCondition_58 : decode cX5_readCondition 58 = .ok (.iload_n 1, 1) := by decide +kernel
theorem dX5_readCondition_59 : decode cX5_readCondition 59 = .ok (.iconst 1, 1) := by decide +kernel
theorem dX5_readCondition_60 : decode cX5_readCondition 60 = .ok (.iadd, 1) := by decide +kernel
theorem dX5_readCondition_61 : decode cX5_readCondition 61 = .ok (.invokevirtual 88, 3) := by decide +kernel
theorem dX5_readCondition_64 : decode cX5_readCondition 64 = .ok (.aload_n 0, 1) := by decide +kernel
theorem dX5_readCondition_65 : decode cX5_readCondition 65 = .ok (.sipush (-304), 3) := by decide +kernel
theorem dX5_readCondition_68 : decode cX5_readCondition 68 = .ok (.invokevirtual 68, 3) := by decide +kernel
theorem dX5_readCondition_71 : decode cX5_readCondition 71 = .ok (.goto 75, 3) := by decide +kernel
theorem dX5_readCondition_74 : decode cX5_readCondition 74 = .ok (.iload_n 2, 1) := by decide +kernel
theorem dX5_readCondition_75 : decode cX5_readCondition 75 = .ok (.ifCond .eq 23, 3) := by decide +kernel
theorem dX5_readCondition_78 : decode cX5_readCondition 78 = .ok (.aload_n 0, 1) := by decide +kernel
theorem dX5_readCondition_79 : decode cX5_readCondition 79 = .ok (.invokevirtual 59, 3) := by decide +kernel
theorem dX5_readCondition_82 : decode cX5_readCondition 82 = .ok (.aload_n 0, 1) := by decide +kernel
theorem dX5_readCondition_83 : decode cX5_readCondition 83 = .ok (.iload_n 1, 1) := by decide +kernel
theorem dX5_readCondition_84 : decode cX5_readCondition 84 = .ok (.iconst 1, 1) := by decide +kernel
theorem dX5_readCondition_85 : decode cX5_readCondition 85 = .ok (.iadd, 1) := by decide +kernel
theorem dX5_readCondition_86 : decode cX5_readCondition 86 = .ok (.invokevirtual 65, 3) := by decide +kernel
theorem dX5_readCondition_89 : decode cX5_readCondition 89 = .ok (.aload_n 0, 1) := by decide +kernel
theorem dX5_readCondition_90 : decode cX5_readCondition 90 = .ok (.bipush (-41), 2) := by decide +kernel
theorem dX5_readCondition_92 : decode cX5_readCondition 92 = .ok (.invokevirtual 71, 3) := by decide +kernel
theorem dX5_readCondition_95 : decode cX5_readCondition 95 = .ok (.goto 51, 3) := by decide +kernel
theorem dX5_readCondition_98 : decode cX5_readCondition 98 = .ok (.aload_n 0, 1) := by decide +kernel
theorem dX5_readCondition_99 : decode cX5_readCondition 99 = .ok (.invokevirtual 62, 3) := by decide +kernel
theorem dX5_readCondition_102 : decode cX5_readCondition 102 = .ok (.aload_n 0, 1) := by decide +kernel
theorem dX5_readCondition_103 : decode cX5_readCondition 103 = .ok (.getfield 44, 3) := by decide +kernel
theorem dX5_readCondition_106 : decode cX5_readCondition 106 = .ok (.istore_n 3, 1) := by decide +kernel
theorem dX5_readCondition_107 : decode cX5_readCondition 107 = .ok (.iload_n 3, 1) := by decide +kernel
theorem dX5_readCondition_108 : decode cX5_readCondition 108 = .ok (.bipush (-60), 2) := by decide +kernel
theorem dX5_readCondition_110 : decode cX5_readCondition 110 = .ok (.if_icmp .eq 15, 3) := by decide +kernel
theorem dX5_readCondition_113 : decode cX5_readCondition 113 = .ok (.iload_n 3, 1) := by decide +kernel
theorem dX5_readCondition_114 : decode cX5_readCondition 114 = .ok (.bipush (-61), 2) := by decide +kernel
theorem dX5_readCondition_116 : decode cX5_readCondition 116 = .ok (.if_icmp .eq 9, 3) := by decide +kernel
theorem dX5_readCondition_119 : decode cX5_readCondition 119 = .ok (.iload_n 3, 1) := by decide +kernel
theorem dX5_readCondition_120 : decode cX5_readCondition 120 = .ok (.bipush (-62), 2) := by decide +kernel
theorem dX5_readCondition_122 : decode cX5_readCondition 122 = .ok (.if_icmp .ne 19, 3) := by decide +kernel
theorem dX5_readCondition_125 : decode cX5_readCondition 125 = .ok (.aload_n 0, 1) := by decide +kernel
theorem dX5_readCondition_126 : decode cX5_readCondition 126 = .ok (.invokevirtual 59, 3) := by decide +kernel
theorem dX5_readCondition_129 : decode cX5_readCondition 129 = .ok (.aload_n 0, 1) := by decide +kernel
theorem dX5_readCondition_130 : decode cX5_readCondition 130 = .ok (.invokevirtual 62, 3) := by decide +kernel
theorem dX5_readCondition_133 : decode cX5_readCondition 133 = .ok (.aload_n 0, 1) := by decide +kernel
theorem dX5_readCondition_134 : decode cX5_readCondition 134 = .ok (.iload_n 3, 1) := by decide +kernel
theorem dX5_readCondition_135 : decode cX5_readCondition 135 = .ok (.invokevirtual 68, 3) := by decide +kernel
theorem dX5_readCondition_138 : decode cX5_readCondition 138 = .ok (.goto 8, 3) := by decide +kernel
theorem dX5_readCondition_141 : decode cX5_readCondition 141 = .ok (.aload_n 0, 1) := by decide +kernel
theorem dX5_readCondition_142 : decode cX5_readCondition 142 = .ok (.iconst 1, 1) := by decide +kernel
theorem dX5_readCondition_143 : decode cX5_readCondition 143 = .ok (.invokevirtual 49, 3) := by decide +kernel
theorem dX5_readCondition_146 : decode cX5_readCondition 146 = .ok (.return_, 1) := by decide +kernel
theorem dX6_init_0 : decode cX6_init 0 = .ok (.aload_n 0, 1) := by decide +kernel
theorem dX6_init_1 : decode cX6_init 1 = .ok (.invokespecial 3, 3) := by decide +kernel
theorem dX6_init_4 : decode cX6_init 4 = .ok (.aload_n 0, 1) := by decide +kernel
theorem dX6_init_5 : decode cX6_init 5 = .ok (.bipush 10, 2) := by decide +kernel
theorem dX6_init_7 : decode cX6_init 7 = .ok (.newarray .int, 2) := by decide +kernel
theorem dX6_init_9 : decode cX6_init 9 = .ok (.putfield 9, 3) := by decide +kernel
theorem dX6_init_12 : decode cX6_init 12 = .ok (.aload_n 0, 1) := by decide +kernel
theorem dX6_init_13 : decode cX6_init 13 = .ok (.bipush 10, 2) := by decide +kernel
theorem dX6_init_15 : decode cX6_init 15 = .ok (.newarray .int, 2) := by decide +kernel
theorem dX6_init_17 : decode cX6_init 17 = .ok (.putfield 15, 3) := by decide +kernel
theorem dX6_init_20 : decode cX6_init 20 = .ok (.aload_n 0, 1) := by decide +kernel
theorem dX6_init_21 : decode cX6_init 21 = .ok (.bipush 10, 2) := by decide +kernel
theorem dX6_init_23 : decode cX6_init 23 = .ok (.newarray .int, 2) := by decide +kernel
theorem dX6_init_25 : decode cX6_init 25 = .ok (.putfield 18, 3) := by decide +kernel
theorem dX6_init_28 : decode cX6_init 28 = .ok (.aload_n 0, 1) := by decide +kernel
theorem dX6_init_29 : decode cX6_init 29 = .ok (.bipush 40, 2) := by decide +kernel
theorem dX6_init_31 : decode cX6_init 31 = .ok (.newarray .int, 2) := by decide +kernel
theorem dX6_init_33 : decode cX6_init 33 = .ok (.putfield 21, 3) := by decide +kernel
theorem dX6_init_36 : decode cX6_init 36 = .ok (.aload_n 0, 1) := by decide +kernel
theorem dX6_init_37 : decode cX6_init 37 = .ok (.bipush 8, 2) := by decide +kernel
theorem dX6_init_39 : decode cX6_init 39 = .ok (.newarray .int, 2) := by decide +kernel
theorem dX6_init_41 : decode cX6_init 41 = .ok (.putfield 24, 3) := by decide +kernel
theorem dX6_init_44 : decode cX6_init 44 = .ok (.aload_n 0, 1) := by decide +kernel
theorem dX6_init_45 : decode cX6_init 45 = .ok (.bipush 8, 2) := by decide +kernel
theorem dX6_init_47 : decode cX6_init 47 = .ok (.newarray .int, 2) := by decide +kernel
theorem dX6_init_49 : decode cX6_init 49 = .ok (.putfield 27, 3) := by decide +kernel
theorem dX6_init_52 : decode cX6_init 52 = .ok (.return_, 1) := by decide +kernel
theorem dX6_beginWith_0 : decode cX6_beginWith 0 = .ok (.aload_n 0, 1) := by decide +kernel
theorem dX6_beginWith_1 : decode cX6_beginWith 1 = .ok (.iload_n 1, 1) := by decide +kernel
theorem dX6_beginWith_2 : decode cX6_beginWith 2 = .ok (.putfield 30, 3) := by decide +kernel
theorem dX6_beginWith_5 : decode cX6_beginWith 5 = .ok (.aload_n 0, 1) := by decide +kernel
theorem dX6_beginWith_6 : decode cX6_beginWith 6 = .ok (.iconst 0, 1) := by decide +kernel
theorem dX6_beginWith_7 : decode cX6_beginWith 7 = .ok (.putfield 34, 3) := by decide +kernel
theorem dX6_beginWith_10 : decode cX6_beginWith 10 = .ok (.aload_n 0, 1) := by decide +kernel
theorem dX6_beginWith_11 : decode cX6_beginWith 11 = .ok (.iconst 0, 1) := by decide +kernel
theorem dX6_beginWith_12 : decode cX6_beginWith 12 = .ok (.putfield 37, 3) := by decide +kernel
theorem dX6_beginWith_15 : decode cX6_beginWith 15 = .ok (.aload_n 0, 1) := by decide +kernel
theorem dX6_beginWith_16 : decode cX6_beginWith 16 = .ok (.getfield 21, 3) := by decide +kernel
theorem dX6_beginWith_19 : decode cX6_beginWith 19 = .ok (.iconst (-1), 1) := by decide +kernel
theorem dX6_beginWith_20 : decode cX6_beginWith 20 = .ok (.invokestatic 40, 3) := by decide +kernel
theorem dX6_beginWith_23 : decode cX6_beginWith 23 = .ok (.return_, 1) := by decide +kernel
theorem dX6_copyFrom_0 : decode cX6_copyFrom 0 = .ok (.aload_n 0, 1) := by decide +kernel
theorem dX6_copyFrom_1 : decode cX6_copyFrom 1 = .ok (.aload_n 1, 1) := by decide +kernel
theorem dX6_copyFrom_2 : decode cX6_copyFrom 2 = .ok (.getfield 30, 3) := by decide +kernel
theorem dX6_copyFrom_5 : decode cX6_copyFrom 5 = .ok (.putfield 30, 3) := by decide +kernel
theorem dX6_copyFrom_8 : decode cX6_copyFrom 8 = .ok (.aload_n 0, 1) := by decide +kernel
theorem dX6_copyFrom_9 : decode cX6_copyFrom 9 = .ok (.aload_n 1, 1) := by decide +kernel
theorem dX6_copyFrom_10 : decode cX6_copyFrom 10 = .ok (.getfield 34, 3) := by decide +kernel
theorem dX6_copyFrom_13 : decode cX6_copyFrom 13 = .ok (.putfield 34, 3) := by decide +kernel
theorem dX6_copyFrom_16 : decode cX6_copyFrom 16 = .ok (.aload_n 0, 1) := by decide +kernel
theorem dX6_copyFrom_17 : decode cX6_copyFrom 17 = .ok (.aload_n 1, 1) := by decide +kernel
theorem dX6_copyFrom_18 : decode cX6_copyFrom 18 = .ok (.getfield 37, 3) := by decide +kernel
theorem dX6_copyFrom_21 : decode cX6_copyFrom 21 = .ok (.putfield 37, 3) := by decide +kernel
theorem dX6_copyFrom_24 : decode cX6_copyFrom 24 = .ok (.aload_n 1, 1) := by decide +kernel
theorem dX6_copyFrom_25 : decode cX6_copyFrom 25 = .ok (.getfield 9, 3) := by decide +kernel
theorem dX6_copyFrom_28 : decode cX6_copyFrom 28 = .ok (.iconst 0, 1) := by decide +kernel
theorem dX6_copyFrom_29 : decode cX6_copyFrom 29 = .ok (.aload_n 0, 1) := by decide +kernel
theorem dX6_copyFrom_30 : decode cX6_copyFrom 30 = .ok (.getfield 9, 3) := by decide +kernel
theorem dX6_copyFrom_33 : decode cX6_copyFrom 33 = .ok (.iconst 0, 1) := by decide +kernel
theorem dX6_copyFrom_34 : decode cX6_copyFrom 34 = .ok (.bipush 10, 2) := by decide +kernel
theorem dX6_copyFrom_36 : decode cX6_copyFrom 36 = .ok (.invokestatic 46, 3) := by decide +kernel
theorem dX6_copyFrom_39 : decode cX6_copyFrom 39 = .ok (.aload_n 1, 1) := by decide +kernel
theorem dX6_copyFrom_40 : decode cX6_copyFrom 40 = .ok (.getfield 15, 3) := by decide +kernel
theorem dX6_copyFrom_43 : decode cX6_copyFrom 43 = .ok (.iconst 0, 1) := by decide +kernel
theorem dX6_copyFrom_44 : decode cX6_copyFrom 44 = .ok (.aload_n 0, 1) := by decide +kernel
theorem dX6_copyFrom_45 : decode cX6_copyFrom 45 = .ok (.getfield 15, 3) := by decide +kernel
theorem dX6_copyFrom_48 : decode cX6_copyFrom 48 = .ok (.iconst 0, 1) := by decide +kernel
theorem dX6_copyFrom_49 : decode cX6_copyFrom 49 = .ok (.bipush 10, 2) := by decide +kernel
theorem dX6_copyFrom_51 : decode cX6_copyFrom 51 = .ok (.invokestatic 46, 3) := by decide +kernel
theorem dX6_copyFrom_54 : decode cX6_copyFrom 54 = .ok (.aload_n 1, 1) := by decide +kernel
theorem dX6_copyFrom_55 : decode cX6_copyFrom 55 = .ok (.getfield 18, 3) := by decide +kernel
theorem dX6_copyFrom_58 : decode cX6_copyFrom 58 = .ok (.iconst 0, 1) := by decide +kernel
theorem dX6_copyFrom_59 : decode cX6_copyFrom 59 = .ok (.aload_n 0, 1) := by decide +kernel
theorem dX6_copyFrom_60 : decode cX6_copyFrom 60 = .ok (.getfield 18, 3) := by decide +kernel
theorem dX6_copyFrom_63 : decode cX6_copyFrom 63 = .ok (.iconst 0, 1) := by decide +kernel
theorem dX6_copyFrom_64 : decode cX6_copyFrom 64 = .ok (.bipush 10, 2) := by decide +kernel
theorem dX6_copyFrom_66 : decode cX6_copyFrom 66 = .ok (.invokestatic 46, 3) := by decide +kernel
theorem dX6_copyFrom_69 : decode cX6_copyFrom 69 = .ok (.aload_n 1, 1) := by decide +kernel
theorem dX6_copyFrom_70 : decode cX6_copyFrom 70 = .ok (.getfield 21, 3) := by decide +kernel
theorem dX6_copyFrom_73 : decode cX6_copyFrom 73 = .ok (.iconst 0, 1) := by decide +kernel
theorem dX6_copyFrom_74 : decode cX6_copyFrom 74 = .ok (.aload_n 0, 1) := by decide +kernel
theorem dX6_copyFrom_75 : decode cX6_copyFrom 75 = .ok (.getfield 21, 3) := by decide +kernel
theorem dX6_copyFrom_78 : decode cX6_copyFrom 78 = .ok (.iconst 0, 1) := by decide +kernel
theorem dX6_copyFrom_79 : decode cX6_copyFrom 79 = .ok (.bipush 40, 2) := by decide +kernel
theorem dX6_copyFrom_81 : decode cX6_copyFrom 81 = .ok (.invokestatic 46, 3) := by decide +kernel
theorem dX6_copyFrom_84 : decode cX6_copyFrom 84 = .ok (.aload_n 1, 1) := by decide +kernel
theorem dX6_copyFrom_85 : decode cX6_copyFrom 85 = .ok (.getfield 24, 3) := by decide +kernel
theorem dX6_copyFrom_88 : decode cX6_copyFrom 88 = .ok (.iconst 0, 1) := by decide +kernel
theorem dX6_copyFrom_89 : decode cX6_copyFrom 89 = .ok (.aload_n 0, 1) := by decide +kernel
theorem dX6_copyFrom_90 : decode cX6_copyFrom 90 = .ok (.getfield 24, 3) := by decide +kernel
theorem dX6_copyFrom_93 : decode cX6_copyFrom 93 = .ok (.iconst 0, 1) := by decide +kernel
theorem dX6_copyFrom_94 : decode cX6_copyFrom 94 = .ok (.bipush 8, 2) := by decide +kernel
theorem dX6_copyFrom_96 : decode cX6_copyFrom 96 = .ok (.invokestatic 46, 3) := by decide +kernel
theorem dX6_copyFrom_99 : decode cX6_copyFrom 99 = .ok (.aload_n 1, 1) := by decide +kernel
theorem dX6_copyFrom_100 : decode cX6_copyFrom 100 = .ok (.getfield 27, 3) := by decide +kernel
theorem dX6_copyFrom_103 : decode cX6_copyFrom 103 = .ok (.iconst 0, 1) := by decide +kernel
theorem dX6_copyFrom_104 : decode cX6_copyFrom 104 = .ok (.aload_n 0, 1) := by decide +kernel
theorem dX6_copyFrom_105 : decode cX6_copyFrom 105 = .ok (.getfield 27, 3) := by decide +kernel
theorem dX6_copyFrom_108 : decode cX6_copyFrom 108 = .ok (.iconst 0, 1) := by decide +kernel
theorem dX6_copyFrom_109 : decode cX6_copyFrom 109 = .ok (.bipush 8, 2) := by decide +kernel
theorem dX6_copyFrom_111 : decode cX6_copyFrom 111 = .ok (.invokestatic 46, 3) := by decide +kernel
theorem dX6_copyFrom_114 : decode cX6_copyFrom 114 = .ok (.return_, 1) := by decide +kernel
theorem dX6_hasBucket_0 : decode cX6_hasBucket 0 = .ok (.iload_n 1, 1) := by decide +kernel
theorem dX6_hasBucket_1 : decode cX6_hasBucket 1 = .ok (.iconst 0, 1) := by decide +kernel
theorem dX6_hasBucket_2 : decode cX6_hasBucket 2 = .ok (.aload_n 0, 1) := by decide +kernel
theorem dX6_hasBucket_3 : decode cX6_hasBucket 3 = .ok (.getfield 34, 3) := by decide +kernel
theorem dX6_hasBucket_6 : decode cX6_hasBucket 6 = .ok (.iconst 1, 1) := by decide +kernel
theorem dX6_hasBucket_7 : decode cX6_hasBucket 7 = .ok (.isub, 1) := by decide +kernel
theorem dX6_hasBucket_8 : decode cX6_hasBucket 8 = .ok (.invokestatic 52, 3) := by decide +kernel
theorem dX6_hasBucket_11 : decode cX6_hasBucket 11 = .ok (.ireturn, 1) := by decide +kernel
theorem dX6_hasSplice_0 : decode cX6_hasSplice 0 = .ok (.iload_n 1, 1) := by decide +kernel
theorem dX6_hasSplice_1 : decode cX6_hasSplice 1 = .ok (.iconst 0, 1) := by decide +kernel
theorem dX6_hasSplice_2 : decode cX6_hasSplice 2 = .ok (.aload_n 0, 1) := by decide +kernel
theorem dX6_hasSplice_3 : decode cX6_hasSplice 3 = .ok (.getfield 37, 3) := by decide +kernel
theorem dX6_hasSplice_6 : decode cX6_hasSplice 6 = .ok (.iconst 1, 1) := by decide +kernel
theorem dX6_hasSplice_7 : decode cX6_hasSplice 7 = .ok (.isub, 1) := by decide +kernel
theorem dX6_hasSplice_8 : decode cX6_hasSplice 8 = .ok (.invokestatic 52, 3) := by decide +kernel
theorem dX6_hasSplice_11 : decode cX6_hasSplice 11 = .ok (.ireturn, 1) := by decide +kernel
theorem dX6_hangBucket_0 : decode cX6_hangBucket 0 = .ok (.aload_n 0, 1) := by decide +kernel
theorem dX6_hangBucket_1 : decode cX6_hangBucket 1 = .ok (.getfield 34, 3) := by decide +kernel
theorem dX6_hangBucket_4 : decode cX6_hangBucket 4 = .ok (.bipush 10, 2) := by decide +kernel
theorem dX6_hangBucket_6 : decode cX6_hangBucket 6 = .ok (.if_icmp .ge 45, 3) := by decide +kernel
theorem dX6_hangBucket_9 : decode cX6_hangBucket 9 = .ok (.iload_n 1, 1) := by decide +kernel
theorem dX6_hangBucket_10 : decode cX6_hangBucket 10 = .ok (.iconst 0, 1) := by decide +kernel
theorem dX6_hangBucket_11 : decode cX6_hangBucket 11 = .ok (.aload_n 0, 1) := by decide +kernel
theorem dX6_hangBucket_12 : decode cX6_hangBucket 12 = .ok (.getfield 30, 3) := by decide +kernel
theorem dX6_hangBucket_15 : decode cX6_hangBucket 15 = .ok (.iconst 1, 1) := by decide +kernel
theorem dX6_hangBucket_16 : decode cX6_hangBucket 16 = .ok (.isub, 1) := by decide +kernel
theorem dX6_hangBucket_17 : decode cX6_hangBucket 17 = .ok (.invokestatic 52, 3) := by decide +kernel
theorem dX6_hangBucket_20 : decode cX6_hangBucket 20 = .ok (.ifCond .eq 31, 3) := by decide +kernel
theorem dX6_hangBucket_23 : decode cX6_hangBucket 23 = .ok (.iload_n 2, 1) := by decide +kernel
theorem dX6_hangBucket_24 : decode cX6_hangBucket 24 = .ok (.iconst 1, 1) := by decide +kernel
theorem dX6_hangBucket_25 : decode cX6_hangBucket 25 = .ok (.bipush 99, 2) := by decide +kernel
theorem dX6_hangBucket_27 : decode cX6_hangBucket 27 = .ok (.invokestatic 52, 3) := by decide +kernel
theorem dX6_hangBucket_30 : decode cX6_hangBucket 30 = .ok (.ifCond .eq 21, 3) := by decide +kernel
theorem dX6_hangBucket_33 : decode cX6_hangBucket 33 = .ok (.iload_n 3, 1) := by decide +kernel
theorem dX6_hangBucket_34 : decode cX6_hangBucket 34 = .ok (.iconst 0, 1) := by decide +kernel
theorem dX6_hangBucket_35 : decode cX6_hangBucket 35 = .ok (.bipush 99, 2) := by decide +kernel
theorem dX6_hangBucket_37 : decode cX6_hangBucket 37 = .ok (.invokestatic 52, 3) := by decide +kernel
theorem dX6_hangBucket_40 : decode cX6_hangBucket 40 = .ok (.ifCond .eq 11, 3) := by decide +kernel
theorem dX6_hangBucket_43 : decode cX6_hangBucket 43 = .ok (.aload_n 0, 1) := by decide +kernel
theorem dX6_hangBucket_44 : decode cX6_hangBucket 44 = .ok (.iload_n 1, 1) := by decide +kernel
theorem dX6_hangBucket_45 : decode cX6_hangBucket 45 = .ok (.invokevirtual 56, 3) := by decide +kernel
theorem dX6_hangBucket_48 : decode cX6_hangBucket 48 = .ok (.ifCond .eq 5, 3) := by decide +kernel
theorem dX6_hangBucket_51 : decode cX6_hangBucket 51 = .ok (.iconst (-1), 1) := by decide +kernel
theorem dX6_hangBucket_52 : decode cX6_hangBucket 52 = .ok (.ireturn, 1) := by decide +kernel
theorem dX6_hangBucket_53 : decode cX6_hangBucket 53 = .ok (.aload_n 0, 1) := by decide +kernel
theorem dX6_hangBucket_54 : decode cX6_hangBucket 54 = .ok (.getfield 9, 3) := by decide +kernel
theorem dX6_hangBucket_57 : decode cX6_hangBucket 57 = .ok (.aload_n 0, 1) := by decide +kernel
theorem dX6_hangBucket_58 : decode cX6_hangBucket 58 = .ok (.getfield 34, 3) := by decide +kernel
theorem dX6_hangBucket_61 : decode cX6_hangBucket 61 = .ok (.iload_n 1, 1) := by decide +kernel
theorem dX6_hangBucket_62 : decode cX6_hangBucket 62 = .ok (.iastore, 1) := by decide +kernel
theorem dX6_hangBucket_63 : decode cX6_hangBucket 63 = .ok (.aload_n 0, 1) := by decide +kernel
theorem dX6_hangBucket_64 : decode cX6_hangBucket 64 = .ok (.getfield 15, 3) := by decide +kernel
theorem dX6_hangBucket_67 : decode cX6_hangBucket 67 = .ok (.aload_n 0, 1) := by decide +kernel
theorem dX6_hangBucket_68 : decode cX6_hangBucket 68 = .ok (.getfield 34, 3) := by decide +kernel
theorem dX6_hangBucket_71 : decode cX6_hangBucket 71 = .ok (.iload_n 2, 1) := by decide +kernel
theorem dX6_hangBucket_72 : decode cX6_hangBucket 72 = .ok (.iastore, 1) := by decide +kernel
theorem dX6_hangBucket_73 : decode cX6_hangBucket 73 = .ok (.aload_n 0, 1) := by decide +kernel
theorem dX6_hangBucket_74 : decode cX6_hangBucket 74 = .ok (.getfield 18, 3) := by decide +kernel
theorem dX6_hangBucket_77 : decode cX6_hangBucket 77 = .ok (.aload_n 0, 1) := by decide +kernel
theorem dX6_hangBucket_78 : decode cX6_hangBucket 78 = .ok (.getfield 34, 3) := by decide +kernel
theorem dX6_hangBucket_81 : decode cX6_hangBucket 81 = .ok (.iload_n 3, 1) := by decide +kernel
theorem dX6_hangBucket_82 : decode cX6_hangBucket 82 = .ok (.iastore, 1) := by decide +kernel
theorem dX6_hangBucket_83 : decode cX6_hangBucket 83 = .ok (.aload_n 0, 1) := by decide +kernel
theorem dX6_hangBucket_84 : decode cX6_hangBucket 84 = .ok (.dup, 1) := by decide +kernel
theorem dX6_hangBucket_85 : decode cX6_hangBucket 85 = .ok (.getfield 34, 3) := by decide +kernel
theorem dX6_hangBucket_88 : decode cX6_hangBucket 88 = .ok (.iconst 1, 1) := by decide +kernel
theorem dX6_hangBucket_89 : decode cX6_hangBucket 89 = .ok (.iadd, 1) := by decide +kernel
theorem dX6_hangBucket_90 : decode cX6_hangBucket 90 = .ok (.putfield 34, 3) := by decide +kernel
theorem dX6_hangBucket_93 : decode cX6_hangBucket 93 = .ok (.aload_n 0, 1) := by decide +kernel
theorem dX6_hangBucket_94 : decode cX6_hangBucket 94 = .ok (.getfield 34, 3) := by decide +kernel
theorem dX6_hangBucket_97 : decode cX6_hangBucket 97 = .ok (.iconst 1, 1) := by decide +kernel
theorem dX6_hangBucket_98 : decode cX6_hangBucket 98 = .ok (.isub, 1) := by decide +kernel
theorem dX6_hangBucket_99 : decode cX6_hangBucket 99 = .ok (.ireturn, 1) := by decide +kernel
theorem dX6_isTaken_0 : decode cX6_isTaken 0 = .ok (.iconst 0, 1) := by decide +kernel
theorem dX6_isTaken_1 : decode cX6_isTaken 1 = .ok (.istore_n 2, 1) := by decide +kernel
theorem dX6_isTaken_2 : decode cX6_isTaken 2 = .ok (.iload_n 2, 1) := by decide +kernel
theorem dX6_isTaken_3 : decode cX6_isTaken 3 = .ok (.aload_n 0, 1) := by decide +kernel
theorem dX6_isTaken_4 : decode cX6_isTaken 4 = .ok (.getfield 34, 3) := by decide +kernel
theorem dX6_isTaken_7 : decode cX6_isTaken 7 = .ok (.if_icmp .ge 21, 3) := by decide +kernel
theorem dX6_isTaken_10 : decode cX6_isTaken 10 = .ok (.aload_n 0, 1) := by decide +kernel
theorem dX6_isTaken_11 : decode cX6_isTaken 11 = .ok (.getfield 9, 3) := by decide +kernel
theorem dX6_isTaken_14 : decode cX6_isTaken 14 = .ok (.iload_n 2, 1) := by decide +kernel
theorem dX6_isTaken_15 : decode cX6_isTaken 15 = .ok (.iaload, 1) := by decide +kernel
theorem dX6_isTaken_16 : decode cX6_isTaken 16 = .ok (.iload_n 1, 1) := by decide +kernel
theorem dX6_isTaken_17 : decode cX6_isTaken 17 = .ok (.if_icmp .ne 5, 3) := by decide +kernel
theorem dX6_isTaken_20 : decode cX6_isTaken 20 = .ok (.iconst 1, 1) := by decide +kernel
theorem dX6_isTaken_21 : decode cX6_isTaken 21 = .ok (.ireturn, 1) := by decide +kernel
theorem dX6_isTaken_22 : decode cX6_isTaken 22 = .ok (.iinc 2 1, 3) := by decide +kernel
theorem dX6_isTaken_25 : decode cX6_isTaken 25 = .ok (.goto (-23), 3) := by decide +kernel
theorem dX6_isTaken_28 : decode cX6_isTaken 28 = .ok (.iconst 0, 1) := by decide +kernel
theorem dX6_isTaken_29 : decode cX6_isTaken 29 = .ok (.ireturn, 1) := by decide +kernel
theorem dX6_addSplice_0 : decode cX6_addSplice 0 = .ok (.aload_n 0, 1) := by decide +kernel
theorem dX6_addSplice_1 : decode cX6_addSplice 1 = .ok (.getfield 37, 3) := by decide +kernel
theorem dX6_addSplice_4 : decode cX6_addSplice 4 = .ok (.bipush 8, 2) := by decide +kernel
theorem dX6_addSplice_6 : decode cX6_addSplice 6 = .ok (.if_icmp .ge 24, 3) := by decide +kernel
theorem dX6_addSplice_9 : decode cX6_addSplice 9 = .ok (.iload_n 1, 1) := by decide +kernel
theorem dX6_addSplice_10 : decode cX6_addSplice 10 = .ok (.iconst 0, 1) := by decide +kernel
theorem dX6_addSplice_11 : decode cX6_addSplice 11 = .ok (.bipush 99, 2) := by decide +kernel
theorem dX6_addSplice_13 : decode cX6_addSplice 13 = .ok (.invokestatic 52, 3) := by decide +kernel
theorem dX6_addSplice_16 : decode cX6_addSplice 16 = .ok (.ifCond .eq 14, 3) := by decide +kernel
theorem dX6_addSplice_19 : decode cX6_addSplice 19 = .ok (.iload_n 2, 1) := by decide +kernel
theorem dX6_addSplice_20 : decode cX6_addSplice 20 = .ok (.iconst 0, 1) := by decide +kernel
theorem dX6_addSplice_21 : decode cX6_addSplice 21 = .ok (.sipush 9999, 3) := by decide +kernel
theorem dX6_addSplice_24 : decode cX6_addSplice 24 = .ok (.invokestatic 52, 3) := by decide +kernel
theorem dX6_addSplice_27 : decode cX6_addSplice 27 = .ok (.ifCond .ne 5, 3) := by decide +kernel
theorem dX6_addSplice_30 : decode cX6_addSplice 30 = .ok (.iconst (-1), 1) := by decide +kernel
theorem dX6_addSplice_31 : decode cX6_addSplice 31 = .ok (.ireturn, 1) := by decide +kernel
theorem dX6_addSplice_32 : decode cX6_addSplice 32 = .ok (.aload_n 0, 1) := by decide +kernel
theorem dX6_addSplice_33 : decode cX6_addSplice 33 = .ok (.getfield 24, 3) := by decide +kernel
theorem dX6_addSplice_36 : decode cX6_addSplice 36 = .ok (.aload_n 0, 1) := by decide +kernel
theorem dX6_addSplice_37 : decode cX6_addSplice 37 = .ok (.getfield 37, 3) := by decide +kernel
theorem dX6_addSplice_40 : decode cX6_addSplice 40 = .ok (.iload_n 1, 1) := by decide +kernel
theorem dX6_addSplice_41 : decode cX6_addSplice 41 = .ok (.iastore, 1) := by decide +kernel
theorem dX6_addSplice_42 : decode cX6_addSplice 42 = .ok (.aload_n 0, 1) := by decide +kernel
theorem dX6_addSplice_43 : decode cX6_addSplice 43 = .ok (.getfield 27, 3) := by decide +kernel
theorem dX6_addSplice_46 : decode cX6_addSplice 46 = .ok (.aload_n 0, 1) := by decide +kernel
theorem dX6_addSplice_47 : decode cX6_addSplice 47 = .ok (.getfield 37, 3) := by decide +kernel
theorem dX6_addSplice_50 : decode cX6_addSplice 50 = .ok (.iload_n 2, 1) := by decide +kernel
theorem dX6_addSplice_51 : decode cX6_addSplice 51 = .ok (.iastore, 1) := by decide +kernel
theorem dX6_addSplice_52 : decode cX6_addSplice 52 = .ok (.aload_n 0, 1) := by decide +kernel
theorem dX6_addSplice_53 : decode cX6_addSplice 53 = .ok (.dup, 1) := by decide +kernel
theorem dX6_addSplice_54 : decode cX6_addSplice 54 = .ok (.getfield 37, 3) := by decide +kernel
theorem dX6_addSplice_57 : decode cX6_addSplice 57 = .ok (.iconst 1, 1) := by decide +kernel
theorem dX6_addSplice_58 : decode cX6_addSplice 58 = .ok (.iadd, 1) := by decide +kernel
theorem dX6_addSplice_59 : decode cX6_addSplice 59 = .ok (.putfield 37, 3) := by decide +kernel
theorem dX6_addSplice_62 : decode cX6_addSplice 62 = .ok (.aload_n 0, 1) := by decide +kernel
theorem dX6_addSplice_63 : decode cX6_addSplice 63 = .ok (.getfield 37, 3) := by decide +kernel
theorem dX6_addSplice_66 : decode cX6_addSplice 66 = .ok (.iconst 1, 1) := by decide +kernel
theorem dX6_addSplice_67 : decode cX6_addSplice 67 = .ok (.isub, 1) := by decide +kernel
theorem dX6_addSplice_68 : decode cX6_addSplice 68 = .ok (.ireturn, 1) := by decide +kernel
theorem dX6_isOverLand_0 : decode cX6_isOverLand 0 = .ok (.iload_n 1, 1) := by decide +kernel
theorem dX6_isOverLand_1 : decode cX6_isOverLand 1 = .ok (.iconst 1, 1) := by decide +kernel
theorem dX6_isOverLand_2 : decode cX6_isOverLand 2 = .ok (.aload_n 0, 1) := by decide +kernel
theorem dX6_isOverLand_3 : decode cX6_isOverLand 3 = .ok (.getfield 30, 3) := by decide +kernel
theorem dX6_isOverLand_6 : decode cX6_isOverLand 6 = .ok (.iconst 1, 1) := by decide +kernel
theorem dX6_isOverLand_7 : decode cX6_isOverLand 7 = .ok (.isub, 1) := by decide +kernel
theorem dX6_isOverLand_8 : decode cX6_isOverLand 8 = .ok (.invokestatic 52, 3) := by decide +kernel
theorem dX6_isOverLand_11 : decode cX6_isOverLand 11 = .ok (.ifCond .eq 17, 3) := by decide +kernel
theorem dX6_isOverLand_14 : decode cX6_isOverLand 14 = .ok (.iload_n 1, 1) := by decide +kernel
theorem dX6_isOverLand_15 : decode cX6_isOverLand 15 = .ok (.aload_n 0, 1) := by decide +kernel
theorem dX6_isOverLand_16 : decode cX6_isOverLand 16 = .ok (.getfield 30, 3) := by decide +kernel
theorem dX6_isOverLand_19 : decode cX6_isOverLand 19 = .ok (.iconst 2, 1) := by decide +kernel
theorem dX6_isOverLand_20 : decode cX6_isOverLand 20 = .ok (.idiv, 1) := by decide +kernel
theorem dX6_isOverLand_21 : decode cX6_isOverLand 21 = .ok (.if_icmp .eq 7, 3) := by decide +kernel
theorem dX6_isOverLand_24 : decode cX6_isOverLand 24 = .ok (.iconst 1, 1) := by decide +kernel
theorem dX6_isOverLand_25 : decode cX6_isOverLand 25 = .ok (.goto 4, 3) := by decide +kernel
theorem dX6_isOverLand_28 : decode cX6_isOverLand 28 = .ok (.iconst 0, 1) := by decide +kernel
theorem dX6_isOverLand_29 : decode cX6_isOverLand 29 = .ok (.ireturn, 1) := by decide +kernel
theorem dX6_ownerAt_0 : decode cX6_ownerAt 0 = .ok (.iload_n 1, 1) := by decide +kernel
theorem dX6_ownerAt_1 : decode cX6_ownerAt 1 = .ok (.iconst 0, 1) := by decide +kernel
theorem dX6_ownerAt_2 : decode cX6_ownerAt 2 = .ok (.bipush 39, 2) := by decide +kernel
theorem dX6_ownerAt_4 : decode cX6_ownerAt 4 = .ok (.invokestatic 52, 3) := by decide +kernel
theorem dX6_ownerAt_7 : decode cX6_ownerAt 7 = .ok (.ifCond .eq 12, 3) := by decide +kernel
theorem dX6_ownerAt_10 : decode cX6_ownerAt 10 = .ok (.aload_n 0, 1) := by decide +kernel
theorem dX6_ownerAt_11 : decode cX6_ownerAt 11 = .ok (.getfield 21, 3) := by decide +kernel
theorem dX6_ownerAt_14 : decode cX6_ownerAt 14 = .ok (.iload_n 1, 1) := by decide +kernel
theorem dX6_ownerAt_15 : decode cX6_ownerAt 15 = .ok (.iaload, 1) := by decide +kernel
theorem dX6_ownerAt_16 : decode cX6_ownerAt 16 = .ok (.goto 4, 3) := by decide +kernel
theorem dX6_ownerAt_19 : decode cX6_ownerAt 19 = .ok (.iconst (-1), 1) := by decide +kernel
theorem dX6_ownerAt_20 : decode cX6_ownerAt 20 = .ok (.ireturn, 1) := by decide +kernel
theorem dX6_placeOf_0 : decode cX6_placeOf 0 = .ok (.aload_n 0, 1) := by decide +kernel
theorem dX6_placeOf_1 : decode cX6_placeOf 1 = .ok (.getfield 9, 3) := by decide +kernel
theorem dX6_placeOf_4 : decode cX6_placeOf 4 = .ok (.iload_n 1, 1) := by decide +kernel
theorem dX6_placeOf_5 : decode cX6_placeOf 5 = .ok (.iaload, 1) := by decide +kernel
theorem dX6_placeOf_6 : decode cX6_placeOf 6 = .ok (.aload_n 2, 1) := by decide +kernel
theorem dX6_placeOf_7 : decode cX6_placeOf 7 = .ok (.getfield 60, 3) := by decide +kernel
theorem dX6_placeOf_10 : decode cX6_placeOf 10 = .ok (.iadd, 1) := by decide +kernel
theorem dX6_placeOf_11 : decode cX6_placeOf 11 = .ok (.istore_n 3, 1) := by decide +kernel
theorem dX6_placeOf_12 : decode cX6_placeOf 12 = .ok (.iload_n 3, 1) := by decide +kernel
theorem dX6_placeOf_13 : decode cX6_placeOf 13 = .ok (.aload_n 0, 1) := by decide +kernel
theorem dX6_placeOf_14 : decode cX6_placeOf 14 = .ok (.getfield 30, 3) := by decide +kernel
theorem dX6_placeOf_17 : decode cX6_placeOf 17 = .ok (.if_icmp .ge 7, 3) := by decide +kernel
theorem dX6_placeOf_20 : decode cX6_placeOf 20 = .ok (.iload_n 3, 1) := by decide +kernel
theorem dX6_placeOf_21 : decode cX6_placeOf 21 = .ok (.goto 9, 3) := by decide +kernel
theorem dX6_placeOf_24 : decode cX6_placeOf 24 = .ok (.iload_n 3, 1) := by decide +kernel
theorem dX6_placeOf_25 : decode cX6_placeOf 25 = .ok (.aload_n 0, 1) := by decide +kernel
theorem dX6_placeOf_26 : decode cX6_placeOf 26 = .ok (.getfield 30, 3) := by decide +kernel
theorem dX6_placeOf_29 : decode cX6_placeOf 29 = .ok (.isub, 1) := by decide +kernel
theorem dX6_placeOf_30 : decode cX6_placeOf 30 = .ok (.ireturn, 1) := by decide +kernel
theorem dX6_isBroken_0 : decode cX6_isBroken 0 = .ok (.aload_n 0, 1) := by decide +kernel
theorem dX6_isBroken_1 : decode cX6_isBroken 1 = .ok (.aload_n 1, 1) := by decide +kernel
theorem dX6_isBroken_2 : decode cX6_isBroken 2 = .ok (.invokevirtual 65, 3) := by decide +kernel
theorem dX6_isBroken_5 : decode cX6_isBroken 5 = .ok (.ifCond .ne 7, 3) := by decide +kernel
theorem dX6_isBroken_8 : decode cX6_isBroken 8 = .ok (.iconst 1, 1) := by decide +kernel
theorem dX6_isBroken_9 : decode cX6_isBroken 9 = .ok (.goto 4, 3) := by decide +kernel
theorem dX6_isBroken_12 : decode cX6_isBroken 12 = .ok (.iconst 0, 1) := by decide +kernel
theorem dX6_isBroken_13 : decode cX6_isBroken 13 = .ok (.ireturn, 1) := by decide +kernel
theorem dX6_stepsItHolds_0 : decode cX6_stepsItHolds 0 = .ok (.ldc 71, 2) := by decide +kernel
theorem dX6_stepsItHolds_2 : decode cX6_stepsItHolds 2 = .ok (.istore_n 2, 1) := by decide +kernel
theorem dX6_stepsItHolds_3 : decode cX6_stepsItHolds 3 = .ok (.iconst 0, 1) := by decide +kernel
theorem dX6_stepsItHolds_4 : decode cX6_stepsItHolds 4 = .ok (.istore_n 3, 1) := by decide +kernel
theorem dX6_stepsItHolds_5 : decode cX6_stepsItHolds 5 = .ok (.iload_n 3, 1) := by decide +kernel
theorem dX6_stepsItHolds_6 : decode cX6_stepsItHolds 6 = .ok (.aload_n 0, 1) := by decide +kernel
theorem dX6_stepsItHolds_7 : decode cX6_stepsItHolds 7 = .ok (.getfield 37, 3) := by decide +kernel
theorem dX6_stepsItHolds_10 : decode cX6_stepsItHolds 10 = .ok (.if_icmp .ge 20, 3) := by decide +kernel
theorem dX6_stepsItHolds_13 : decode cX6_stepsItHolds 13 = .ok (.iload_n 2, 1) := by decide +kernel
theorem dX6_stepsItHolds_14 : decode cX6_stepsItHolds 14 = .ok (.aload_n 0, 1) := by decide +kernel
theorem dX6_stepsItHolds_15 : decode cX6_stepsItHolds 15 = .ok (.iload_n 3, 1) := by decide +kernel
theorem dX6_stepsItHolds_16 : decode cX6_stepsItHolds 16 = .ok (.aload_n 1, 1) := by decide +kernel
theorem dX6_stepsItHolds_17 : decode cX6_stepsItHolds 17 = .ok (.invokevirtual 72, 3) := by decide +kernel
theorem dX6_stepsItHolds_20 : decode cX6_stepsItHolds 20 = .ok (.invokestatic 76, 3) := by decide +kernel
theorem dX6_stepsItHolds_23 : decode cX6_stepsItHolds 23 = .ok (.istore_n 2, 1) := by decide +kernel
theorem dX6_stepsItHolds_24 : decode cX6_stepsItHolds 24 = .ok (.iinc 3 1, 3) := by decide +kernel
theorem dX6_stepsItHolds_27 : decode cX6_stepsItHolds 27 = .ok (.goto (-22), 3) := by decide +kernel
theorem dX6_stepsItHolds_30 : decode cX6_stepsItHolds 30 = .ok (.iload_n 2, 1) := by decide +kernel
theorem dX6_stepsItHolds_31 : decode cX6_stepsItHolds 31 = .ok (.ireturn, 1) := by decide +kernel
theorem dX6_moveOn_0 : decode cX6_moveOn 0 = .ok (.iconst 0, 1) := by decide +kernel
theorem dX6_moveOn_1 : decode cX6_moveOn 1 = .ok (.istore_n 3, 1) := by decide +kernel
theorem dX6_moveOn_2 : decode cX6_moveOn 2 = .ok (.iload_n 3, 1) := by decide +kernel
theorem dX6_moveOn_3 : decode cX6_moveOn 3 = .ok (.iload_n 1, 1) := by decide +kernel
theorem dX6_moveOn_4 : decode cX6_moveOn 4 = .ok (.if_icmp .ge 68, 3) := by decide +kernel
theorem dX6_moveOn_7 : decode cX6_moveOn 7 = .ok (.aload_n 2, 1) := by decide +kernel
theorem dX6_moveOn_8 : decode cX6_moveOn 8 = .ok (.aload_n 2, 1) := by decide +kernel
theorem dX6_moveOn_9 : decode cX6_moveOn 9 = .ok (.getfield 60, 3) := by decide +kernel
theorem dX6_moveOn_12 : decode cX6_moveOn 12 = .ok (.iconst 1, 1) := by decide +kernel
theorem dX6_moveOn_13 : decode cX6_moveOn 13 = .ok (.iadd, 1) := by decide +kernel
theorem dX6_moveOn_14 : decode cX6_moveOn 14 = .ok (.aload_n 0, 1) := by decide +kernel
theorem dX6_moveOn_15 : decode cX6_moveOn 15 = .ok (.getfield 30, 3) := by decide +kernel
theorem dX6_moveOn_18 : decode cX6_moveOn 18 = .ok (.if_icmp .ge 12, 3) := by decide +kernel
theorem dX6_moveOn_21 : decode cX6_moveOn 21 = .ok (.aload_n 2, 1) := by decide +kernel
theorem dX6_moveOn_22 : decode cX6_moveOn 22 = .ok (.getfield 60, 3) := by decide +kernel
theorem dX6_moveOn_25 : decode cX6_moveOn 25 = .ok (.iconst 1, 1) := by decide +kernel
theorem dX6_moveOn_26 : decode cX6_moveOn 26 = .ok (.iadd, 1) := by decide +kernel
theorem dX6_moveOn_27 : decode cX6_moveOn 27 = .ok (.goto 4, 3) := by decide +kernel
theorem dX6_moveOn_30 : decode cX6_moveOn 30 = .ok (.iconst 0, 1) := by decide +kernel
theorem dX6_moveOn_31 : decode cX6_moveOn 31 = .ok (.putfield 60, 3) := by decide +kernel
theorem dX6_moveOn_34 : decode cX6_moveOn 34 = .ok (.iconst 0, 1) := by decide +kernel
theorem dX6_moveOn_35 : decode cX6_moveOn 35 = .ok (.istore 4, 2) := by decide +kernel
theorem dX6_moveOn_37 : decode cX6_moveOn 37 = .ok (.iload 4, 2) := by decide +kernel
theorem dX6_moveOn_39 : decode cX6_moveOn 39 = .ok (.aload_n 0, 1) := by decide +kernel
theorem dX6_moveOn_40 : decode cX6_moveOn 40 = .ok (.getfield 34, 3) := by decide +kernel
theorem dX6_moveOn_43 : decode cX6_moveOn 43 = .ok (.if_icmp .ge 23, 3) := by decide +kernel
theorem dX6_moveOn_46 : decode cX6_moveOn 46 = .ok (.aload_n 0, 1) := by decide +kernel
theorem dX6_moveOn_47 : decode cX6_moveOn 47 = .ok (.iload 4, 2) := by decide +kernel
theorem dX6_moveOn_49 : decode cX6_moveOn 49 = .ok (.aload_n 0, 1) := by decide +kernel
theorem dX6_moveOn_50 : decode cX6_moveOn 50 = .ok (.iload 4, 2) := by decide +kernel
theorem dX6_moveOn_52 : decode cX6_moveOn 52 = .ok (.aload_n 2, 1) := by decide +kernel
theorem dX6_moveOn_53 : decode cX6_moveOn 53 = .ok (.invokevirtual 82, 3) := by decide +kernel
theorem dX6_moveOn_56 : decode cX6_moveOn 56 = .ok (.aload_n 2, 1) := by decide +kernel
theorem dX6_moveOn_57 : decode cX6_moveOn 57 = .ok (.invokevirtual 85, 3) := by decide +kernel
theorem dX6_moveOn_60 : decode cX6_moveOn 60 = .ok (.iinc 4 1, 3) := by decide +kernel
theorem dX6_moveOn_63 : decode cX6_moveOn 63 = .ok (.goto (-26), 3) := by decide +kernel
theorem dX6_moveOn_66 : decode cX6_moveOn 66 = .ok (.iinc 3 1, 3) := by decide +kernel
theorem dX6_moveOn_69 : decode cX6_moveOn 69 = .ok (.goto (-67), 3) := by decide +kernel
theorem dX6_moveOn_72 : decode cX6_moveOn 72 = .ok (.aload_n 2, 1) := by decide +kernel
theorem dX6_moveOn_73 : decode cX6_moveOn 73 = .ok (.dup, 1) := by decide +kernel
theorem dX6_moveOn_74 : decode cX6_moveOn 74 = .ok (.getfield 89, 3) := by decide +kernel
theorem dX6_moveOn_77 : decode cX6_moveOn 77 = .ok (.iload_n 1, 1) := by decide +kernel
theorem dX6_moveOn_78 : decode cX6_moveOn 78 = .ok (.iadd, 1) := by decide +kernel
theorem dX6_moveOn_79 : decode cX6_moveOn 79 = .ok (.putfield 89, 3) := by decide +kernel
theorem dX6_moveOn_82 : decode cX6_moveOn 82 = .ok (.iconst 0, 1) := by decide +kernel
theorem dX6_moveOn_83 : decode cX6_moveOn 83 = .ok (.istore_n 3, 1) := by decide +kernel
theorem dX6_moveOn_84 : decode cX6_moveOn 84 = .ok (.iload_n 3, 1) := by decide +kernel
theorem dX6_moveOn_85 : decode cX6_moveOn 85 = .ok (.aload_n 0, 1) := by decide +kernel
theorem dX6_moveOn_86 : decode cX6_moveOn 86 = .ok (.getfield 37, 3) := by decide +kernel
theorem dX6_moveOn_89 : decode cX6_moveOn 89 = .ok (.if_icmp .ge 34, 3) := by decide +kernel
theorem dX6_moveOn_92 : decode cX6_moveOn 92 = .ok (.aload_n 2, 1) := by decide +kernel
theorem dX6_moveOn_93 : decode cX6_moveOn 93 = .ok (.getfield 92, 3) := by decide +kernel
theorem dX6_moveOn_96 : decode cX6_moveOn 96 = .ok (.iload_n 3, 1) := by decide +kernel
theorem dX6_moveOn_97 : decode cX6_moveOn 97 = .ok (.iconst 0, 1) := by decide +kernel
theorem dX6_moveOn_98 : decode cX6_moveOn 98 = .ok (.aload_n 2, 1) := by decide +kernel
theorem dX6_moveOn_99 : decode cX6_moveOn 99 = .ok (.getfield 92, 3) := by decide +kernel
theorem dX6_moveOn_102 : decode cX6_moveOn 102 = .ok (.iload_n 3, 1) := by decide +kernel
theorem dX6_moveOn_103 : decode cX6_moveOn 103 = .ok (.iaload, 1) := by decide +kernel
theorem dX6_moveOn_104 : decode cX6_moveOn 104 = .ok (.aload_n 0, 1) := by decide +kernel
theorem dX6_moveOn_105 : decode cX6_moveOn 105 = .ok (.getfield 24, 3) := by decide +kernel
theorem dX6_moveOn_108 : decode cX6_moveOn 108 = .ok (.iload_n 3, 1) := by decide +kernel
theorem dX6_moveOn_109 : decode cX6_moveOn 109 = .ok (.iaload, 1) := by decide +kernel
theorem dX6_moveOn_110 : decode cX6_moveOn 110 = .ok (.iload_n 1, 1) := by decide +kernel
theorem dX6_moveOn_111 : decode cX6_moveOn 111 = .ok (.imul, 1) := by decide +kernel
theorem dX6_moveOn_112 : decode cX6_moveOn 112 = .ok (.isub, 1) := by decide +kernel
theorem dX6_moveOn_113 : decode cX6_moveOn 113 = .ok (.invokestatic 95, 3) := by decide +kernel
theorem dX6_moveOn_116 : decode cX6_moveOn 116 = .ok (.iastore, 1) := by decide +kernel
theorem dX6_moveOn_117 : decode cX6_moveOn 117 = .ok (.iinc 3 1, 3) := by decide +kernel
theorem dX6_moveOn_120 : decode cX6_moveOn 120 = .ok (.goto (-36), 3) := by decide +kernel
theorem dX6_moveOn_123 : decode cX6_moveOn 123 = .ok (.return_, 1) := by decide +kernel
theorem dX6_visit_0 : decode cX6_visit 0 = .ok (.iload_n 2, 1) := by decide +kernel
theorem dX6_visit_1 : decode cX6_visit 1 = .ok (.aload_n 0, 1) := by decide +kernel
theorem dX6_visit_2 : decode cX6_visit 2 = .ok (.getfield 30, 3) := by decide +kernel
theorem dX6_visit_5 : decode cX6_visit 5 = .ok (.iconst 2, 1) := by decide +kernel
theorem dX6_visit_6 : decode cX6_visit 6 = .ok (.idiv, 1) := by decide +kernel
theorem dX6_visit_7 : decode cX6_visit 7 = .ok (.if_icmp .ne 28, 3) := by decide +kernel
theorem dX6_visit_10 : decode cX6_visit 10 = .ok (.aload_n 3, 1) := by decide +kernel
theorem dX6_visit_11 : decode cX6_visit 11 = .ok (.dup, 1) := by decide +kernel
theorem dX6_visit_12 : decode cX6_visit 12 = .ok (.getfield 98, 3) := by decide +kernel
theorem dX6_visit_15 : decode cX6_visit 15 = .ok (.aload_n 3, 1) := by decide +kernel
theorem dX6_visit_16 : decode cX6_visit 16 = .ok (.getfield 101, 3) := by decide +kernel
theorem dX6_visit_19 : decode cX6_visit 19 = .ok (.iload_n 1, 1) := by decide +kernel
theorem dX6_visit_20 : decode cX6_visit 20 = .ok (.iaload, 1) := by decide +kernel
theorem dX6_visit_21 : decode cX6_visit 21 = .ok (.iadd, 1) := by decide +kernel
theorem dX6_visit_22 : decode cX6_visit 22 = .ok (.putfield 98, 3) := by decide +kernel
theorem dX6_visit_25 : decode cX6_visit 25 = .ok (.aload_n 3, 1) := by decide +kernel
theorem dX6_visit_26 : decode cX6_visit 26 = .ok (.getfield 101, 3) := by decide +kernel
theorem dX6_visit_29 : decode cX6_visit 29 = .ok (.iload_n 1, 1) := by decide +kernel
theorem dX6_visit_30 : decode cX6_visit 30 = .ok (.iconst 0, 1) := by decide +kernel
theorem dX6_visit_31 : decode cX6_visit 31 = .ok (.iastore, 1) := by decide +kernel
theorem dX6_visit_32 : decode cX6_visit 32 = .ok (.goto 80, 3) := by decide +kernel
theorem dX6_visit_35 : decode cX6_visit 35 = .ok (.iload_n 2, 1) := by decide +kernel
theorem dX6_visit_36 : decode cX6_visit 36 = .ok (.ifCond .ne 50, 3) := by decide +kernel
theorem dX6_visit_39 : decode cX6_visit 39 = .ok (.aload_n 0, 1) := by decide +kernel
theorem dX6_visit_40 : decode cX6_visit 40 = .ok (.getfield 15, 3) := by decide +kernel
theorem dX6_visit_43 : decode cX6_visit 43 = .ok (.iload_n 1, 1) := by decide +kernel
theorem dX6_visit_44 : decode cX6_visit 44 = .ok (.iaload, 1) := by decide +kernel
theorem dX6_visit_45 : decode cX6_visit 45 = .ok (.aload_n 3, 1) := by decide +kernel
theorem dX6_visit_46 : decode cX6_visit 46 = .ok (.getfield 101, 3) := by decide +kernel
theorem dX6_visit_49 : decode cX6_visit 49 = .ok (.iload_n 1, 1) := by decide +kernel
theorem dX6_visit_50 : decode cX6_visit 50 = .ok (.iaload, 1) := by decide +kernel
theorem dX6_visit_51 : decode cX6_visit 51 = .ok (.isub, 1) := by decide +kernel
theorem dX6_visit_52 : decode cX6_visit 52 = .ok (.aload_n 3, 1) := by decide +kernel
theorem dX6_visit_53 : decode cX6_visit 53 = .ok (.getfield 104, 3) := by decide +kernel
theorem dX6_visit_56 : decode cX6_visit 56 = .ok (.invokestatic 76, 3) := by decide +kernel
theorem dX6_visit_59 : decode cX6_visit 59 = .ok (.istore 4, 2) := by decide +kernel
theorem dX6_visit_61 : decode cX6_visit 61 = .ok (.aload_n 3, 1) := by decide +kernel
theorem dX6_visit_62 : decode cX6_visit 62 = .ok (.dup, 1) := by decide +kernel
theorem dX6_visit_63 : decode cX6_visit 63 = .ok (.getfield 104, 3) := by decide +kernel
theorem dX6_visit_66 : decode cX6_visit 66 = .ok (.iload 4, 2) := by decide +kernel
theorem dX6_visit_68 : decode cX6_visit 68 = .ok (.isub, 1) := by decide +kernel
theorem dX6_visit_69 : decode cX6_visit 69 = .ok (.putfield 104, 3) := by decide +kernel
theorem dX6_visit_72 : decode cX6_visit 72 = .ok (.aload_n 3, 1) := by decide +kernel
theorem dX6_visit_73 : decode cX6_visit 73 = .ok (.getfield 101, 3) := by decide +kernel
theorem dX6_visit_76 : decode cX6_visit 76 = .ok (.iload_n 1, 1) := by decide +kernel
theorem dX6_visit_77 : decode cX6_visit 77 = .ok (.dup2, 1) := by decide +kernel
theorem dX6_visit_78 : decode cX6_visit 78 = .ok (.iaload, 1) := by decide +kernel
theorem dX6_visit_79 : decode cX6_visit 79 = .ok (.iload 4, 2) := by decide +kernel
theorem dX6_visit_81 : decode cX6_visit 81 = .ok (.iadd, 1) := by decide +kernel
theorem dX6_visit_82 : decode cX6_visit 82 = .ok (.iastore, 1) := by decide +kernel
theorem dX6_visit_83 : decode cX6_visit 83 = .ok (.goto 29, 3) := by decide +kernel
theorem dX6_visit_86 : decode cX6_visit 86 = .ok (.aload_n 0, 1) := by decide +kernel
theorem dX6_visit_87 : decode cX6_visit 87 = .ok (.aload_n 0, 1) := by decide +kernel
theorem dX6_visit_88 : decode cX6_visit 88 = .ok (.getfield 18, 3) := by decide +kernel
theorem dX6_visit_91 : decode cX6_visit 91 = .ok (.iload_n 1, 1) := by decide +kernel
theorem dX6_visit_92 : decode cX6_visit 92 = .ok (.iaload, 1) := by decide +kernel
theorem dX6_visit_93 : decode cX6_visit 93 = .ok (.aload_n 3, 1) := by decide +kernel
theorem dX6_visit_94 : decode cX6_visit 94 = .ok (.getfield 101, 3) := by decide +kernel
theorem dX6_visit_97 : decode cX6_visit 97 = .ok (.iload_n 1, 1) := by decide +kernel
theorem dX6_visit_98 : decode cX6_visit 98 = .ok (.iaload, 1) := by decide +kernel
theorem dX6_visit_99 : decode cX6_visit 99 = .ok (.invokestatic 76, 3) := by decide +kernel
theorem dX6_visit_102 : decode cX6_visit 102 = .ok (.iload_n 1, 1) := by decide +kernel
theorem dX6_visit_103 : decode cX6_visit 103 = .ok (.aload_n 0, 1) := by decide +kernel
theorem dX6_visit_104 : decode cX6_visit 104 = .ok (.iload_n 2, 1) := by decide +kernel
theorem dX6_visit_105 : decode cX6_visit 105 = .ok (.invokevirtual 107, 3) := by decide +kernel
theorem dX6_visit_108 : decode cX6_visit 108 = .ok (.aload_n 3, 1) := by decide +kernel
theorem dX6_visit_109 : decode cX6_visit 109 = .ok (.invokevirtual 111, 3) := by decide +kernel
theorem dX6_visit_112 : decode cX6_visit 112 = .ok (.return_, 1) := by decide +kernel
theorem dX6_drip_0 : decode cX6_drip 0 = .ok (.aload 4, 2) := by decide +kernel
theorem dX6_drip_2 : decode cX6_drip 2 = .ok (.getfield 101, 3) := by decide +kernel
theorem dX6_drip_5 : decode cX6_drip 5 = .ok (.iload_n 2, 1) := by decide +kernel
theorem dX6_drip_6 : decode cX6_drip 6 = .ok (.dup2, 1) := by decide +kernel
theorem dX6_drip_7 : decode cX6_drip 7 = .ok (.iaload, 1) := by decide +kernel
theorem dX6_drip_8 : decode cX6_drip 8 = .ok (.iload_n 1, 1) := by decide +kernel
theorem dX6_drip_9 : decode cX6_drip 9 = .ok (.isub, 1) := by decide +kernel
theorem dX6_drip_10 : decode cX6_drip 10 = .ok (.iastore, 1) := by decide +kernel
theorem dX6_drip_11 : decode cX6_drip 11 = .ok (.iload_n 3, 1) := by decide +kernel
theorem dX6_drip_12 : decode cX6_drip 12 = .ok (.iconst 0, 1) := by decide +kernel
theorem dX6_drip_13 : decode cX6_drip 13 = .ok (.bipush 8, 2) := by decide +kernel
theorem dX6_drip_15 : decode cX6_drip 15 = .ok (.invokestatic 52, 3) := by decide +kernel
theorem dX6_drip_18 : decode cX6_drip 18 = .ok (.ifCond .eq 39, 3) := by decide +kernel
theorem dX6_drip_21 : decode cX6_drip 21 = .ok (.aload 4, 2) := by decide +kernel
theorem dX6_drip_23 : decode cX6_drip 23 = .ok (.getfield 115, 3) := by decide +kernel
theorem dX6_drip_26 : decode cX6_drip 26 = .ok (.iload_n 3, 1) := by decide +kernel
theorem dX6_drip_27 : decode cX6_drip 27 = .ok (.dup2, 1) := by decide +kernel
theorem dX6_drip_28 : decode cX6_drip 28 = .ok (.iaload, 1) := by decide +kernel
theorem dX6_drip_29 : decode cX6_drip 29 = .ok (.iload_n 1, 1) := by decide +kernel
theorem dX6_drip_30 : decode cX6_drip 30 = .ok (.iadd, 1) := by decide +kernel
theorem dX6_drip_31 : decode cX6_drip 31 = .ok (.iastore, 1) := by decide +kernel
theorem dX6_drip_32 : decode cX6_drip 32 = .ok (.aload 4, 2) := by decide +kernel
theorem dX6_drip_34 : decode cX6_drip 34 = .ok (.getfield 118, 3) := by decide +kernel
theorem dX6_drip_37 : decode cX6_drip 37 = .ok (.iload_n 3, 1) := by decide +kernel
theorem dX6_drip_38 : decode cX6_drip 38 = .ok (.dup2, 1) := by decide +kernel
theorem dX6_drip_39 : decode cX6_drip 39 = .ok (.iaload, 1) := by decide +kernel
theorem dX6_drip_40 : decode cX6_drip 40 = .ok (.iload_n 1, 1) := by decide +kernel
theorem dX6_drip_41 : decode cX6_drip 41 = .ok (.iadd, 1) := by decide +kernel
theorem dX6_drip_42 : decode cX6_drip 42 = .ok (.iastore, 1) := by decide +kernel
theorem dX6_drip_43 : decode cX6_drip 43 = .ok (.aload 4, 2) := by decide +kernel
theorem dX6_drip_45 : decode cX6_drip 45 = .ok (.getfield 121, 3) := by decide +kernel
theorem dX6_drip_48 : decode cX6_drip 48 = .ok (.iload_n 3, 1) := by decide +kernel
theorem dX6_drip_49 : decode cX6_drip 49 = .ok (.dup2, 1) := by decide +kernel
theorem dX6_drip_50 : decode cX6_drip 50 = .ok (.iaload, 1) := by decide +kernel
theorem dX6_drip_51 : decode cX6_drip 51 = .ok (.iload_n 1, 1) := by decide +kernel
theorem dX6_drip_52 : decode cX6_drip 52 = .ok (.iadd, 1) := by decide +kernel
theorem dX6_drip_53 : decode cX6_drip 53 = .ok (.iastore, 1) := by decide +kernel
theorem dX6_drip_54 : decode cX6_drip 54 = .ok (.goto 14, 3) := by decide +kernel
theorem dX6_drip_57 : decode cX6_drip 57 = .ok (.aload 4, 2) := by decide +kernel
theorem dX6_drip_59 : decode cX6_drip 59 = .ok (.dup, 1) := by decide +kernel
theorem dX6_drip_60 : decode cX6_drip 60 = .ok (.getfield 104, 3) := by decide +kernel
theorem dX6_drip_63 : decode cX6_drip 63 = .ok (.iload_n 1, 1) := by decide +kernel
theorem dX6_drip_64 : decode cX6_drip 64 = .ok (.iadd, 1) := by decide +kernel
theorem dX6_drip_65 : decode cX6_drip 65 = .ok (.putfield 104, 3) := by decide +kernel
theorem dX6_drip_68 : decode cX6_drip 68 = .ok (.return_, 1) := by decide +kernel
theorem dX6_firstToBreak_0 : decode cX6_firstToBreak 0 = .ok (.iconst (-1), 1) := by decide +kernel
theorem dX6_firstToBreak_1 : decode cX6_firstToBreak 1 = .ok (.istore_n 3, 1) := by decide +kernel
theorem dX6_firstToBreak_2 : decode cX6_firstToBreak 2 = .ok (.iload_n 1, 1) := by decide +kernel
theorem dX6_firstToBreak_3 : decode cX6_firstToBreak 3 = .ok (.iconst 1, 1) := by decide +kernel
theorem dX6_firstToBreak_4 : decode cX6_firstToBreak 4 = .ok (.iadd, 1) := by decide +kernel
theorem dX6_firstToBreak_5 : decode cX6_firstToBreak 5 = .ok (.istore 4, 2) := by decide +kernel
theorem dX6_firstToBreak_7 : decode cX6_firstToBreak 7 = .ok (.iconst 0, 1) := by decide +kernel
theorem dX6_firstToBreak_8 : decode cX6_firstToBreak 8 = .ok (.istore 5, 2) := by decide +kernel
theorem dX6_firstToBreak_10 : decode cX6_firstToBreak 10 = .ok (.iload 5, 2) := by decide +kernel
theorem dX6_firstToBreak_12 : decode cX6_firstToBreak 12 = .ok (.aload_n 0, 1) := by decide +kernel
theorem dX6_firstToBreak_13 : decode cX6_firstToBreak 13 = .ok (.getfield 37, 3) := by decide +kernel
theorem dX6_firstToBreak_16 : decode cX6_firstToBreak 16 = .ok (.if_icmp .ge 32, 3) := by decide +kernel
theorem dX6_firstToBreak_19 : decode cX6_firstToBreak 19 = .ok (.aload_n 0, 1) := by decide +kernel
theorem dX6_firstToBreak_20 : decode cX6_firstToBreak 20 = .ok (.iload 5, 2) := by decide +kernel
theorem dX6_firstToBreak_22 : decode cX6_firstToBreak 22 = .ok (.aload_n 2, 1) := by decide +kernel
theorem dX6_firstToBreak_23 : decode cX6_firstToBreak 23 = .ok (.invokevirtual 72, 3) := by decide +kernel
theorem dX6_firstToBreak_26 : decode cX6_firstToBreak 26 = .ok (.istore 6, 2) := by decide +kernel
theorem dX6_firstToBreak_28 : decode cX6_firstToBreak 28 = .ok (.iload 6, 2) := by decide +kernel
theorem dX6_firstToBreak_30 : decode cX6_firstToBreak 30 = .ok (.iload 4, 2) := by decide +kernel
theorem dX6_firstToBreak_32 : decode cX6_firstToBreak 32 = .ok (.if_icmp .ge 10, 3) := by decide +kernel
theorem dX6_firstToBreak_35 : decode cX6_firstToBreak 35 = .ok (.iload 6, 2) := by decide +kernel
theorem dX6_firstToBreak_37 : decode cX6_firstToBreak 37 = .ok (.istore 4, 2) := by decide +kernel
theorem dX6_firstToBreak_39 : decode cX6_firstToBreak 39 = .ok (.iload 5, 2) := by decide +kernel
theorem dX6_firstToBreak_41 : decode cX6_firstToBreak 41 = .ok (.istore_n 3, 1) := by decide +kernel
theorem dX6_firstToBreak_42 : decode cX6_firstToBreak 42 = .ok (.iinc 5 1, 3) := by decide +kernel
theorem dX6_firstToBreak_45 : decode cX6_firstToBreak 45 = .ok (.goto (-35), 3) := by decide +kernel
theorem dX6_firstToBreak_48 : decode cX6_firstToBreak 48 = .ok (.iload_n 3, 1) := by decide +kernel
theorem dX6_firstToBreak_49 : decode cX6_firstToBreak 49 = .ok (.ireturn, 1) := by decide +kernel
theorem dX6_priceOfBroken_0 : decode cX6_priceOfBroken 0 = .ok (.iconst 0, 1) := by decide +kernel
theorem dX6_priceOfBroken_1 : decode cX6_priceOfBroken 1 = .ok (.istore_n 3, 1) := by decide +kernel
theorem dX6_priceOfBroken_2 : decode cX6_priceOfBroken 2 = .ok (.iconst 0, 1) := by decide +kernel
theorem dX6_priceOfBroken_3 : decode cX6_priceOfBroken 3 = .ok (.istore 4, 2) := by decide +kernel
theorem dX6_priceOfBroken_5 : decode cX6_priceOfBroken 5 = .ok (.iload 4, 2) := by decide +kernel
theorem dX6_priceOfBroken_7 : decode cX6_priceOfBroken 7 = .ok (.aload_n 0, 1) := by decide +kernel
theorem dX6_priceOfBroken_8 : decode cX6_priceOfBroken 8 = .ok (.getfield 37, 3) := by decide +kernel
theorem dX6_priceOfBroken_11 : decode cX6_priceOfBroken 11 = .ok (.if_icmp .ge 30, 3) := by decide +kernel
theorem dX6_priceOfBroken_14 : decode cX6_priceOfBroken 14 = .ok (.aload_n 0, 1) := by decide +kernel
theorem dX6_priceOfBroken_15 : decode cX6_priceOfBroken 15 = .ok (.iload 4, 2) := by decide +kernel
theorem dX6_priceOfBroken_17 : decode cX6_priceOfBroken 17 = .ok (.aload_n 2, 1) := by decide +kernel
theorem dX6_priceOfBroken_18 : decode cX6_priceOfBroken 18 = .ok (.invokevirtual 72, 3) := by decide +kernel
theorem dX6_priceOfBroken_21 : decode cX6_priceOfBroken 21 = .ok (.iload_n 1, 1) := by decide +kernel
theorem dX6_priceOfBroken_22 : decode cX6_priceOfBroken 22 = .ok (.if_icmp .gt 13, 3) := by decide +kernel
theorem dX6_priceOfBroken_25 : decode cX6_priceOfBroken 25 = .ok (.iload_n 3, 1) := by decide +kernel
theorem dX6_priceOfBroken_26 : decode cX6_priceOfBroken 26 = .ok (.aload_n 0, 1) := by decide +kernel
theorem dX6_priceOfBroken_27 : decode cX6_priceOfBroken 27 = .ok (.getfield 27, 3) := by decide +kernel
theorem dX6_priceOfBroken_30 : decode cX6_priceOfBroken 30 = .ok (.iload 4, 2) := by decide +kernel
theorem dX6_priceOfBroken_32 : decode cX6_priceOfBroken 32 = .ok (.iaload, 1) := by decide +kernel
theorem dX6_priceOfBroken_33 : decode cX6_priceOfBroken 33 = .ok (.iadd, 1) := by decide +kernel
theorem dX6_priceOfBroken_34 : decode cX6_priceOfBroken 34 = .ok (.istore_n 3, 1) := by decide +kernel
theorem dX6_priceOfBroken_35 : decode cX6_priceOfBroken 35 = .ok (.iinc 4 1, 3) := by decide +kernel
theorem dX6_priceOfBroken_38 : decode cX6_priceOfBroken 38 = .ok (.goto (-33), 3) := by decide +kernel
theorem dX6_priceOfBroken_41 : decode cX6_priceOfBroken 41 = .ok (.iload_n 3, 1) := by decide +kernel
theorem dX6_priceOfBroken_42 : decode cX6_priceOfBroken 42 = .ok (.ireturn, 1) := by decide +kernel
theorem dX6_setOfBroken_0 : decode cX6_setOfBroken 0 = .ok (.iconst 0, 1) := by decide +kernel
theorem dX6_setOfBroken_1 : decode cX6_setOfBroken 1 = .ok (.istore_n 3, 1) := by decide +kernel
theorem dX6_setOfBroken_2 : decode cX6_setOfBroken 2 = .ok (.iconst 0, 1) := by decide +kernel
theorem dX6_setOfBroken_3 : decode cX6_setOfBroken 3 = .ok (.istore 4, 2) := by decide +kernel
theorem dX6_setOfBroken_5 : decode cX6_setOfBroken 5 = .ok (.iload 4, 2) := by decide +kernel
theorem dX6_setOfBroken_7 : decode cX6_setOfBroken 7 = .ok (.aload_n 0, 1) := by decide +kernel
theorem dX6_setOfBroken_8 : decode cX6_setOfBroken 8 = .ok (.getfield 37, 3) := by decide +kernel
theorem dX6_setOfBroken_11 : decode cX6_setOfBroken 11 = .ok (.if_icmp .ge 27, 3) := by decide +kernel
theorem dX6_setOfBroken_14 : decode cX6_setOfBroken 14 = .ok (.aload_n 0, 1) := by decide +kernel
theorem dX6_setOfBroken_15 : decode cX6_setOfBroken 15 = .ok (.iload 4, 2) := by decide +kernel
theorem dX6_setOfBroken_17 : decode cX6_setOfBroken 17 = .ok (.aload_n 2, 1) := by decide +kernel
theorem dX6_setOfBroken_18 : decode cX6_setOfBroken 18 = .ok (.invokevirtual 72, 3) := by decide +kernel
theorem dX6_setOfBroken_21 : decode cX6_setOfBroken 21 = .ok (.iload_n 1, 1) := by decide +kernel
theorem dX6_setOfBroken_22 : decode cX6_setOfBroken 22 = .ok (.if_icmp .gt 10, 3) := by decide +kernel
theorem dX6_setOfBroken_25 : decode cX6_setOfBroken 25 = .ok (.iload_n 3, 1) := by decide +kernel
theorem dX6_setOfBroken_26 : decode cX6_setOfBroken 26 = .ok (.iconst 1, 1) := by decide +kernel
theorem dX6_setOfBroken_27 : decode cX6_setOfBroken 27 = .ok (.iload 4, 2) := by decide +kernel
theorem dX6_setOfBroken_29 : decode cX6_setOfBroken 29 = .ok (.ishl, 1) := by decide +kernel
theorem dX6_setOfBroken_30 : decode cX6_setOfBroken 30 = .ok (.ior, 1) := by decide +kernel
theorem dX6_setOfBroken_31 : decode cX6_setOfBroken 31 = .ok (.istore_n 3, 1) := by decide +kernel
theorem dX6_setOfBroken_32 : decode cX6_setOfBroken 32 = .ok (.iinc 4 1, 3) := by decide +kernel
theorem dX6_setOfBroken_35 : decode cX6_setOfBroken 35 = .ok (.goto (-30), 3) := by decide +kernel
theorem dX6_setOfBroken_38 : decode cX6_setOfBroken 38 = .ok (.iload_n 3, 1) := by decide +kernel
theorem dX6_setOfBroken_39 : decode cX6_setOfBroken 39 = .ok (.ireturn, 1) := by decide +kernel
theorem dX6_stepsToBreak_0 : decode cX6_stepsToBreak 0 = .ok (.aload_n 2, 1) := by decide +kernel
theorem dX6_stepsToBreak_1 : decode cX6_stepsToBreak 1 = .ok (.getfield 92, 3) := by decide +kernel
theorem dX6_stepsToBreak_4 : decode cX6_stepsToBreak 4 = .ok (.iload_n 1, 1) := by decide +kernel
theorem dX6_stepsToBreak_5 : decode cX6_stepsToBreak 5 = .ok (.iaload, 1) := by decide +kernel
theorem dX6_stepsToBreak_6 : decode cX6_stepsToBreak 6 = .ok (.istore_n 3, 1) := by decide +kernel
theorem dX6_stepsToBreak_7 : decode cX6_stepsToBreak 7 = .ok (.iload_n 3, 1) := by decide +kernel
theorem dX6_stepsToBreak_8 : decode cX6_stepsToBreak 8 = .ok (.ifCond .ne 5, 3) := by decide +kernel
theorem dX6_stepsToBreak_11 : decode cX6_stepsToBreak 11 = .ok (.iconst 0, 1) := by decide +kernel
theorem dX6_stepsToBreak_12 : decode cX6_stepsToBreak 12 = .ok (.ireturn, 1) := by decide +kernel
theorem dX6_stepsToBreak_13 : decode cX6_stepsToBreak 13 = .ok (.aload_n 0, 1) := by decide +kernel
theorem dX6_stepsToBreak_14 : decode cX6_stepsToBreak 14 = .ok (.getfield 24, 3) := by decide +kernel
theorem dX6_stepsToBreak_17 : decode cX6_stepsToBreak 17 = .ok (.iload_n 1, 1) := by decide +kernel
theorem dX6_stepsToBreak_18 : decode cX6_stepsToBreak 18 = .ok (.iaload, 1) := by decide +kernel
theorem dX6_stepsToBreak_19 : decode cX6_stepsToBreak 19 = .ok (.ifCond .le 23, 3) := by decide +kernel
theorem dX6_stepsToBreak_22 : decode cX6_stepsToBreak 22 = .ok (.iload_n 3, 1) := by decide +kernel
theorem dX6_stepsToBreak_23 : decode cX6_stepsToBreak 23 = .ok (.aload_n 0, 1) := by decide +kernel
theorem dX6_stepsToBreak_24 : decode cX6_stepsToBreak 24 = .ok (.getfield 24, 3) := by decide +kernel
theorem dX6_stepsToBreak_27 : decode cX6_stepsToBreak 27 = .ok (.iload_n 1, 1) := by decide +kernel
theorem dX6_stepsToBreak_28 : decode cX6_stepsToBreak 28 = .ok (.iaload, 1) := by decide +kernel
theorem dX6_stepsToBreak_29 : decode cX6_stepsToBreak 29 = .ok (.iadd, 1) := by decide +kernel
theorem dX6_stepsToBreak_30 : decode cX6_stepsToBreak 30 = .ok (.iconst 1, 1) := by decide +kernel
theorem dX6_stepsToBreak_31 : decode cX6_stepsToBreak 31 = .ok (.isub, 1) := by decide +kernel
theorem dX6_stepsToBreak_32 : decode cX6_stepsToBreak 32 = .ok (.aload_n 0, 1) := by decide +kernel
theorem dX6_stepsToBreak_33 : decode cX6_stepsToBreak 33 = .ok (.getfield 24, 3) := by decide +kernel
theorem dX6_stepsToBreak_36 : decode cX6_stepsToBreak 36 = .ok (.iload_n 1, 1) := by decide +kernel
theorem dX6_stepsToBreak_37 : decode cX6_stepsToBreak 37 = .ok (.iaload, 1) := by decide +kernel
theorem dX6_stepsToBreak_38 : decode cX6_stepsToBreak 38 = .ok (.idiv, 1) := by decide +kernel
theorem dX6_stepsToBreak_39 : decode cX6_stepsToBreak 39 = .ok (.goto 5, 3) := by decide +kernel
theorem dX6_stepsToBreak_42 : decode cX6_stepsToBreak 42 = .ok (.ldc 71, 2) := by decide +kernel
theorem dX6_stepsToBreak_44 : decode cX6_stepsToBreak 44 = .ok (.ireturn, 1) := by decide +kernel
theorem dX7_init_0 : decode cX7_init 0 = .ok (.aload_n 0, 1) := by decide +kernel
theorem dX7_init_1 : decode cX7_init 1 = .ok (.invokespecial 3, 3) := by decide +kernel
theorem dX7_init_4 : decode cX7_init 4 = .ok (.aload_n 0, 1) := by decide +kernel
theorem dX7_init_5 : decode cX7_init 5 = .ok (.bipush 24, 2) := by decide +kernel
theorem dX7_init_7 : decode cX7_init 7 = .ok (.newarray .int, 2) := by decide +kernel
theorem dX7_init_9 : decode cX7_init 9 = .ok (.putfield 9, 3) := by decide +kernel
theorem dX7_init_12 : decode cX7_init 12 = .ok (.aload_n 0, 1) := by decide +kernel
theorem dX7_init_13 : decode cX7_init 13 = .ok (.bipush 30, 2) := by decide +kernel
theorem dX7_init_15 : decode cX7_init 15 = .ok (.newarray .int, 2) := by decide +kernel
theorem dX7_init_17 : decode cX7_init 17 = .ok (.putfield 15, 3) := by decide +kernel
theorem dX7_init_20 : decode cX7_init 20 = .ok (.aload_n 0, 1) := by decide +kernel
theorem dX7_init_21 : decode cX7_init 21 = .ok (.bipush 30, 2) := by decide +kernel
theorem dX7_init_23 : decode cX7_init 23 = .ok (.newarray .int, 2) := by decide +kernel
theorem dX7_init_25 : decode cX7_init 25 = .ok (.putfield 18, 3) := by decide +kernel
theorem dX7_init_28 : decode cX7_init 28 = .ok (.aload_n 0, 1) := by decide +kernel
theorem dX7_init_29 : decode cX7_init 29 = .ok (.bipush 30, 2) := by decide +kernel
theorem dX7_init_31 : decode cX7_init 31 = .ok (.newarray .int, 2) := by decide +kernel
theorem dX7_init_33 : decode cX7_init 33 = .ok (.putfield 21, 3) := by decide +kernel
theorem dX7_init_36 : decode cX7_init 36 = .ok (.return_, 1) := by decide +kernel
theorem dX7_begin_0 : decode cX7_begin 0 = .ok (.aload_n 0, 1) := by decide +kernel
theorem dX7_begin_1 : decode cX7_begin 1 = .ok (.getfield 9, 3) := by decide +kernel
theorem dX7_begin_4 : decode cX7_begin 4 = .ok (.iconst (-1), 1) := by decide +kernel
theorem dX7_begin_5 : decode cX7_begin 5 = .ok (.invokestatic 24, 3) := by decide +kernel
theorem dX7_begin_8 : decode cX7_begin 8 = .ok (.aload_n 0, 1) := by decide +kernel
theorem dX7_begin_9 : decode cX7_begin 9 = .ok (.iconst 0, 1) := by decide +kernel
theorem dX7_begin_10 : decode cX7_begin 10 = .ok (.putfield 30, 3) := by decide +kernel
theorem dX7_begin_13 : decode cX7_begin 13 = .ok (.return_, 1) := by decide +kernel
theorem dX7_copyFrom_0 : decode cX7_copyFrom 0 = .ok (.aload_n 1, 1) := by decide +kernel
theorem dX7_copyFrom_1 : decode cX7_copyFrom 1 = .ok (.getfield 9, 3) := by decide +kernel
theorem dX7_copyFrom_4 : decode cX7_copyFrom 4 = .ok (.iconst 0, 1) := by decide +kernel
theorem dX7_copyFrom_5 : decode cX7_copyFrom 5 = .ok (.aload_n 0, 1) := by decide +kernel
theorem dX7_copyFrom_6 : decode cX7_copyFrom 6 = .ok (.getfield 9, 3) := by decide +kernel
theorem dX7_copyFrom_9 : decode cX7_copyFrom 9 = .ok (.iconst 0, 1) := by decide +kernel
theorem dX7_copyFrom_10 : decode cX7_copyFrom 10 = .ok (.bipush 24, 2) := by decide +kernel
theorem dX7_copyFrom_12 : decode cX7_copyFrom 12 = .ok (.invokestatic 34, 3) := by decide +kernel
theorem dX7_copyFrom_15 : decode cX7_copyFrom 15 = .ok (.aload_n 0, 1) := by decide +kernel
theorem dX7_copyFrom_16 : decode cX7_copyFrom 16 = .ok (.aload_n 1, 1) := by decide +kernel
theorem dX7_copyFrom_17 : decode cX7_copyFrom 17 = .ok (.getfield 30, 3) := by decide +kernel
theorem dX7_copyFrom_20 : decode cX7_copyFrom 20 = .ok (.putfield 30, 3) := by decide +kernel
theorem dX7_copyFrom_23 : decode cX7_copyFrom 23 = .ok (.aload_n 1, 1) := by decide +kernel
theorem dX7_copyFrom_24 : decode cX7_copyFrom 24 = .ok (.getfield 15, 3) := by decide +kernel
theorem dX7_copyFrom_27 : decode cX7_copyFrom 27 = .ok (.iconst 0, 1) := by decide +kernel
theorem dX7_copyFrom_28 : decode cX7_copyFrom 28 = .ok (.aload_n 0, 1) := by decide +kernel
theorem dX7_copyFrom_29 : decode cX7_copyFrom 29 = .ok (.getfield 15, 3) := by decide +kernel
theorem dX7_copyFrom_32 : decode cX7_copyFrom 32 = .ok (.iconst 0, 1) := by decide +kernel
theorem dX7_copyFrom_33 : decode cX7_copyFrom 33 = .ok (.bipush 30, 2) := by decide +kernel
theorem dX7_copyFrom_35 : decode cX7_copyFrom 35 = .ok (.invokestatic 34, 3) := by decide +kernel
theorem dX7_copyFrom_38 : decode cX7_copyFrom 38 = .ok (.aload_n 1, 1) := by decide +kernel
theorem dX7_copyFrom_39 : decode cX7_copyFrom 39 = .ok (.getfield 18, 3) := by decide +kernel
theorem dX7_copyFrom_42 : decode cX7_copyFrom 42 = .ok (.iconst 0, 1) := by decide +kernel
theorem dX7_copyFrom_43 : decode cX7_copyFrom 43 = .ok (.aload_n 0, 1) := by decide +kernel
theorem dX7_copyFrom_44 : decode cX7_copyFrom 44 = .ok (.getfield 18, 3) := by decide +kernel
theorem dX7_copyFrom_47 : decode cX7_copyFrom 47 = .ok (.iconst 0, 1) := by decide +kernel
theorem dX7_copyFrom_48 : decode cX7_copyFrom 48 = .ok (.bipush 30, 2) := by decide +kernel
theorem dX7_copyFrom_50 : decode cX7_copyFrom 50 = .ok (.invokestatic 34, 3) := by decide +kernel
theorem dX7_copyFrom_53 : decode cX7_copyFrom 53 = .ok (.aload_n 1, 1) := by decide +kernel
theorem dX7_copyFrom_54 : decode cX7_copyFrom 54 = .ok (.getfield 21, 3) := by decide +kernel
theorem dX7_copyFrom_57 : decode cX7_copyFrom 57 = .ok (.iconst 0, 1) := by decide +kernel
theorem dX7_copyFrom_58 : decode cX7_copyFrom 58 = .ok (.aload_n 0, 1) := by decide +kernel
theorem dX7_copyFrom_59 : decode cX7_copyFrom 59 = .ok (.getfield 21, 3) := by decide +kernel
theorem dX7_copyFrom_62 : decode cX7_copyFrom 62 = .ok (.iconst 0, 1) := by decide +kernel
theorem dX7_copyFrom_63 : decode cX7_copyFrom 63 = .ok (.bipush 30, 2) := by decide +kernel
theorem dX7_copyFrom_65 : decode cX7_copyFrom 65 = .ok (.invokestatic 34, 3) := by decide +kernel
theorem dX7_copyFrom_68 : decode cX7_copyFrom 68 = .ok (.return_, 1) := by decide +kernel
theorem dX7_excuse_0 : decode cX7_excuse 0 = .ok (.aload_n 0, 1) := by decide +kernel
theorem dX7_excuse_1 : decode cX7_excuse 1 = .ok (.getfield 30, 3) := by decide +kernel
theorem dX7_excuse_4 : decode cX7_excuse 4 = .ok (.bipush 30, 2) := by decide +kernel
theorem dX7_excuse_6 : decode cX7_excuse 6 = .ok (.if_icmp .ge 21, 3) := by decide +kernel
theorem dX7_excuse_9 : decode cX7_excuse 9 = .ok (.aload_n 0, 1) := by decide +kernel
theorem dX7_excuse_10 : decode cX7_excuse 10 = .ok (.iload_n 1, 1) := by decide +kernel
theorem dX7_excuse_11 : decode cX7_excuse 11 = .ok (.iload_n 2, 1) := by decide +kernel
theorem dX7_excuse_12 : decode cX7_excuse 12 = .ok (.invokevirtual 40, 3) := by decide +kernel
theorem dX7_excuse_15 : decode cX7_excuse 15 = .ok (.ifCond .ne 12, 3) := by decide +kernel
theorem dX7_excuse_18 : decode cX7_excuse 18 = .ok (.aload_n 0, 1) := by decide +kernel
theorem dX7_excuse_19 : decode cX7_excuse 19 = .ok (.iload_n 3, 1) := by decide +kernel
theorem dX7_excuse_20 : decode cX7_excuse 20 = .ok (.iload_n 2, 1) := by decide +kernel
theorem dX7_excuse_21 : decode cX7_excuse 21 = .ok (.invokevirtual 40, 3) := by decide +kernel
theorem dX7_excuse_24 : decode cX7_excuse 24 = .ok (.ifCond .eq 5, 3) := by decide +kernel
theorem dX7_excuse_27 : decode cX7_excuse 27 = .ok (.iconst 0, 1) := by decide +kernel
theorem dX7_excuse_28 : decode cX7_excuse 28 = .ok (.ireturn, 1) := by decide +kernel
theorem dX7_excuse_29 : decode cX7_excuse 29 = .ok (.aload_n 0, 1) := by decide +kernel
theorem dX7_excuse_30 : decode cX7_excuse 30 = .ok (.getfield 15, 3) := by decide +kernel
theorem dX7_excuse_33 : decode cX7_excuse 33 = .ok (.aload_n 0, 1) := by decide +kernel
theorem dX7_excuse_34 : decode cX7_excuse 34 = .ok (.getfield 30, 3) := by decide +kernel
theorem dX7_excuse_37 : decode cX7_excuse 37 = .ok (.iload_n 1, 1) := by decide +kernel
theorem dX7_excuse_38 : decode cX7_excuse 38 = .ok (.iastore, 1) := by decide +kernel
theorem dX7_excuse_39 : decode cX7_excuse 39 = .ok (.aload_n 0, 1) := by decide +kernel
theorem dX7_excuse_40 : decode cX7_excuse 40 = .ok (.getfield 18, 3) := by decide +kernel
theorem dX7_excuse_43 : decode cX7_excuse 43 = .ok (.aload_n 0, 1) := by decide +kernel
theorem dX7_excuse_44 : decode cX7_excuse 44 = .ok (.getfield 30, 3) := by decide +kernel
theorem dX7_excuse_47 : decode cX7_excuse 47 = .ok (.iload_n 2, 1) := by decide +kernel
theorem dX7_excuse_48 : decode cX7_excuse 48 = .ok (.iastore, 1) := by decide +kernel
theorem dX7_excuse_49 : decode cX7_excuse 49 = .ok (.aload_n 0, 1) := by decide +kernel
theorem dX7_excuse_50 : decode cX7_excuse 50 = .ok (.getfield 21, 3) := by decide +kernel
theorem dX7_excuse_53 : decode cX7_excuse 53 = .ok (.aload_n 0, 1) := by decide +kernel
theorem dX7_excuse_54 : decode cX7_excuse 54 = .ok (.getfield 30, 3) := by decide +kernel
theorem dX7_excuse_57 : decode cX7_excuse 57 = .ok (.iload_n 3, 1) := by decide +kernel
theorem dX7_excuse_58 : decode cX7_excuse 58 = .ok (.iastore, 1) := by decide +kernel
theorem dX7_excuse_59 : decode cX7_excuse 59 = .ok (.aload_n 0, 1) := by decide +kernel
theorem dX7_excuse_60 : decode cX7_excuse 60 = .ok (.dup, 1) := by decide +kernel
theorem dX7_excuse_61 : decode cX7_excuse 61 = .ok (.getfield 30, 3) := by decide +kernel
theorem dX7_excuse_64 : decode cX7_excuse 64 = .ok (.iconst 1, 1) := by decide +kernel
theorem dX7_excuse_65 : decode cX7_excuse 65 = .ok (.iadd, 1) := by decide +kernel
theorem dX7_excuse_66 : decode cX7_excuse 66 = .ok (.putfield 30, 3) := by decide +kernel
theorem dX7_excuse_69 : decode cX7_excuse 69 = .ok (.iconst 1, 1) := by decide +kernel
theorem dX7_excuse_70 : decode cX7_excuse 70 = .ok (.ireturn, 1) := by decide +kernel
theorem dX7_isBound_0 : decode cX7_isBound 0 = .ok (.iconst 0, 1) := by decide +kernel
theorem dX7_isBound_1 : decode cX7_isBound 1 = .ok (.istore_n 3, 1) := by decide +kernel
theorem dX7_isBound_2 : decode cX7_isBound 2 = .ok (.iload_n 3, 1) := by decide +kernel
theorem dX7_isBound_3 : decode cX7_isBound 3 = .ok (.aload_n 0, 1) := by decide +kernel
theorem dX7_isBound_4 : decode cX7_isBound 4 = .ok (.getfield 30, 3) := by decide +kernel
theorem dX7_isBound_7 : decode cX7_isBound 7 = .ok (.if_icmp .ge 41, 3) := by decide +kernel
theorem dX7_isBound_10 : decode cX7_isBound 10 = .ok (.aload_n 0, 1) := by decide +kernel
theorem dX7_isBound_11 : decode cX7_isBound 11 = .ok (.getfield 18, 3) := by decide +kernel
theorem dX7_isBound_14 : decode cX7_isBound 14 = .ok (.iload_n 3, 1) := by decide +kernel
theorem dX7_isBound_15 : decode cX7_isBound 15 = .ok (.iaload, 1) := by decide +kernel
theorem dX7_isBound_16 : decode cX7_isBound 16 = .ok (.iload_n 2, 1) := by decide +kernel
theorem dX7_isBound_17 : decode cX7_isBound 17 = .ok (.if_icmp .ne 25, 3) := by decide +kernel
theorem dX7_isBound_20 : decode cX7_isBound 20 = .ok (.aload_n 0, 1) := by decide +kernel
theorem dX7_isBound_21 : decode cX7_isBound 21 = .ok (.getfield 15, 3) := by decide +kernel
theorem dX7_isBound_24 : decode cX7_isBound 24 = .ok (.iload_n 3, 1) := by decide +kernel
theorem dX7_isBound_25 : decode cX7_isBound 25 = .ok (.iaload, 1) := by decide +kernel
theorem dX7_isBound_26 : decode cX7_isBound 26 = .ok (.iload_n 1, 1) := by decide +kernel
theorem dX7_isBound_27 : decode cX7_isBound 27 = .ok (.if_icmp .eq 13, 3) := by decide +kernel
theorem dX7_isBound_30 : decode cX7_isBound 30 = .ok (.aload_n 0, 1) := by decide +kernel
theorem dX7_isBound_31 : decode cX7_isBound 31 = .ok (.getfield 21, 3) := by decide +kernel
theorem dX7_isBound_34 : decode cX7_isBound 34 = .ok (.iload_n 3, 1) := by decide +kernel
theorem dX7_isBound_35 : decode cX7_isBound 35 = .ok (.iaload, 1) := by decide +kernel
theorem dX7_isBound_36 : decode cX7_isBound 36 = .ok (.iload_n 1, 1) := by decide +kernel
theorem dX7_isBound_37 : decode cX7_isBound 37 = .ok (.if_icmp .ne 5, 3) := by decide +kernel
theorem dX7_isBound_40 : decode cX7_isBound 40 = .ok (.iconst 1, 1) := by decide +kernel
theorem dX7_isBound_41 : decode cX7_isBound 41 = .ok (.ireturn, 1) := by decide +kernel
theorem dX7_isBound_42 : decode cX7_isBound 42 = .ok (.iinc 3 1, 3) := by decide +kernel
theorem dX7_isBound_45 : decode cX7_isBound 45 = .ok (.goto (-43), 3) := by decide +kernel
theorem dX7_isBound_48 : decode cX7_isBound 48 = .ok (.iconst 0, 1) := by decide +kernel
theorem dX7_isBound_49 : decode cX7_isBound 49 = .ok (.ireturn, 1) := by decide +kernel
theorem dX7_pullerFor_0 : decode cX7_pullerFor 0 = .ok (.iconst 0, 1) := by decide +kernel
theorem dX7_pullerFor_1 : decode cX7_pullerFor 1 = .ok (.istore_n 3, 1) := by decide +kernel
theorem dX7_pullerFor_2 : decode cX7_pullerFor 2 = .ok (.iload_n 3, 1) := by decide +kernel
theorem dX7_pullerFor_3 : decode cX7_pullerFor 3 = .ok (.aload_n 0, 1) := by decide +kernel
theorem dX7_pullerFor_4 : decode cX7_pullerFor 4 = .ok (.getfield 30, 3) := by decide +kernel
theorem dX7_pullerFor_7 : decode cX7_pullerFor 7 = .ok (.if_icmp .ge 36, 3) := by decide +kernel
theorem dX7_pullerFor_10 : decode cX7_pullerFor 10 = .ok (.aload_n 0, 1) := by decide +kernel
theorem dX7_pullerFor_11 : decode cX7_pullerFor 11 = .ok (.getfield 18, 3) := by decide +kernel
theorem dX7_pullerFor_14 : decode cX7_pullerFor 14 = .ok (.iload_n 3, 1) := by decide +kernel
theorem dX7_pullerFor_15 : decode cX7_pullerFor 15 = .ok (.iaload, 1) := by decide +kernel
theorem dX7_pullerFor_16 : decode cX7_pullerFor 16 = .ok (.iload_n 2, 1) := by decide +kernel
theorem dX7_pullerFor_17 : decode cX7_pullerFor 17 = .ok (.if_icmp .ne 20, 3) := by decide +kernel
theorem dX7_pullerFor_20 : decode cX7_pullerFor 20 = .ok (.aload_n 0, 1) := by decide +kernel
theorem dX7_pullerFor_21 : decode cX7_pullerFor 21 = .ok (.getfield 15, 3) := by decide +kernel
theorem dX7_pullerFor_24 : decode cX7_pullerFor 24 = .ok (.iload_n 3, 1) := by decide +kernel
theorem dX7_pullerFor_25 : decode cX7_pullerFor 25 = .ok (.iaload, 1) := by decide +kernel
theorem dX7_pullerFor_26 : decode cX7_pullerFor 26 = .ok (.iload_n 1, 1) := by decide +kernel
theorem dX7_pullerFor_27 : decode cX7_pullerFor 27 = .ok (.if_icmp .ne 10, 3) := by decide +kernel
theorem dX7_pullerFor_30 : decode cX7_pullerFor 30 = .ok (.aload_n 0, 1) := by decide +kernel
theorem dX7_pullerFor_31 : decode cX7_pullerFor 31 = .ok (.getfield 21, 3) := by decide +kernel
theorem dX7_pullerFor_34 : decode cX7_pullerFor 34 = .ok (.iload_n 3, 1) := by decide +kernel
theorem dX7_pullerFor_35 : decode cX7_pullerFor 35 = .ok (.iaload, 1) := by decide +kernel
theorem dX7_pullerFor_36 : decode cX7_pullerFor 36 = .ok (.ireturn, 1) := by decide +kernel
theorem dX7_pullerFor_37 : decode cX7_pullerFor 37 = .ok (.iinc 3 1, 3) := by decide +kernel
theorem dX7_pullerFor_40 : decode cX7_pullerFor 40 = .ok (.goto (-38), 3) := by decide +kernel
theorem dX7_pullerFor_43 : decode cX7_pullerFor 43 = .ok (.iload_n 1, 1) := by decide +kernel
theorem dX7_pullerFor_44 : decode cX7_pullerFor 44 = .ok (.ireturn, 1) := by decide +kernel
theorem dX8_init_0 : decode cX8_init 0 = .ok (.aload_n 0, 1) := by decide +kernel
theorem dX8_init_1 : decode cX8_init 1 = .ok (.invokespecial 1, 3) := by decide +kernel
theorem dX8_init_4 : decode cX8_init 4 = .ok (.aload_n 0, 1) := by decide +kernel
theorem dX8_init_5 : decode cX8_init 5 = .ok (.sipush 400, 3) := by decide +kernel
theorem dX8_init_8 : decode cX8_init 8 = .ok (.newarray .int, 2) := by decide +kernel
theorem dX8_init_10 : decode cX8_init 10 = .ok (.putfield 9, 3) := by decide +kernel
theorem dX8_init_13 : decode cX8_init 13 = .ok (.aload_n 0, 1) := by decide +kernel
theorem dX8_init_14 : decode cX8_init 14 = .ok (.sipush 401, 3) := by decide +kernel
theorem dX8_init_17 : decode cX8_init 17 = .ok (.newarray .int, 2) := by decide +kernel
theorem dX8_init_19 : decode cX8_init 19 = .ok (.putfield 13, 3) := by decide +kernel
theorem dX8_init_22 : decode cX8_init 22 = .ok (.aload_n 0, 1) := by decide +kernel
theorem dX8_init_23 : decode cX8_init 23 = .ok (.sipush 401, 3) := by decide +kernel
theorem dX8_init_26 : decode cX8_init 26 = .ok (.newarray .int, 2) := by decide +kernel
theorem dX8_init_28 : decode cX8_init 28 = .ok (.putfield 16, 3) := by decide +kernel
theorem dX8_init_31 : decode cX8_init 31 = .ok (.return_, 1) := by decide +kernel
theorem dX8_hasRoom_0 : decode cX8_hasRoom 0 = .ok (.aload_n 0, 1) := by decide +kernel
theorem dX8_hasRoom_1 : decode cX8_hasRoom 1 = .ok (.getfield 19, 3) := by decide +kernel
theorem dX8_hasRoom_4 : decode cX8_hasRoom 4 = .ok (.bipush 20, 2) := by decide +kernel
theorem dX8_hasRoom_6 : decode cX8_hasRoom 6 = .ok (.iadd, 1) := by decide +kernel
theorem dX8_hasRoom_7 : decode cX8_hasRoom 7 = .ok (.sipush 400, 3) := by decide +kernel
theorem dX8_hasRoom_10 : decode cX8_hasRoom 10 = .ok (.if_icmp .gt 7, 3) := by decide +kernel
theorem dX8_hasRoom_13 : decode cX8_hasRoom 13 = .ok (.iconst 1, 1) := by decide +kernel
theorem dX8_hasRoom_14 : decode cX8_hasRoom 14 = .ok (.goto 4, 3) := by decide +kernel
theorem dX8_hasRoom_17 : decode cX8_hasRoom 17 = .ok (.iconst 0, 1) := by decide +kernel
theorem dX8_hasRoom_18 : decode cX8_hasRoom 18 = .ok (.ireturn, 1) := by decide +kernel
theorem dX8_add_0 : decode cX8_add 0 = .ok (.bipush 24, 2) := by decide +kernel
theorem dX8_add_2 : decode cX8_add 2 = .ok (.istore_n 2, 1) := by decide +kernel
theorem dX8_add_3 : decode cX8_add 3 = .ok (.iload_n 2, 1) := by decide +kernel
theorem dX8_add_4 : decode cX8_add 4 = .ok (.ifCond .lt 45, 3) := by decide +kernel
theorem dX8_add_7 : decode cX8_add 7 = .ok (.aload_n 0, 1) := by decide +kernel
theorem dX8_add_8 : decode cX8_add 8 = .ok (.getfield 19, 3) := by decide +kernel
theorem dX8_add_11 : decode cX8_add 11 = .ok (.sipush 400, 3) := by decide +kernel
theorem dX8_add_14 : decode cX8_add 14 = .ok (.if_icmp .ge 29, 3) := by decide +kernel
theorem dX8_add_17 : decode cX8_add 17 = .ok (.aload_n 0, 1) := by decide +kernel
theorem dX8_add_18 : decode cX8_add 18 = .ok (.getfield 9, 3) := by decide +kernel
theorem dX8_add_21 : decode cX8_add 21 = .ok (.aload_n 0, 1) := by decide +kernel
theorem dX8_add_22 : decode cX8_add 22 = .ok (.getfield 19, 3) := by decide +kernel
theorem dX8_add_25 : decode cX8_add 25 = .ok (.iload_n 1, 1) := by decide +kernel
theorem dX8_add_26 : decode cX8_add 26 = .ok (.iload_n 2, 1) := by decide +kernel
theorem dX8_add_27 : decode cX8_add 27 = .ok (.iushr, 1) := by decide +kernel
theorem dX8_add_28 : decode cX8_add 28 = .ok (.sipush 255, 3) := by decide +kernel
theorem dX8_add_31 : decode cX8_add 31 = .ok (.iand, 1) := by decide +kernel
theorem dX8_add_32 : decode cX8_add 32 = .ok (.iastore, 1) := by decide +kernel
theorem dX8_add_33 : decode cX8_add 33 = .ok (.aload_n 0, 1) := by decide +kernel
theorem dX8_add_34 : decode cX8_add 34 = .ok (.dup, 1) := by decide +kernel
theorem dX8_add_35 : decode cX8_add 35 = .ok (.getfield 19, 3) := by decide +kernel
theorem dX8_add_38 : decode cX8_add 38 = .ok (.iconst 1, 1) := by decide +kernel
theorem dX8_add_39 : decode cX8_add 39 = .ok (.iadd, 1) := by decide +kernel
theorem dX8_add_40 : decode cX8_add 40 = .ok (.putfield 19, 3) := by decide +kernel
theorem dX8_add_43 : decode cX8_add 43 = .ok (.iinc 2 (-8), 3) := by decide +kernel
theorem dX8_add_46 : decode cX8_add 46 = .ok (.goto (-43), 3) := by decide +kernel
theorem dX8_add_49 : decode cX8_add 49 = .ok (.return_, 1) := by decide +kernel
theorem dX8_signAt_0 : decode cX8_signAt 0 = .ok (.iload_n 1, 1) := by decide +kernel
theorem dX8_signAt_1 : decode cX8_signAt 1 = .ok (.iconst 0, 1) := by decide +kernel
theorem dX8_signAt_2 : decode cX8_signAt 2 = .ok (.aload_n 0, 1) := by decide +kernel
theorem dX8_signAt_3 : decode cX8_signAt 3 = .ok (.getfield 19, 3) := by decide +kernel
theorem dX8_signAt_6 : decode cX8_signAt 6 = .ok (.sipush 400, 3) := by decide +kernel
theorem dX8_signAt_9 : decode cX8_signAt 9 = .ok (.invokestatic 23, 3) := by decide +kernel
theorem dX8_signAt_12 : decode cX8_signAt 12 = .ok (.iconst 1, 1) := by decide +kernel
theorem dX8_signAt_13 : decode cX8_signAt 13 = .ok (.isub, 1) := by decide +kernel
theorem dX8_signAt_14 : decode cX8_signAt 14 = .ok (.invokestatic 29, 3) := by decide +kernel
theorem dX8_signAt_17 : decode cX8_signAt 17 = .ok (.ifCond .eq 12, 3) := by decide +kernel
theorem dX8_signAt_20 : decode cX8_signAt 20 = .ok (.aload_n 0, 1) := by decide +kernel
theorem dX8_signAt_21 : decode cX8_signAt 21 = .ok (.getfield 9, 3) := by decide +kernel
theorem dX8_signAt_24 : decode cX8_signAt 24 = .ok (.iload_n 1, 1) := by decide +kernel
theorem dX8_signAt_25 : decode cX8_signAt 25 = .ok (.iaload, 1) := by decide +kernel
theorem dX8_signAt_26 : decode cX8_signAt 26 = .ok (.goto 4, 3) := by decide +kernel
theorem dX8_signAt_29 : decode cX8_signAt 29 = .ok (.iconst 0, 1) := by decide +kernel
theorem dX8_signAt_30 : decode cX8_signAt 30 = .ok (.ireturn, 1) := by decide +kernel
theorem dX8_scan_0 : decode cX8_scan 0 = .ok (.aload_n 0, 1) := by decide +kernel
theorem dX8_scan_1 : decode cX8_scan 1 = .ok (.iconst 0, 1) := by decide +kernel
theorem dX8_scan_2 : decode cX8_scan 2 = .ok (.putfield 35, 3) := by decide +kernel
theorem dX8_scan_5 : decode cX8_scan 5 = .ok (.aload_n 0, 1) := by decide +kernel
theorem dX8_scan_6 : decode cX8_scan 6 = .ok (.iconst 0, 1) := by decide +kernel
theorem dX8_scan_7 : decode cX8_scan 7 = .ok (.putfield 38, 3) := by decide +kernel
theorem dX8_scan_10 : decode cX8_scan 10 = .ok (.iconst 0, 1) := by decide +kernel
theorem dX8_scan_11 : decode cX8_scan 11 = .ok (.istore_n 1, 1) := by decide +kernel
theorem dX8_scan_12 : decode cX8_scan 12 = .ok (.iload_n 1, 1) := by decide +kernel
theorem dX8_scan_13 : decode cX8_scan 13 = .ok (.sipush 400, 3) := by decide +kernel
theorem dX8_scan_16 : decode cX8_scan 16 = .ok (.if_icmp .ge 91, 3) := by decide +kernel
theorem dX8_scan_19 : decode cX8_scan 19 = .ok (.aload_n 0, 1) := by decide +kernel
theorem dX8_scan_20 : decode cX8_scan 20 = .ok (.getfield 38, 3) := by decide +kernel
theorem dX8_scan_23 : decode cX8_scan 23 = .ok (.aload_n 0, 1) := by decide +kernel
theorem dX8_scan_24 : decode cX8_scan 24 = .ok (.getfield 19, 3) := by decide +kernel
theorem dX8_scan_27 : decode cX8_scan 27 = .ok (.if_icmp .ge 80, 3) := by decide +kernel
theorem dX8_scan_30 : decode cX8_scan 30 = .ok (.aload_n 0, 1) := by decide +kernel
theorem dX8_scan_31 : decode cX8_scan 31 = .ok (.aload_n 0, 1) := by decide +kernel
theorem dX8_scan_32 : decode cX8_scan 32 = .ok (.getfield 38, 3) := by decide +kernel
theorem dX8_scan_35 : decode cX8_scan 35 = .ok (.invokevirtual 41, 3) := by decide +kernel
theorem dX8_scan_38 : decode cX8_scan 38 = .ok (.istore_n 2, 1) := by decide +kernel
theorem dX8_scan_39 : decode cX8_scan 39 = .ok (.iload_n 2, 1) := by decide +kernel
theorem dX8_scan_40 : decode cX8_scan 40 = .ok (.bipush 32, 2) := by decide +kernel
theorem dX8_scan_42 : decode cX8_scan 42 = .ok (.if_icmp .eq 9, 3) := by decide +kernel
theorem dX8_scan_45 : decode cX8_scan 45 = .ok (.iload_n 2, 1) := by decide +kernel
theorem dX8_scan_46 : decode cX8_scan 46 = .ok (.bipush 10, 2) := by decide +kernel
theorem dX8_scan_48 : decode cX8_scan 48 = .ok (.if_icmp .ne 16, 3) := by decide +kernel
theorem dX8_scan_51 : decode cX8_scan 51 = .ok (.aload_n 0, 1) := by decide +kernel
theorem dX8_scan_52 : decode cX8_scan 52 = .ok (.dup, 1) := by decide +kernel
theorem dX8_scan_53 : decode cX8_scan 53 = .ok (.getfield 38, 3) := by decide +kernel
theorem dX8_scan_56 : decode cX8_scan 56 = .ok (.iconst 1, 1) := by decide +kernel
theorem dX8_scan_57 : decode cX8_scan 57 = .ok (.iadd, 1) := by decide +kernel
theorem dX8_scan_58 : decode cX8_scan 58 = .ok (.putfield 38, 3) := by decide +kernel
theorem dX8_scan_61 : decode cX8_scan 61 = .ok (.goto 40, 3) := by decide +kernel
theorem dX8_scan_64 : decode cX8_scan 64 = .ok (.aload_n 0, 1) := by decide +kernel
theorem dX8_scan_65 : decode cX8_scan 65 = .ok (.getfield 16, 3) := by decide +kernel
theorem dX8_scan_68 : decode cX8_scan 68 = .ok (.aload_n 0, 1) := by decide +kernel
theorem dX8_scan_69 : decode cX8_scan 69 = .ok (.getfield 35, 3) := by decide +kernel
theorem dX8_scan_72 : decode cX8_scan 72 = .ok (.aload_n 0, 1) := by decide +kernel
theorem dX8_scan_73 : decode cX8_scan 73 = .ok (.getfield 38, 3) := by decide +kernel
theorem dX8_scan_76 : decode cX8_scan 76 = .ok (.iastore, 1) := by decide +kernel
theorem dX8_scan_77 : decode cX8_scan 77 = .ok (.aload_n 0, 1) := by decide +kernel
theorem dX8_scan_78 : decode cX8_scan 78 = .ok (.getfield 13, 3) := by decide +kernel
theorem dX8_scan_81 : decode cX8_scan 81 = .ok (.aload_n 0, 1) := by decide +kernel
theorem dX8_scan_82 : decode cX8_scan 82 = .ok (.getfield 35, 3) := by decide +kernel
theorem dX8_scan_85 : decode cX8_scan 85 = .ok (.aload_n 0, 1) := by decide +kernel
theorem dX8_scan_86 : decode cX8_scan 86 = .ok (.iload_n 2, 1) := by decide +kernel
theorem dX8_scan_87 : decode cX8_scan 87 = .ok (.invokevirtual 45, 3) := by decide +kernel
theorem dX8_scan_90 : decode cX8_scan 90 = .ok (.iastore, 1) := by decide +kernel
theorem dX8_scan_91 : decode cX8_scan 91 = .ok (.aload_n 0, 1) := by decide +kernel
theorem dX8_scan_92 : decode cX8_scan 92 = .ok (.dup, 1) := by decide +kernel
theorem dX8_scan_93 : decode cX8_scan 93 = .ok (.getfield 35, 3) := by decide +kernel
theorem dX8_scan_96 : decode cX8_scan 96 = .ok (.iconst 1, 1) := by decide +kernel
theorem dX8_scan_97 : decode cX8_scan 97 = .ok (.iadd, 1) := by decide +kernel
theorem dX8_scan_98 : decode cX8_scan 98 = .ok (.putfield 35, 3) := by decide +kernel
theorem dX8_scan_101 : decode cX8_scan 101 = .ok (.iinc 1 1, 3) := by decide +kernel
theorem dX8_scan_104 : decode cX8_scan 104 = .ok (.goto (-92), 3) := by decide +kernel
theorem dX8_scan_107 : decode cX8_scan 107 = .ok (.aload_n 0, 1) := by decide +kernel
theorem dX8_scan_108 : decode cX8_scan 108 = .ok (.getfield 16, 3) := by decide +kernel
theorem dX8_scan_111 : decode cX8_scan 111 = .ok (.aload_n 0, 1) := by decide +kernel
theorem dX8_scan_112 : decode cX8_scan 112 = .ok (.getfield 35, 3) := by decide +kernel
theorem dX8_scan_115 : decode cX8_scan 115 = .ok (.aload_n 0, 1) := by decide +kernel
theorem dX8_scan_116 : decode cX8_scan 116 = .ok (.getfield 19, 3) := by decide +kernel
theorem dX8_scan_119 : decode cX8_scan 119 = .ok (.iastore, 1) := by decide +kernel
theorem dX8_scan_120 : decode cX8_scan 120 = .ok (.aload_n 0, 1) := by decide +kernel
theorem dX8_scan_121 : decode cX8_scan 121 = .ok (.getfield 13, 3) := by decide +kernel
theorem dX8_scan_124 : decode cX8_scan 124 = .ok (.aload_n 0, 1) := by decide +kernel
theorem dX8_scan_125 : decode cX8_scan 125 = .ok (.getfield 35, 3) := by decide +kernel
theorem dX8_scan_128 : decode cX8_scan 128 = .ok (.bipush (-2), 2) := by decide +kernel
theorem dX8_scan_130 : decode cX8_scan 130 = .ok (.iastore, 1) := by decide +kernel
theorem dX8_scan_131 : decode cX8_scan 131 = .ok (.aload_n 0, 1) := by decide +kernel
theorem dX8_scan_132 : decode cX8_scan 132 = .ok (.dup, 1) := by decide +kernel
theorem dX8_scan_133 : decode cX8_scan 133 = .ok (.getfield 35, 3) := by decide +kernel
theorem dX8_scan_136 : decode cX8_scan 136 = .ok (.iconst 1, 1) := by decide +kernel
theorem dX8_scan_137 : decode cX8_scan 137 = .ok (.iadd, 1) := by decide +kernel
theorem dX8_scan_138 : decode cX8_scan 138 = .ok (.putfield 35, 3) := by decide +kernel
theorem dX8_scan_141 : decode cX8_scan 141 = .ok (.return_, 1) := by decide +kernel
theorem dX8_scanToken_0 : decode cX8_scanToken 0 = .ok (.iload_n 1, 1) := by decide +kernel
theorem dX8_scanToken_1 : decode cX8_scanToken 1 = .ok (.invokestatic 48, 3) := by decide +kernel
theorem dX8_scanToken_4 : decode cX8_scanToken 4 = .ok (.ifCond .eq 8, 3) := by decide +kernel
theorem dX8_scanToken_7 : decode cX8_scanToken 7 = .ok (.aload_n 0, 1) := by decide +kernel
theorem dX8_scanToken_8 : decode cX8_scanToken 8 = .ok (.invokevirtual 52, 3) := by decide +kernel
theorem dX8_scanToken_11 : decode cX8_scanToken 11 = .ok (.ireturn, 1) := by decide +kernel
theorem dX8_scanToken_12 : decode cX8_scanToken 12 = .ok (.iload_n 1, 1) := by decide +kernel
theorem dX8_scanToken_13 : decode cX8_scanToken 13 = .ok (.invokestatic 56, 3) := by decide +kernel
theorem dX8_scanToken_16 : decode cX8_scanToken 16 = .ok (.ifCond .eq 8, 3) := by decide +kernel
theorem dX8_scanToken_19 : decode cX8_scanToken 19 = .ok (.aload_n 0, 1) := by decide +kernel
theorem dX8_scanToken_20 : decode cX8_scanToken 20 = .ok (.invokevirtual 59, 3) := by decide +kernel
theorem dX8_scanToken_23 : decode cX8_scanToken 23 = .ok (.ireturn, 1) := by decide +kernel
theorem dX8_scanToken_24 : decode cX8_scanToken 24 = .ok (.aload_n 0, 1) := by decide +kernel
theorem dX8_scanToken_25 : decode cX8_scanToken 25 = .ok (.dup, 1) := by decide +kernel
theorem dX8_scanToken_26 : decode cX8_scanToken 26 = .ok (.getfield 38, 3) := by decide +kernel
theorem dX8_scanToken_29 : decode cX8_scanToken 29 = .ok (.iconst 1, 1) := by decide +kernel
theorem dX8_scanToken_30 : decode cX8_scanToken 30 = .ok (.iadd, 1) := by decide +kernel
theorem dX8_scanToken_31 : decode cX8_scanToken 31 = .ok (.putfield 38, 3) := by decide +kernel
theorem dX8_scanToken_34 : decode cX8_scanToken 34 = .ok (.ldc 62, 2) := by decide +kernel
theorem dX8_scanToken_36 : decode cX8_scanToken 36 = .ok (.iload_n 1, 1) := by decide +kernel
theorem dX8_scanToken_37 : decode cX8_scanToken 37 = .ok (.i2c, 1) := by decide +kernel
theorem dX8_scanToken_38 : decode cX8_scanToken 38 = .ok (.invokevirtual 64, 3) := by decide +kernel
theorem dX8_scanToken_41 : decode cX8_scanToken 41 = .ok (.ifCond .lt 8, 3) := by decide +kernel
theorem dX8_scanToken_44 : decode cX8_scanToken 44 = .ok (.iload_n 1, 1) := by decide +kernel
theorem dX8_scanToken_45 : decode cX8_scanToken 45 = .ok (.ineg, 1) := by decide +kernel
theorem dX8_scanToken_46 : decode cX8_scanToken 46 = .ok (.goto 4, 3) := by decide +kernel
theorem dX8_scanToken_49 : decode cX8_scanToken 49 = .ok (.iconst (-1), 1) := by decide +kernel
theorem dX8_scanToken_50 : decode cX8_scanToken 50 = .ok (.ireturn, 1) := by decide +kernel
theorem dX8_scanWord_0 : decode cX8_scanWord 0 = .ok (.aload_n 0, 1) := by decide +kernel
theorem dX8_scanWord_1 : decode cX8_scanWord 1 = .ok (.getfield 38, 3) := by decide +kernel
theorem dX8_scanWord_4 : decode cX8_scanWord 4 = .ok (.istore_n 1, 1) := by decide +kernel
theorem dX8_scanWord_5 : decode cX8_scanWord 5 = .ok (.aload_n 0, 1) := by decide +kernel
theorem dX8_scanWord_6 : decode cX8_scanWord 6 = .ok (.getfield 38, 3) := by decide +kernel
theorem dX8_scanWord_9 : decode cX8_scanWord 9 = .ok (.aload_n 0, 1) := by decide +kernel
theorem dX8_scanWord_10 : decode cX8_scanWord 10 = .ok (.getfield 19, 3) := by decide +kernel
theorem dX8_scanWord_13 : decode cX8_scanWord 13 = .ok (.if_icmp .ge 30, 3) := by decide +kernel
theorem dX8_scanWord_16 : decode cX8_scanWord 16 = .ok (.aload_n 0, 1) := by decide +kernel
theorem dX8_scanWord_17 : decode cX8_scanWord 17 = .ok (.aload_n 0, 1) := by decide +kernel
theorem dX8_scanWord_18 : decode cX8_scanWord 18 = .ok (.getfield 38, 3) := by decide +kernel
theorem dX8_scanWord_21 : decode cX8_scanWord 21 = .ok (.invokevirtual 41, 3) := by decide +kernel
theorem dX8_scanWord_24 : decode cX8_scanWord 24 = .ok (.invokestatic 48, 3) := by decide +kernel
theorem dX8_scanWord_27 : decode cX8_scanWord 27 = .ok (.ifCond .eq 16, 3) := by decide +kernel
theorem dX8_scanWord_30 : decode cX8_scanWord 30 = .ok (.aload_n 0, 1) := by decide +kernel
theorem dX8_scanWord_31 : decode cX8_scanWord 31 = .ok (.dup, 1) := by decide +kernel
theorem dX8_scanWord_32 : decode cX8_scanWord 32 = .ok (.getfield 38, 3) := by decide +kernel
theorem dX8_scanWord_35 : decode cX8_scanWord 35 = .ok (.iconst 1, 1) := by decide +kernel
theorem dX8_scanWord_36 : decode cX8_scanWord 36 = .ok (.iadd, 1) := by decide +kernel
theorem dX8_scanWord_37 : decode cX8_scanWord 37 = .ok (.putfield 38, 3) := by decide +kernel
theorem dX8_scanWord_40 : decode cX8_scanWord 40 = .ok (.goto (-35), 3) := by decide +kernel
theorem dX8_scanWord_43 : decode cX8_scanWord 43 = .ok (.sipush (-300), 3) := by decide +kernel
theorem dX8_scanWord_46 : decode cX8_scanWord 46 = .ok (.istore_n 2, 1) := by decide +kernel
theorem dX8_scanWord_47 : decode cX8_scanWord 47 = .ok (.iconst 0, 1) := by decide +kernel
theorem dX8_scanWord_48 : decode cX8_scanWord 48 = .ok (.istore_n 3, 1) := by decide +kernel
theorem dX8_scanWord_49 : decode cX8_scanWord 49 = .ok (.iconst 0, 1) := by decide +kernel
theorem dX8_scanWord_50 : decode cX8_scanWord 50 = .ok (.istore 4, 2) := by decide +kernel
theorem dX8_scanWord_52 : decode cX8_scanWord 52 = .ok (.iload 4, 2) := by decide +kernel
theorem dX8_scanWord_54 : decode cX8_scanWord 54 = .ok (.ldc 69, 2) := by decide +kernel
theorem dX8_scanWord_56 : decode cX8_scanWord 56 = .ok (.invokevirtual 71, 3) := by decide +kernel
theorem dX8_scanWord_59 : decode cX8_scanWord 59 = .ok (.if_icmp .ge 55, 3) := by decide +kernel
theorem dX8_scanWord_62 : decode cX8_scanWord 62 = .ok (.ldc 69, 2) := by decide +kernel
theorem dX8_scanWord_64 : decode cX8_scanWord 64 = .ok (.iload 4, 2) := by decide +kernel
theorem dX8_scanWord_66 : decode cX8_scanWord 66 = .ok (.invokevirtual 73, 3) := by decide +kernel
theorem dX8_scanWord_69 : decode cX8_scanWord 69 = .ok (.bipush 32, 2) := by decide +kernel
theorem dX8_scanWord_71 : decode cX8_scanWord 71 = .ok (.if_icmp .ne 37, 3) := by decide +kernel
theorem dX8_scanWord_74 : decode cX8_scanWord 74 = .ok (.iload 4, 2) := by decide +kernel
theorem dX8_scanWord_76 : decode cX8_scanWord 76 = .ok (.iload_n 3, 1) := by decide +kernel
theorem dX8_scanWord_77 : decode cX8_scanWord 77 = .ok (.isub, 1) := by decide +kernel
theorem dX8_scanWord_78 : decode cX8_scanWord 78 = .ok (.aload_n 0, 1) := by decide +kernel
theorem dX8_scanWord_79 : decode cX8_scanWord 79 = .ok (.getfield 38, 3) := by decide +kernel
theorem dX8_scanWord_82 : decode cX8_scanWord 82 = .ok (.iload_n 1, 1) := by decide +kernel
theorem dX8_scanWord_83 : decode cX8_scanWord 83 = .ok (.isub, 1) := by decide +kernel
theorem dX8_scanWord_84 : decode cX8_scanWord 84 = .ok (.if_icmp .ne 16, 3) := by decide +kernel
theorem dX8_scanWord_87 : decode cX8_scanWord 87 = .ok (.aload_n 0, 1) := by decide +kernel
theorem dX8_scanWord_88 : decode cX8_scanWord 88 = .ok (.iload_n 3, 1) := by decide +kernel
theorem dX8_scanWord_89 : decode cX8_scanWord 89 = .ok (.iload 4, 2) := by decide +kernel
theorem dX8_scanWord_91 : decode cX8_scanWord 91 = .ok (.iload_n 1, 1) := by decide +kernel
theorem dX8_scanWord_92 : decode cX8_scanWord 92 = .ok (.invokevirtual 77, 3) := by decide +kernel
theorem dX8_scanWord_95 : decode cX8_scanWord 95 = .ok (.ifCond .eq 5, 3) := by decide +kernel
theorem dX8_scanWord_98 : decode cX8_scanWord 98 = .ok (.iload_n 2, 1) := by decide +kernel
theorem dX8_scanWord_99 : decode cX8_scanWord 99 = .ok (.ireturn, 1) := by decide +kernel
theorem dX8_scanWord_100 : decode cX8_scanWord 100 = .ok (.iinc 2 (-1), 3) := by decide +kernel
theorem dX8_scanWord_103 : decode cX8_scanWord 103 = .ok (.iload 4, 2) := by decide +kernel
theorem dX8_scanWord_105 : decode cX8_scanWord 105 = .ok (.iconst 1, 1) := by decide +kernel
theorem dX8_scanWord_106 : decode cX8_scanWord 106 = .ok (.iadd, 1) := by decide +kernel
theorem dX8_scanWord_107 : decode cX8_scanWord 107 = .ok (.istore_n 3, 1) := by decide +kernel
theorem dX8_scanWord_108 : decode cX8_scanWord 108 = .ok (.iinc 4 1, 3) := by decide +kernel
theorem dX8_scanWord_111 : decode cX8_scanWord 111 = .ok (.goto (-59), 3) := by decide +kernel
theorem dX8_scanWord_114 : decode cX8_scanWord 114 = .ok (.iconst (-1), 1) := by decide +kernel
theorem dX8_scanWord_115 : decode cX8_scanWord 115 = .ok (.ireturn, 1) := by decide +kernel
theorem dX8_isWordAt_0 : decode cX8_isWordAt 0 = .ok (.iload_n 1, 1) := by decide +kernel
theorem dX8_isWordAt_1 : decode cX8_isWordAt 1 = .ok (.istore 4, 2) := by decide +kernel
theorem dX8_isWordAt_3 : decode cX8_isWordAt 3 = .ok (.iload 4, 2) := by decide +kernel
theorem dX8_isWordAt_5 : decode cX8_isWordAt 5 = .ok (.iload_n 2, 1) := by decide +kernel
theorem dX8_isWordAt_6 : decode cX8_isWordAt 6 = .ok (.if_icmp .ge 31, 3) := by decide +kernel
theorem dX8_isWordAt_9 : decode cX8_isWordAt 9 = .ok (.ldc 69, 2) := by decide +kernel
theorem dX8_isWordAt_11 : decode cX8_isWordAt 11 = .ok (.iload 4, 2) := by decide +kernel
theorem dX8_isWordAt_13 : decode cX8_isWordAt 13 = .ok (.invokevirtual 73, 3) := by decide +kernel
theorem dX8_isWordAt_16 : decode cX8_isWordAt 16 = .ok (.aload_n 0, 1) := by decide +kernel
theorem dX8_isWordAt_17 : decode cX8_isWordAt 17 = .ok (.iload_n 3, 1) := by decide +kernel
theorem dX8_isWordAt_18 : decode cX8_isWordAt 18 = .ok (.iload 4, 2) := by decide +kernel
theorem dX8_isWordAt_20 : decode cX8_isWordAt 20 = .ok (.iadd, 1) := by decide +kernel
theorem dX8_isWordAt_21 : decode cX8_isWordAt 21 = .ok (.iload_n 1, 1) := by decide +kernel
theorem dX8_isWordAt_22 : decode cX8_isWordAt 22 = .ok (.isub, 1) := by decide +kernel
theorem dX8_isWordAt_23 : decode cX8_isWordAt 23 = .ok (.invokevirtual 41, 3) := by decide +kernel
theorem dX8_isWordAt_26 : decode cX8_isWordAt 26 = .ok (.if_icmp .eq 5, 3) := by decide +kernel
theorem dX8_isWordAt_29 : decode cX8_isWordAt 29 = .ok (.iconst 0, 1) := by decide +kernel
theorem dX8_isWordAt_30 : decode cX8_isWordAt 30 = .ok (.ireturn, 1) := by decide +kernel
theorem dX8_isWordAt_31 : decode cX8_isWordAt 31 = .ok (.iinc 4 1, 3) := by decide +kernel
theorem dX8_isWordAt_34 : decode cX8_isWordAt 34 = .ok (.goto (-31), 3) := by decide +kernel
theorem dX8_isWordAt_37 : decode cX8_isWordAt 37 = .ok (.iconst 1, 1) := by decide +kernel
theorem dX8_isWordAt_38 : decode cX8_isWordAt 38 = .ok (.ireturn, 1) := by decide +kernel
theorem dX8_scanNumber_0 : decode cX8_scanNumber 0 = .ok (.aload_n 0, 1) := by decide +kernel
theorem dX8_scanNumber_1 : decode cX8_scanNumber 1 = .ok (.getfield 38, 3) := by decide +kernel
theorem dX8_scanNumber_4 : decode cX8_scanNumber 4 = .ok (.istore_n 1, 1) := by decide +kernel
theorem dX8_scanNumber_5 : decode cX8_scanNumber 5 = .ok (.iconst 0, 1) := by decide +kernel
theorem dX8_scanNumber_6 : decode cX8_scanNumber 6 = .ok (.istore_n 2, 1) := by decide +kernel
theorem dX8_scanNumber_7 : decode cX8_scanNumber 7 = .ok (.aload_n 0, 1) := by decide +kernel
theorem dX8_scanNumber_8 : decode cX8_scanNumber 8 = .ok (.getfield 38, 3) := by decide +kernel
theorem dX8_scanNumber_11 : decode cX8_scanNumber 11 = .ok (.aload_n 0, 1) := by decide +kernel
theorem dX8_scanNumber_12 : decode cX8_scanNumber 12 = .ok (.getfield 19, 3) := by decide +kernel
theorem dX8_scanNumber_15 : decode cX8_scanNumber 15 = .ok (.if_icmp .ge 61, 3) := by decide +kernel
theorem dX8_scanNumber_18 : decode cX8_scanNumber 18 = .ok (.aload_n 0, 1) := by decide +kernel
theorem dX8_scanNumber_19 : decode cX8_scanNumber 19 = .ok (.aload_n 0, 1) := by decide +kernel
theorem dX8_scanNumber_20 : decode cX8_scanNumber 20 = .ok (.getfield 38, 3) := by decide +kernel
theorem dX8_scanNumber_23 : decode cX8_scanNumber 23 = .ok (.invokevirtual 41, 3) := by decide +kernel
theorem dX8_scanNumber_26 : decode cX8_scanNumber 26 = .ok (.invokestatic 56, 3) := by decide +kernel
theorem dX8_scanNumber_29 : decode cX8_scanNumber 29 = .ok (.ifCond .eq 47, 3) := by decide +kernel
theorem dX8_scanNumber_32 : decode cX8_scanNumber 32 = .ok (.aload_n 0, 1) := by decide +kernel
theorem dX8_scanNumber_33 : decode cX8_scanNumber 33 = .ok (.getfield 38, 3) := by decide +kernel
theorem dX8_scanNumber_36 : decode cX8_scanNumber 36 = .ok (.iload_n 1, 1) := by decide +kernel
theorem dX8_scanNumber_37 : decode cX8_scanNumber 37 = .ok (.isub, 1) := by decide +kernel
theorem dX8_scanNumber_38 : decode cX8_scanNumber 38 = .ok (.iconst 4, 1) := by decide +kernel
theorem dX8_scanNumber_39 : decode cX8_scanNumber 39 = .ok (.if_icmp .ge 22, 3) := by decide +kernel
theorem dX8_scanNumber_42 : decode cX8_scanNumber 42 = .ok (.iload_n 2, 1) := by decide +kernel
theorem dX8_scanNumber_43 : decode cX8_scanNumber 43 = .ok (.bipush 10, 2) := by decide +kernel
theorem dX8_scanNumber_45 : decode cX8_scanNumber 45 = .ok (.imul, 1) := by decide +kernel
theorem dX8_scanNumber_46 : decode cX8_scanNumber 46 = .ok (.aload_n 0, 1) := by decide +kernel
theorem dX8_scanNumber_47 : decode cX8_scanNumber 47 = .ok (.aload_n 0, 1) := by decide +kernel
theorem dX8_scanNumber_48 : decode cX8_scanNumber 48 = .ok (.getfield 38, 3) := by decide +kernel
theorem dX8_scanNumber_51 : decode cX8_scanNumber 51 = .ok (.invokevirtual 41, 3) := by decide +kernel
theorem dX8_scanNumber_54 : decode cX8_scanNumber 54 = .ok (.iadd, 1) := by decide +kernel
theorem dX8_scanNumber_55 : decode cX8_scanNumber 55 = .ok (.bipush 48, 2) := by decide +kernel
theorem dX8_scanNumber_57 : decode cX8_scanNumber 57 = .ok (.isub, 1) := by decide +kernel
theorem dX8_scanNumber_58 : decode cX8_scanNumber 58 = .ok (.goto 4, 3) := by decide +kernel
theorem dX8_scanNumber_61 : decode cX8_scanNumber 61 = .ok (.iconst (-1), 1) := by decide +kernel
theorem dX8_scanNumber_62 : decode cX8_scanNumber 62 = .ok (.istore_n 2, 1) := by decide +kernel
theorem dX8_scanNumber_63 : decode cX8_scanNumber 63 = .ok (.aload_n 0, 1) := by decide +kernel
theorem dX8_scanNumber_64 : decode cX8_scanNumber 64 = .ok (.dup, 1) := by decide +kernel
theorem dX8_scanNumber_65 : decode cX8_scanNumber 65 = .ok (.getfield 38, 3) := by decide +kernel
theorem dX8_scanNumber_68 : decode cX8_scanNumber 68 = .ok (.iconst 1, 1) := by decide +kernel
theorem dX8_scanNumber_69 : decode cX8_scanNumber 69 = .ok (.iadd, 1) := by decide +kernel
theorem dX8_scanNumber_70 : decode cX8_scanNumber 70 = .ok (.putfield 38, 3) := by decide +kernel
theorem dX8_scanNumber_73 : decode cX8_scanNumber 73 = .ok (.goto (-66), 3) := by decide +kernel
theorem dX8_scanNumber_76 : decode cX8_scanNumber 76 = .ok (.iload_n 2, 1) := by decide +kernel
theorem dX8_scanNumber_77 : decode cX8_scanNumber 77 = .ok (.ireturn, 1) := by decide +kernel
theorem dX8_isLetter_0 : decode cX8_isLetter 0 = .ok (.iload_n 0, 1) := by decide +kernel
theorem dX8_isLetter_1 : decode cX8_isLetter 1 = .ok (.bipush 97, 2) := by decide +kernel
theorem dX8_isLetter_3 : decode cX8_isLetter 3 = .ok (.bipush 122, 2) := by decide +kernel
theorem dX8_isLetter_5 : decode cX8_isLetter 5 = .ok (.invokestatic 29, 3) := by decide +kernel
theorem dX8_isLetter_8 : decode cX8_isLetter 8 = .ok (.ifCond .ne 14, 3) := by decide +kernel
theorem dX8_isLetter_11 : decode cX8_isLetter 11 = .ok (.iload_n 0, 1) := by decide +kernel
theorem dX8_isLetter_12 : decode cX8_isLetter 12 = .ok (.bipush 65, 2) := by decide +kernel
theorem dX8_isLetter_14 : decode cX8_isLetter 14 = .ok (.bipush 90, 2) := by decide +kernel
theorem dX8_isLetter_16 : decode cX8_isLetter 16 = .ok (.invokestatic 29, 3) := by decide +kernel
theorem dX8_isLetter_19 : decode cX8_isLetter 19 = .ok (.ifCond .eq 7, 3) := by decide +kernel
theorem dX8_isLetter_22 : decode cX8_isLetter 22 = .ok (.iconst 1, 1) := by decide +kernel
theorem dX8_isLetter_23 : decode cX8_isLetter 23 = .ok (.goto 4, 3) := by decide +kernel
theorem dX8_isLetter_26 : decode cX8_isLetter 26 = .ok (.iconst 0, 1) := by decide +kernel
theorem dX8_isLetter_27 : decode cX8_isLetter 27 = .ok (.ireturn, 1) := by decide +kernel
theorem dX8_isDigit_0 : decode cX8_isDigit 0 = .ok (.iload_n 0, 1) := by decide +kernel
theorem dX8_isDigit_1 : decode cX8_isDigit 1 = .ok (.bipush 48, 2) := by decide +kernel
theorem dX8_isDigit_3 : decode cX8_isDigit 3 = .ok (.bipush 57, 2) := by decide +kernel
theorem dX8_isDigit_5 : decode cX8_isDigit 5 = .ok (.invokestatic 29, 3) := by decide +kernel
theorem dX8_isDigit_8 : decode cX8_isDigit 8 = .ok (.ireturn, 1) := by decide +kernel
theorem dX9_init_0 : decode cX9_init 0 = .ok (.aload_n 0, 1) := by decide +kernel
theorem dX9_init_1 : decode cX9_init 1 = .ok (.invokespecial 3, 3) := by decide +kernel
theorem dX9_init_4 : decode cX9_init 4 = .ok (.aload_n 0, 1) := by decide +kernel
theorem dX9_init_5 : decode cX9_init 5 = .ok (.new 9, 3) := by decide +kernel
theorem dX9_init_8 : decode cX9_init 8 = .ok (.dup, 1) := by decide +kernel
theorem dX9_init_9 : decode cX9_init 9 = .ok (.invokespecial 11, 3) := by decide +kernel
theorem dX9_init_12 : decode cX9_init 12 = .ok (.putfield 12, 3) := by decide +kernel
theorem dX9_init_15 : decode cX9_init 15 = .ok (.aload_n 0, 1) := by decide +kernel
theorem dX9_init_16 : decode cX9_init 16 = .ok (.new 18, 3) := by decide +kernel
theorem dX9_init_19 : decode cX9_init 19 = .ok (.dup, 1) := by decide +kernel
theorem dX9_init_20 : decode cX9_init 20 = .ok (.invokespecial 20, 3) := by decide +kernel
theorem dX9_init_23 : decode cX9_init 23 = .ok (.putfield 21, 3) := by decide +kernel
theorem dX9_init_26 : decode cX9_init 26 = .ok (.aload_n 0, 1) := by decide +kernel
theorem dX9_init_27 : decode cX9_init 27 = .ok (.new 25, 3) := by decide +kernel
theorem dX9_init_30 : decode cX9_init 30 = .ok (.dup, 1) := by decide +kernel
theorem dX9_init_31 : decode cX9_init 31 = .ok (.invokespecial 27, 3) := by decide +kernel
theorem dX9_init_34 : decode cX9_init 34 = .ok (.putfield 28, 3) := by decide +kernel
theorem dX9_init_37 : decode cX9_init 37 = .ok (.aload_n 0, 1) := by decide +kernel
theorem dX9_init_38 : decode cX9_init 38 = .ok (.new 32, 3) := by decide +kernel
theorem dX9_init_41 : decode cX9_init 41 = .ok (.dup, 1) := by decide +kernel
theorem dX9_init_42 : decode cX9_init 42 = .ok (.invokespecial 34, 3) := by decide +kernel
theorem dX9_init_45 : decode cX9_init 45 = .ok (.putfield 35, 3) := by decide +kernel
theorem dX9_init_48 : decode cX9_init 48 = .ok (.aload_n 0, 1) := by decide +kernel
theorem dX9_init_49 : decode cX9_init 49 = .ok (.new 39, 3) := by decide +kernel
theorem dX9_init_52 : decode cX9_init 52 = .ok (.dup, 1) := by decide +kernel
theorem dX9_init_53 : decode cX9_init 53 = .ok (.invokespecial 41, 3) := by decide +kernel
theorem dX9_init_56 : decode cX9_init 56 = .ok (.putfield 42, 3) := by decide +kernel
theorem dX9_init_59 : decode cX9_init 59 = .ok (.aload_n 0, 1) := by decide +kernel
theorem dX9_init_60 : decode cX9_init 60 = .ok (.bipush 9, 2) := by decide +kernel
theorem dX9_init_62 : decode cX9_init 62 = .ok (.newarray .int, 2) := by decide +kernel
theorem dX9_init_64 : decode cX9_init 64 = .ok (.putfield 46, 3) := by decide +kernel
theorem dX9_init_67 : decode cX9_init 67 = .ok (.aload_n 0, 1) := by decide +kernel
theorem dX9_init_68 : decode cX9_init 68 = .ok (.bipush 9, 2) := by decide +kernel
theorem dX9_init_70 : decode cX9_init 70 = .ok (.newarray .int, 2) := by decide +kernel
theorem dX9_init_72 : decode cX9_init 72 = .ok (.putfield 50, 3) := by decide +kernel
theorem dX9_init_75 : decode cX9_init 75 = .ok (.aload_n 0, 1) := by decide +kernel
theorem dX9_init_76 : decode cX9_init 76 = .ok (.bipush 12, 2) := by decide +kernel
theorem dX9_init_78 : decode cX9_init 78 = .ok (.invokevirtual 53, 3) := by decide +kernel
theorem dX9_init_81 : decode cX9_init 81 = .ok (.return_, 1) := by decide +kernel
theorem dX9_beginWith_0 : decode cX9_beginWith 0 = .ok (.aload_n 0, 1) := by decide +kernel
theorem dX9_beginWith_1 : decode cX9_beginWith 1 = .ok (.getfield 12, 3) := by decide +kernel
theorem dX9_beginWith_4 : decode cX9_beginWith 4 = .ok (.invokevirtual 57, 3) := by decide +kernel
theorem dX9_beginWith_7 : decode cX9_beginWith 7 = .ok (.aload_n 0, 1) := by decide +kernel
theorem dX9_beginWith_8 : decode cX9_beginWith 8 = .ok (.getfield 21, 3) := by decide +kernel
theorem dX9_beginWith_11 : decode cX9_beginWith 11 = .ok (.iload_n 1, 1) := by decide +kernel
theorem dX9_beginWith_12 : decode cX9_beginWith 12 = .ok (.invokevirtual 60, 3) := by decide +kernel
theorem dX9_beginWith_15 : decode cX9_beginWith 15 = .ok (.aload_n 0, 1) := by decide +kernel
theorem dX9_beginWith_16 : decode cX9_beginWith 16 = .ok (.getfield 28, 3) := by decide +kernel
theorem dX9_beginWith_19 : decode cX9_beginWith 19 = .ok (.invokevirtual 61, 3) := by decide +kernel
theorem dX9_beginWith_22 : decode cX9_beginWith 22 = .ok (.aload_n 0, 1) := by decide +kernel
theorem dX9_beginWith_23 : decode cX9_beginWith 23 = .ok (.getfield 35, 3) := by decide +kernel
theorem dX9_beginWith_26 : decode cX9_beginWith 26 = .ok (.invokevirtual 64, 3) := by decide +kernel
theorem dX9_beginWith_29 : decode cX9_beginWith 29 = .ok (.aload_n 0, 1) := by decide +kernel
theorem dX9_beginWith_30 : decode cX9_beginWith 30 = .ok (.getfield 42, 3) := by decide +kernel
theorem dX9_beginWith_33 : decode cX9_beginWith 33 = .ok (.invokevirtual 65, 3) := by decide +kernel
theorem dX9_beginWith_36 : decode cX9_beginWith 36 = .ok (.aload_n 0, 1) := by decide +kernel
theorem dX9_beginWith_37 : decode cX9_beginWith 37 = .ok (.iconst 0, 1) := by decide +kernel
theorem dX9_beginWith_38 : decode cX9_beginWith 38 = .ok (.putfield 66, 3) := by decide +kernel
theorem dX9_beginWith_41 : decode cX9_beginWith 41 = .ok (.aload_n 0, 1) := by decide +kernel
theorem dX9_beginWith_42 : decode cX9_beginWith 42 = .ok (.iconst 0, 1) := by decide +kernel
theorem dX9_beginWith_43 : decode cX9_beginWith 43 = .ok (.putfield 70, 3) := by decide +kernel
theorem dX9_beginWith_46 : decode cX9_beginWith 46 = .ok (.return_, 1) := by decide +kernel
theorem dX9_copyFrom_0 : decode cX9_copyFrom 0 = .ok (.aload_n 0, 1) := by decide +kernel
theorem dX9_copyFrom_1 : decode cX9_copyFrom 1 = .ok (.getfield 12, 3) := by decide +kernel
theorem dX9_copyFrom_4 : decode cX9_copyFrom 4 = .ok (.aload_n 1, 1) := by decide +kernel
theorem dX9_copyFrom_5 : decode cX9_copyFrom 5 = .ok (.getfield 12, 3) := by decide +kernel
theorem dX9_copyFrom_8 : decode cX9_copyFrom 8 = .ok (.invokevirtual 73, 3) := by decide +kernel
theorem dX9_copyFrom_11 : decode cX9_copyFrom 11 = .ok (.aload_n 0, 1) := by decide +kernel
theorem dX9_copyFrom_12 : decode cX9_copyFrom 12 = .ok (.getfield 21, 3) := by decide +kernel
theorem dX9_copyFrom_15 : decode cX9_copyFrom 15 = .ok (.aload_n 1, 1) := by decide +kernel
theorem dX9_copyFrom_16 : decode cX9_copyFrom 16 = .ok (.getfield 21, 3) := by decide +kernel
theorem dX9_copyFrom_19 : decode cX9_copyFrom 19 = .ok (.invokevirtual 77, 3) := by decide +kernel
theorem dX9_copyFrom_22 : decode cX9_copyFrom 22 = .ok (.aload_n 0, 1) := by decide +kernel
theorem dX9_copyFrom_23 : decode cX9_copyFrom 23 = .ok (.getfield 28, 3) := by decide +kernel
theorem dX9_copyFrom_26 : decode cX9_copyFrom 26 = .ok (.aload_n 1, 1) := by decide +kernel
theorem dX9_copyFrom_27 : decode cX9_copyFrom 27 = .ok (.getfield 28, 3) := by decide +kernel
theorem dX9_copyFrom_30 : decode cX9_copyFrom 30 = .ok (.invokevirtual 80, 3) := by decide +kernel
theorem dX9_copyFrom_33 : decode cX9_copyFrom 33 = .ok (.aload_n 0, 1) := by decide +kernel
theorem dX9_copyFrom_34 : decode cX9_copyFrom 34 = .ok (.getfield 35, 3) := by decide +kernel
theorem dX9_copyFrom_37 : decode cX9_copyFrom 37 = .ok (.aload_n 1, 1) := by decide +kernel
theorem dX9_copyFrom_38 : decode cX9_copyFrom 38 = .ok (.getfield 35, 3) := by decide +kernel
theorem dX9_copyFrom_41 : decode cX9_copyFrom 41 = .ok (.invokevirtual 83, 3) := by decide +kernel
theorem dX9_copyFrom_44 : decode cX9_copyFrom 44 = .ok (.aload_n 0, 1) := by decide +kernel
theorem dX9_copyFrom_45 : decode cX9_copyFrom 45 = .ok (.getfield 42, 3) := by decide +kernel
theorem dX9_copyFrom_48 : decode cX9_copyFrom 48 = .ok (.aload_n 1, 1) := by decide +kernel
theorem dX9_copyFrom_49 : decode cX9_copyFrom 49 = .ok (.getfield 42, 3) := by decide +kernel
theorem dX9_copyFrom_52 : decode cX9_copyFrom 52 = .ok (.invokevirtual 86, 3) := by decide +kernel
theorem dX9_copyFrom_55 : decode cX9_copyFrom 55 = .ok (.aload_n 0, 1) := by decide +kernel
theorem dX9_copyFrom_56 : decode cX9_copyFrom 56 = .ok (.aload_n 1, 1) := by decide +kernel
theorem dX9_copyFrom_57 : decode cX9_copyFrom 57 = .ok (.getfield 66, 3) := by decide +kernel
theorem dX9_copyFrom_60 : decode cX9_copyFrom 60 = .ok (.putfield 66, 3) := by decide +kernel
theorem dX9_copyFrom_63 : decode cX9_copyFrom 63 = .ok (.aload_n 0, 1) := by decide +kernel
theorem dX9_copyFrom_64 : decode cX9_copyFrom 64 = .ok (.aload_n 1, 1) := by decide +kernel
theorem dX9_copyFrom_65 : decode cX9_copyFrom 65 = .ok (.getfield 70, 3) := by decide +kernel
theorem dX9_copyFrom_68 : decode cX9_copyFrom 68 = .ok (.putfield 70, 3) := by decide +kernel
theorem dX9_copyFrom_71 : decode cX9_copyFrom 71 = .ok (.return_, 1) := by decide +kernel
theorem dX9_learn_0 : decode cX9_learn 0 = .ok (.iload_n 1, 1) := by decide +kernel
theorem dX9_learn_1 : decode cX9_learn 1 = .ok (.tableswitch 127 0 8 #[51, 62, 73, 84, 95, 102, 109, 115, 121], 51) := by decide +kernel
theorem dX9_learn_52 : decode cX9_learn 52 = .ok (.aload_n 0, 1) := by decide +kernel
theorem dX9_learn_53 : decode cX9_learn 53 = .ok (.getfield 28, 3) := by decide +kernel
theorem dX9_learn_56 : decode cX9_learn 56 = .ok (.iconst 0, 1) := by decide +kernel
theorem dX9_learn_57 : decode cX9_learn 57 = .ok (.iload_n 2, 1) := by decide +kernel
theorem dX9_learn_58 : decode cX9_learn 58 = .ok (.iload_n 3, 1) := by decide +kernel
theorem dX9_learn_59 : decode cX9_learn 59 = .ok (.invokevirtual 89, 3) := by decide +kernel
theorem dX9_learn_62 : decode cX9_learn 62 = .ok (.ireturn, 1) := by decide +kernel
theorem dX9_learn_63 : decode cX9_learn 63 = .ok (.aload_n 0, 1) := by decide +kernel
theorem dX9_learn_64 : decode cX9_learn 64 = .ok (.getfield 28, 3) := by decide +kernel
theorem dX9_learn_67 : decode cX9_learn 67 = .ok (.iconst 1, 1) := by decide +kernel
theorem dX9_learn_68 : decode cX9_learn 68 = .ok (.iload_n 2, 1) := by decide +kernel
theorem dX9_learn_69 : decode cX9_learn 69 = .ok (.iload_n 3, 1) := by decide +kernel
theorem dX9_learn_70 : decode cX9_learn 70 = .ok (.invokevirtual 89, 3) := by decide +kernel
theorem dX9_learn_73 : decode cX9_learn 73 = .ok (.ireturn, 1) := by decide +kernel
theorem dX9_learn_74 : decode cX9_learn 74 = .ok (.aload_n 0, 1) := by decide +kernel
theorem dX9_learn_75 : decode cX9_learn 75 = .ok (.getfield 28, 3) := by decide +kernel
theorem dX9_learn_78 : decode cX9_learn 78 = .ok (.iconst 2, 1) := by decide +kernel
theorem dX9_learn_79 : decode cX9_learn 79 = .ok (.iload_n 2, 1) := by decide +kernel
theorem dX9_learn_80 : decode cX9_learn 80 = .ok (.iload_n 3, 1) := by decide +kernel
theorem dX9_learn_81 : decode cX9_learn 81 = .ok (.invokevirtual 89, 3) := by decide +kernel
theorem dX9_learn_84 : decode cX9_learn 84 = .ok (.ireturn, 1) := by decide +kernel
theorem dX9_learn_85 : decode cX9_learn 85 = .ok (.aload_n 0, 1) := by decide +kernel
theorem dX9_learn_86 : decode cX9_learn 86 = .ok (.getfield 28, 3) := by decide +kernel
theorem dX9_learn_89 : decode cX9_learn 89 = .ok (.iconst 3, 1) := by decide +kernel
theorem dX9_learn_90 : decode cX9_learn 90 = .ok (.iload_n 2, 1) := by decide +kernel
theorem dX9_learn_91 : decode cX9_learn 91 = .ok (.iload_n 3, 1) := by decide +kernel
theorem dX9_learn_92 : decode cX9_learn 92 = .ok (.invokevirtual 89, 3) := by decide +kernel
theorem dX9_learn_95 : decode cX9_learn 95 = .ok (.ireturn, 1) := by decide +kernel
theorem dX9_learn_96 : decode cX9_learn 96 = .ok (.aload_n 0, 1) := by decide +kernel
theorem dX9_learn_97 : decode cX9_learn 97 = .ok (.iload_n 2, 1) := by decide +kernel
theorem dX9_learn_98 : decode cX9_learn 98 = .ok (.iload_n 3, 1) := by decide +kernel
theorem dX9_learn_99 : decode cX9_learn 99 = .ok (.invokevirtual 93, 3) := by decide +kernel
theorem dX9_learn_102 : decode cX9_learn 102 = .ok (.ireturn, 1) := by decide +kernel
theorem dX9_learn_103 : decode cX9_learn 103 = .ok (.aload_n 0, 1) := by decide +kernel
theorem dX9_learn_104 : decode cX9_learn 104 = .ok (.iload_n 2, 1) := by decide +kernel
theorem dX9_learn_105 : decode cX9_learn 105 = .ok (.iload_n 3, 1) := by decide +kernel
theorem dX9_learn_106 : decode cX9_learn 106 = .ok (.invokevirtual 97, 3) := by decide +kernel
theorem dX9_learn_109 : decode cX9_learn 109 = .ok (.ireturn, 1) := by decide +kernel
theorem dX9_learn_110 : decode cX9_learn 110 = .ok (.aload_n 0, 1) := by decide +kernel
theorem dX9_learn_111 : decode cX9_learn 111 = .ok (.iload_n 3, 1) := by decide +kernel
theorem dX9_learn_112 : decode cX9_learn 112 = .ok (.invokevirtual 100, 3) := by decide +kernel
theorem dX9_learn_115 : decode cX9_learn 115 = .ok (.ireturn, 1) := by decide +kernel
theorem dX9_learn_116 : decode cX9_learn 116 = .ok (.aload_n 0, 1) := by decide +kernel
theorem dX9_learn_117 : decode cX9_learn 117 = .ok (.iload_n 3, 1) := by decide +kernel
theorem dX9_learn_118 : decode cX9_learn 118 = .ok (.invokevirtual 104, 3) := by decide +kernel
theorem dX9_learn_121 : decode cX9_learn 121 = .ok (.ireturn, 1) := by decide +kernel
theorem dX9_learn_122 : decode cX9_learn 122 = .ok (.aload_n 0, 1) := by decide +kernel
theorem dX9_learn_123 : decode cX9_learn 123 = .ok (.iload_n 3, 1) := by decide +kernel
theorem dX9_learn_124 : decode cX9_learn 124 = .ok (.invokevirtual 107, 3) := by decide +kernel
theorem dX9_learn_127 : decode cX9_learn 127 = .ok (.ireturn, 1) := by decide +kernel
theorem dX9_learn_128 : decode cX9_learn 128 = .ok (.iconst 0, 1) := by decide +kernel
theorem dX9_learn_129 : decode cX9_learn 129 = .ok (.ireturn, 1) := by decide +kernel
theorem dX9_learnHole_0 : decode cX9_learnHole 0 = .ok (.aload_n 0, 1) := by decide +kernel
theorem dX9_learnHole_1 : decode cX9_learnHole 1 = .ok (.getfield 21, 3) := by decide +kernel
theorem dX9_learnHole_4 : decode cX9_learnHole 4 = .ok (.iload_n 1, 1) := by decide +kernel
theorem dX9_learnHole_5 : decode cX9_learnHole 5 = .ok (.invokevirtual 110, 3) := by decide +kernel
theorem dX9_learnHole_8 : decode cX9_learnHole 8 = .ok (.ifCond .eq 13, 3) := by decide +kernel
theorem dX9_learnHole_11 : decode cX9_learnHole 11 = .ok (.iload_n 2, 1) := by decide +kernel
theorem dX9_learnHole_12 : decode cX9_learnHole 12 = .ok (.iconst 0, 1) := by decide +kernel
theorem dX9_learnHole_13 : decode cX9_learnHole 13 = .ok (.bipush 99, 2) := by decide +kernel
theorem dX9_learnHole_15 : decode cX9_learnHole 15 = .ok (.invokestatic 113, 3) := by decide +kernel
theorem dX9_learnHole_18 : decode cX9_learnHole 18 = .ok (.ifCond .ne 5, 3) := by decide +kernel
theorem dX9_learnHole_21 : decode cX9_learnHole 21 = .ok (.iconst 0, 1) := by decide +kernel
theorem dX9_learnHole_22 : decode cX9_learnHole 22 = .ok (.ireturn, 1) := by decide +kernel
theorem dX9_learnHole_23 : decode cX9_learnHole 23 = .ok (.aload_n 0, 1) := by decide +kernel
theorem dX9_learnHole_24 : decode cX9_learnHole 24 = .ok (.getfield 21, 3) := by decide +kernel
theorem dX9_learnHole_27 : decode cX9_learnHole 27 = .ok (.getfield 116, 3) := by decide +kernel
theorem dX9_learnHole_30 : decode cX9_learnHole 30 = .ok (.iload_n 1, 1) := by decide +kernel
theorem dX9_learnHole_31 : decode cX9_learnHole 31 = .ok (.iload_n 2, 1) := by decide +kernel
theorem dX9_learnHole_32 : decode cX9_learnHole 32 = .ok (.iastore, 1) := by decide +kernel
theorem dX9_learnHole_33 : decode cX9_learnHole 33 = .ok (.iconst 1, 1) := by decide +kernel
theorem dX9_learnHole_34 : decode cX9_learnHole 34 = .ok (.ireturn, 1) := by decide +kernel
theorem dX9_learnField_0 : decode cX9_learnField 0 = .ok (.aload_n 0, 1) := by decide +kernel
theorem dX9_learnField_1 : decode cX9_learnField 1 = .ok (.getfield 21, 3) := by decide +kernel
theorem dX9_learnField_4 : decode cX9_learnField 4 = .ok (.iload_n 1, 1) := by decide +kernel
theorem dX9_learnField_5 : decode cX9_learnField 5 = .ok (.invokevirtual 119, 3) := by decide +kernel
theorem dX9_learnField_8 : decode cX9_learnField 8 = .ok (.ifCond .eq 19, 3) := by decide +kernel
theorem dX9_learnField_11 : decode cX9_learnField 11 = .ok (.iload_n 2, 1) := by decide +kernel
theorem dX9_learnField_12 : decode cX9_learnField 12 = .ok (.iconst (-1), 1) := by decide +kernel
theorem dX9_learnField_13 : decode cX9_learnField 13 = .ok (.if_icmp .eq 16, 3) := by decide +kernel
theorem dX9_learnField_16 : decode cX9_learnField 16 = .ok (.aload_n 0, 1) := by decide +kernel
theorem dX9_learnField_17 : decode cX9_learnField 17 = .ok (.getfield 28, 3) := by decide +kernel
theorem dX9_learnField_20 : decode cX9_learnField 20 = .ok (.iload_n 2, 1) := by decide +kernel
theorem dX9_learnField_21 : decode cX9_learnField 21 = .ok (.invokevirtual 122, 3) := by decide +kernel
theorem dX9_learnField_24 : decode cX9_learnField 24 = .ok (.ifCond .ne 5, 3) := by decide +kernel
theorem dX9_learnField_27 : decode cX9_learnField 27 = .ok (.iconst 0, 1) := by decide +kernel
theorem dX9_learnField_28 : decode cX9_learnField 28 = .ok (.ireturn, 1) := by decide +kernel
theorem dX9_learnField_29 : decode cX9_learnField 29 = .ok (.aload_n 0, 1) := by decide +kernel
theorem dX9_learnField_30 : decode cX9_learnField 30 = .ok (.getfield 21, 3) := by decide +kernel
theorem dX9_learnField_33 : decode cX9_learnField 33 = .ok (.getfield 125, 3) := by decide +kernel
theorem dX9_learnField_36 : decode cX9_learnField 36 = .ok (.iload_n 1, 1) := by decide +kernel
theorem dX9_learnField_37 : decode cX9_learnField 37 = .ok (.iload_n 2, 1) := by decide +kernel
theorem dX9_learnField_38 : decode cX9_learnField 38 = .ok (.iastore, 1) := by decide +kernel
theorem dX9_learnField_39 : decode cX9_learnField 39 = .ok (.iconst 1, 1) := by decide +kernel
theorem dX9_learnField_40 : decode cX9_learnField 40 = .ok (.ireturn, 1) := by decide +kernel
theorem dX9_learnLake_0 : decode cX9_learnLake 0 = .ok (.iload_n 1, 1) := by decide +kernel
theorem dX9_learnLake_1 : decode cX9_learnLake 1 = .ok (.iconst 0, 1) := by decide +kernel
theorem dX9_learnLake_2 : decode cX9_learnLake 2 = .ok (.ldc 128, 2) := by decide +kernel
theorem dX9_learnLake_4 : decode cX9_learnLake 4 = .ok (.invokestatic 113, 3) := by decide +kernel
theorem dX9_learnLake_7 : decode cX9_learnLake 7 = .ok (.ifCond .eq 25, 3) := by decide +kernel
theorem dX9_learnLake_10 : decode cX9_learnLake 10 = .ok (.aload_n 0, 1) := by decide +kernel
theorem dX9_learnLake_11 : decode cX9_learnLake 11 = .ok (.getfield 12, 3) := by decide +kernel
theorem dX9_learnLake_14 : decode cX9_learnLake 14 = .ok (.invokevirtual 129, 3) := by decide +kernel
theorem dX9_learnLake_17 : decode cX9_learnLake 17 = .ok (.aload_n 0, 1) := by decide +kernel
theorem dX9_learnLake_18 : decode cX9_learnLake 18 = .ok (.getfield 12, 3) := by decide +kernel
theorem dX9_learnLake_21 : decode cX9_learnLake 21 = .ok (.getfield 133, 3) := by decide +kernel
theorem dX9_learnLake_24 : decode cX9_learnLake 24 = .ok (.isub, 1) := by decide +kernel
theorem dX9_learnLake_25 : decode cX9_learnLake 25 = .ok (.iload_n 1, 1) := by decide +kernel
theorem dX9_learnLake_26 : decode cX9_learnLake 26 = .ok (.iadd, 1) := by decide +kernel
theorem dX9_learnLake_27 : decode cX9_learnLake 27 = .ok (.ldc 136, 2) := by decide +kernel
theorem dX9_learnLake_29 : decode cX9_learnLake 29 = .ok (.if_icmp .le 5, 3) := by decide +kernel
theorem dX9_learnLake_32 : decode cX9_learnLake 32 = .ok (.iconst 0, 1) := by decide +kernel
theorem dX9_learnLake_33 : decode cX9_learnLake 33 = .ok (.ireturn, 1) := by decide +kernel
theorem dX9_learnLake_34 : decode cX9_learnLake 34 = .ok (.aload_n 0, 1) := by decide +kernel
theorem dX9_learnLake_35 : decode cX9_learnLake 35 = .ok (.getfield 12, 3) := by decide +kernel
theorem dX9_learnLake_38 : decode cX9_learnLake 38 = .ok (.iload_n 1, 1) := by decide +kernel
theorem dX9_learnLake_39 : decode cX9_learnLake 39 = .ok (.putfield 133, 3) := by decide +kernel
theorem dX9_learnLake_42 : decode cX9_learnLake 42 = .ok (.iconst 1, 1) := by decide +kernel
theorem dX9_learnLake_43 : decode cX9_learnLake 43 = .ok (.ireturn, 1) := by decide +kernel
theorem dX9_learnFrost_0 : decode cX9_learnFrost 0 = .ok (.iload_n 1, 1) := by decide +kernel
theorem dX9_learnFrost_1 : decode cX9_learnFrost 1 = .ok (.iconst 0, 1) := by decide +kernel
theorem dX9_learnFrost_2 : decode cX9_learnFrost 2 = .ok (.bipush 60, 2) := by decide +kernel
theorem dX9_learnFrost_4 : decode cX9_learnFrost 4 = .ok (.invokestatic 113, 3) := by decide +kernel
theorem dX9_learnFrost_7 : decode cX9_learnFrost 7 = .ok (.ifCond .ne 5, 3) := by decide +kernel
theorem dX9_learnFrost_10 : decode cX9_learnFrost 10 = .ok (.iconst 0, 1) := by decide +kernel
theorem dX9_learnFrost_11 : decode cX9_learnFrost 11 = .ok (.ireturn, 1) := by decide +kernel
theorem dX9_learnFrost_12 : decode cX9_learnFrost 12 = .ok (.aload_n 0, 1) := by decide +kernel
theorem dX9_learnFrost_13 : decode cX9_learnFrost 13 = .ok (.iload_n 1, 1) := by decide +kernel
theorem dX9_learnFrost_14 : decode cX9_learnFrost 14 = .ok (.putfield 66, 3) := by decide +kernel
theorem dX9_learnFrost_17 : decode cX9_learnFrost 17 = .ok (.iconst 1, 1) := by decide +kernel
theorem dX9_learnFrost_18 : decode cX9_learnFrost 18 = .ok (.ireturn, 1) := by decide +kernel
theorem dX9_learnCold_0 : decode cX9_learnCold 0 = .ok (.iload_n 1, 1) := by decide +kernel
theorem dX9_learnCold_1 : decode cX9_learnCold 1 = .ok (.iconst 0, 1) := by decide +kernel
theorem dX9_learnCold_2 : decode cX9_learnCold 2 = .ok (.sipush 1000, 3) := by decide +kernel
theorem dX9_learnCold_5 : decode cX9_learnCold 5 = .ok (.invokestatic 113, 3) := by decide +kernel
theorem dX9_learnCold_8 : decode cX9_learnCold 8 = .ok (.ifCond .ne 5, 3) := by decide +kernel
theorem dX9_learnCold_11 : decode cX9_learnCold 11 = .ok (.iconst 0, 1) := by decide +kernel
theorem dX9_learnCold_12 : decode cX9_learnCold 12 = .ok (.ireturn, 1) := by decide +kernel
theorem dX9_learnCold_13 : decode cX9_learnCold 13 = .ok (.aload_n 0, 1) := by decide +kernel
theorem dX9_learnCold_14 : decode cX9_learnCold 14 = .ok (.iload_n 1, 1) := by decide +kernel
theorem dX9_learnCold_15 : decode cX9_learnCold 15 = .ok (.putfield 70, 3) := by decide +kernel
theorem dX9_learnCold_18 : decode cX9_learnCold 18 = .ok (.iconst 1, 1) := by decide +kernel
theorem dX9_learnCold_19 : decode cX9_learnCold 19 = .ok (.ireturn, 1) := by decide +kernel
theorem dX9_hasTimeFor_0 : decode cX9_hasTimeFor 0 = .ok (.aload_n 0, 1) := by decide +kernel
theorem dX9_hasTimeFor_1 : decode cX9_hasTimeFor 1 = .ok (.getfield 12, 3) := by decide +kernel
theorem dX9_hasTimeFor_4 : decode cX9_hasTimeFor 4 = .ok (.getfield 137, 3) := by decide +kernel
theorem dX9_hasTimeFor_7 : decode cX9_hasTimeFor 7 = .ok (.iload_n 1, 1) := by decide +kernel
theorem dX9_hasTimeFor_8 : decode cX9_hasTimeFor 8 = .ok (.iadd, 1) := by decide +kernel
theorem dX9_hasTimeFor_9 : decode cX9_hasTimeFor 9 = .ok (.bipush 24, 2) := by decide +kernel
theorem dX9_hasTimeFor_11 : decode cX9_hasTimeFor 11 = .ok (.idiv, 1) := by decide +kernel
theorem dX9_hasTimeFor_12 : decode cX9_hasTimeFor 12 = .ok (.aload_n 0, 1) := by decide +kernel
theorem dX9_hasTimeFor_13 : decode cX9_hasTimeFor 13 = .ok (.getfield 12, 3) := by decide +kernel
theorem dX9_hasTimeFor_16 : decode cX9_hasTimeFor 16 = .ok (.getfield 140, 3) := by decide +kernel
theorem dX9_hasTimeFor_19 : decode cX9_hasTimeFor 19 = .ok (.iadd, 1) := by decide +kernel
theorem dX9_hasTimeFor_20 : decode cX9_hasTimeFor 20 = .ok (.sipush 9999, 3) := by decide +kernel
theorem dX9_hasTimeFor_23 : decode cX9_hasTimeFor 23 = .ok (.if_icmp .gt 7, 3) := by decide +kernel
theorem dX9_hasTimeFor_26 : decode cX9_hasTimeFor 26 = .ok (.iconst 1, 1) := by decide +kernel
theorem dX9_hasTimeFor_27 : decode cX9_hasTimeFor 27 = .ok (.goto 4, 3) := by decide +kernel
theorem dX9_hasTimeFor_30 : decode cX9_hasTimeFor 30 = .ok (.iconst 0, 1) := by decide +kernel
theorem dX9_hasTimeFor_31 : decode cX9_hasTimeFor 31 = .ok (.ireturn, 1) := by decide +kernel
theorem dX9_weightOf_0 : decode cX9_weightOf 0 = .ok (.aload_n 0, 1) := by decide +kernel
theorem dX9_weightOf_1 : decode cX9_weightOf 1 = .ok (.getfield 42, 3) := by decide +kernel
theorem dX9_weightOf_4 : decode cX9_weightOf 4 = .ok (.iload_n 1, 1) := by decide +kernel
theorem dX9_weightOf_5 : decode cX9_weightOf 5 = .ok (.aload_n 0, 1) := by decide +kernel
theorem dX9_weightOf_6 : decode cX9_weightOf 6 = .ok (.getfield 28, 3) := by decide +kernel
theorem dX9_weightOf_9 : decode cX9_weightOf 9 = .ok (.aload_n 0, 1) := by decide +kernel
theorem dX9_weightOf_10 : decode cX9_weightOf 10 = .ok (.getfield 12, 3) := by decide +kernel
theorem dX9_weightOf_13 : decode cX9_weightOf 13 = .ok (.invokevirtual 143, 3) := by decide +kernel
theorem dX9_weightOf_16 : decode cX9_weightOf 16 = .ok (.ireturn, 1) := by decide +kernel
theorem dX9_passHour_0 : decode cX9_passHour 0 = .ok (.aload_n 0, 1) := by decide +kernel
theorem dX9_passHour_1 : decode cX9_passHour 1 = .ok (.aload_n 0, 1) := by decide +kernel
theorem dX9_passHour_2 : decode cX9_passHour 2 = .ok (.invokevirtual 147, 3) := by decide +kernel
theorem dX9_passHour_5 : decode cX9_passHour 5 = .ok (.invokevirtual 150, 3) := by decide +kernel
theorem dX9_passHour_8 : decode cX9_passHour 8 = .ok (.istore_n 1, 1) := by decide +kernel
theorem dX9_passHour_9 : decode cX9_passHour 9 = .ok (.aload_n 0, 1) := by decide +kernel
theorem dX9_passHour_10 : decode cX9_passHour 10 = .ok (.getfield 12, 3) := by decide +kernel
theorem dX9_passHour_13 : decode cX9_passHour 13 = .ok (.dup, 1) := by decide +kernel
theorem dX9_passHour_14 : decode cX9_passHour 14 = .ok (.getfield 137, 3) := by decide +kernel
theorem dX9_passHour_17 : decode cX9_passHour 17 = .ok (.iconst 1, 1) := by decide +kernel
theorem dX9_passHour_18 : decode cX9_passHour 18 = .ok (.iadd, 1) := by decide +kernel
theorem dX9_passHour_19 : decode cX9_passHour 19 = .ok (.putfield 137, 3) := by decide +kernel
theorem dX9_passHour_22 : decode cX9_passHour 22 = .ok (.aload_n 0, 1) := by decide +kernel
theorem dX9_passHour_23 : decode cX9_passHour 23 = .ok (.getfield 12, 3) := by decide +kernel
theorem dX9_passHour_26 : decode cX9_passHour 26 = .ok (.getfield 137, 3) := by decide +kernel
theorem dX9_passHour_29 : decode cX9_passHour 29 = .ok (.bipush 24, 2) := by decide +kernel
theorem dX9_passHour_31 : decode cX9_passHour 31 = .ok (.if_icmp .lt 7, 3) := by decide +kernel
theorem dX9_passHour_34 : decode cX9_passHour 34 = .ok (.aload_n 0, 1) := by decide +kernel
theorem dX9_passHour_35 : decode cX9_passHour 35 = .ok (.invokevirtual 154, 3) := by decide +kernel
theorem dX9_passHour_38 : decode cX9_passHour 38 = .ok (.iload_n 1, 1) := by decide +kernel
theorem dX9_passHour_39 : decode cX9_passHour 39 = .ok (.ireturn, 1) := by decide +kernel
theorem dX9_frostNow_0 : decode cX9_frostNow 0 = .ok (.aload_n 0, 1) := by decide +kernel
theorem dX9_frostNow_1 : decode cX9_frostNow 1 = .ok (.getfield 12, 3) := by decide +kernel
theorem dX9_frostNow_4 : decode cX9_frostNow 4 = .ok (.getfield 137, 3) := by decide +kernel
theorem dX9_frostNow_7 : decode cX9_frostNow 7 = .ok (.bipush 6, 2) := by decide +kernel
theorem dX9_frostNow_9 : decode cX9_frostNow 9 = .ok (.bipush 20, 2) := by decide +kernel
theorem dX9_frostNow_11 : decode cX9_frostNow 11 = .ok (.invokestatic 113, 3) := by decide +kernel
theorem dX9_frostNow_14 : decode cX9_frostNow 14 = .ok (.ifCond .eq 5, 3) := by decide +kernel
theorem dX9_frostNow_17 : decode cX9_frostNow 17 = .ok (.iconst 0, 1) := by decide +kernel
theorem dX9_frostNow_18 : decode cX9_frostNow 18 = .ok (.ireturn, 1) := by decide +kernel
theorem dX9_frostNow_19 : decode cX9_frostNow 19 = .ok (.aload_n 0, 1) := by decide +kernel
theorem dX9_frostNow_20 : decode cX9_frostNow 20 = .ok (.getfield 12, 3) := by decide +kernel
theorem dX9_frostNow_23 : decode cX9_frostNow 23 = .ok (.sipush 1000, 3) := by decide +kernel
theorem dX9_frostNow_26 : decode cX9_frostNow 26 = .ok (.invokevirtual 157, 3) := by decide +kernel
theorem dX9_frostNow_29 : decode cX9_frostNow 29 = .ok (.aload_n 0, 1) := by decide +kernel
theorem dX9_frostNow_30 : decode cX9_frostNow 30 = .ok (.getfield 70, 3) := by decide +kernel
theorem dX9_frostNow_33 : decode cX9_frostNow 33 = .ok (.if_icmp .ge 10, 3) := by decide +kernel
theorem dX9_frostNow_36 : decode cX9_frostNow 36 = .ok (.aload_n 0, 1) := by decide +kernel
theorem dX9_frostNow_37 : decode cX9_frostNow 37 = .ok (.getfield 66, 3) := by decide +kernel
theorem dX9_frostNow_40 : decode cX9_frostNow 40 = .ok (.goto 4, 3) := by decide +kernel
theorem dX9_frostNow_43 : decode cX9_frostNow 43 = .ok (.iconst 0, 1) := by decide +kernel
theorem dX9_frostNow_44 : decode cX9_frostNow 44 = .ok (.ireturn, 1) := by decide +kernel
theorem dX9_pull_0 : decode cX9_pull 0 = .ok (.aload_n 0, 1) := by decide +kernel
theorem dX9_pull_1 : decode cX9_pull 1 = .ok (.getfield 12, 3) := by decide +kernel
theorem dX9_pull_4 : decode cX9_pull 4 = .ok (.getfield 137, 3) := by decide +kernel
theorem dX9_pull_7 : decode cX9_pull 7 = .ok (.iconst 0, 1) := by decide +kernel
theorem dX9_pull_8 : decode cX9_pull 8 = .ok (.bipush 23, 2) := by decide +kernel
theorem dX9_pull_10 : decode cX9_pull 10 = .ok (.invokestatic 113, 3) := by decide +kernel
theorem dX9_pull_13 : decode cX9_pull 13 = .ok (.ifCond .ne 5, 3) := by decide +kernel
theorem dX9_pull_16 : decode cX9_pull 16 = .ok (.iconst 0, 1) := by decide +kernel
theorem dX9_pull_17 : decode cX9_pull 17 = .ok (.ireturn, 1) := by decide +kernel
theorem dX9_pull_18 : decode cX9_pull 18 = .ok (.aload_n 0, 1) := by decide +kernel
theorem dX9_pull_19 : decode cX9_pull 19 = .ok (.getfield 35, 3) := by decide +kernel
theorem dX9_pull_22 : decode cX9_pull 22 = .ok (.getfield 160, 3) := by decide +kernel
theorem dX9_pull_25 : decode cX9_pull 25 = .ok (.aload_n 0, 1) := by decide +kernel
theorem dX9_pull_26 : decode cX9_pull 26 = .ok (.getfield 12, 3) := by decide +kernel
theorem dX9_pull_29 : decode cX9_pull 29 = .ok (.getfield 137, 3) := by decide +kernel
theorem dX9_pull_32 : decode cX9_pull 32 = .ok (.iaload, 1) := by decide +kernel
theorem dX9_pull_33 : decode cX9_pull 33 = .ok (.istore_n 2, 1) := by decide +kernel
theorem dX9_pull_34 : decode cX9_pull 34 = .ok (.aload_n 0, 1) := by decide +kernel
theorem dX9_pull_35 : decode cX9_pull 35 = .ok (.getfield 35, 3) := by decide +kernel
theorem dX9_pull_38 : decode cX9_pull 38 = .ok (.iload_n 2, 1) := by decide +kernel
theorem dX9_pull_39 : decode cX9_pull 39 = .ok (.aload_n 0, 1) := by decide +kernel
theorem dX9_pull_40 : decode cX9_pull 40 = .ok (.getfield 12, 3) := by decide +kernel
theorem dX9_pull_43 : decode cX9_pull 43 = .ok (.getfield 140, 3) := by decide +kernel
theorem dX9_pull_46 : decode cX9_pull 46 = .ok (.invokevirtual 163, 3) := by decide +kernel
theorem dX9_pull_49 : decode cX9_pull 49 = .ok (.istore_n 3, 1) := by decide +kernel
theorem dX9_pull_50 : decode cX9_pull 50 = .ok (.aload_n 0, 1) := by decide +kernel
theorem dX9_pull_51 : decode cX9_pull 51 = .ok (.getfield 21, 3) := by decide +kernel
theorem dX9_pull_54 : decode cX9_pull 54 = .ok (.aload_n 0, 1) := by decide +kernel
theorem dX9_pull_55 : decode cX9_pull 55 = .ok (.getfield 12, 3) := by decide +kernel
theorem dX9_pull_58 : decode cX9_pull 58 = .ok (.invokevirtual 167, 3) := by decide +kernel
theorem dX9_pull_61 : decode cX9_pull 61 = .ok (.istore 4, 2) := by decide +kernel
theorem dX9_pull_63 : decode cX9_pull 63 = .ok (.aload_n 0, 1) := by decide +kernel
theorem dX9_pull_64 : decode cX9_pull 64 = .ok (.getfield 28, 3) := by decide +kernel
theorem dX9_pull_67 : decode cX9_pull 67 = .ok (.iload_n 2, 1) := by decide +kernel
theorem dX9_pull_68 : decode cX9_pull 68 = .ok (.invokevirtual 122, 3) := by decide +kernel
theorem dX9_pull_71 : decode cX9_pull 71 = .ok (.ifCond .eq 19, 3) := by decide +kernel
theorem dX9_pull_74 : decode cX9_pull 74 = .ok (.aload_n 0, 1) := by decide +kernel
theorem dX9_pull_75 : decode cX9_pull 75 = .ok (.getfield 28, 3) := by decide +kernel
theorem dX9_pull_78 : decode cX9_pull 78 = .ok (.iload_n 3, 1) := by decide +kernel
theorem dX9_pull_79 : decode cX9_pull 79 = .ok (.invokevirtual 122, 3) := by decide +kernel
theorem dX9_pull_82 : decode cX9_pull 82 = .ok (.ifCond .eq 8, 3) := by decide +kernel
theorem dX9_pull_85 : decode cX9_pull 85 = .ok (.iload 4, 2) := by decide +kernel
theorem dX9_pull_87 : decode cX9_pull 87 = .ok (.ifCond .ne 5, 3) := by decide +kernel
theorem dX9_pull_90 : decode cX9_pull 90 = .ok (.iconst 0, 1) := by decide +kernel
theorem dX9_pull_91 : decode cX9_pull 91 = .ok (.ireturn, 1) := by decide +kernel
theorem dX9_pull_92 : decode cX9_pull 92 = .ok (.iload 4, 2) := by decide +kernel
theorem dX9_pull_94 : decode cX9_pull 94 = .ok (.aload_n 0, 1) := by decide +kernel
theorem dX9_pull_95 : decode cX9_pull 95 = .ok (.getfield 28, 3) := by decide +kernel
theorem dX9_pull_98 : decode cX9_pull 98 = .ok (.iload_n 3, 1) := by decide +kernel
theorem dX9_pull_99 : decode cX9_pull 99 = .ok (.iload_n 1, 1) := by decide +kernel
theorem dX9_pull_100 : decode cX9_pull 100 = .ok (.invokevirtual 171, 3) := by decide +kernel
theorem dX9_pull_103 : decode cX9_pull 103 = .ok (.invokestatic 174, 3) := by decide +kernel
theorem dX9_pull_106 : decode cX9_pull 106 = .ok (.istore 5, 2) := by decide +kernel
theorem dX9_pull_108 : decode cX9_pull 108 = .ok (.aload_n 0, 1) := by decide +kernel
theorem dX9_pull_109 : decode cX9_pull 109 = .ok (.getfield 21, 3) := by decide +kernel
theorem dX9_pull_112 : decode cX9_pull 112 = .ok (.iload 5, 2) := by decide +kernel
theorem dX9_pull_114 : decode cX9_pull 114 = .ok (.aload_n 0, 1) := by decide +kernel
theorem dX9_pull_115 : decode cX9_pull 115 = .ok (.getfield 12, 3) := by decide +kernel
theorem dX9_pull_118 : decode cX9_pull 118 = .ok (.invokevirtual 179, 3) := by decide +kernel
theorem dX9_pull_121 : decode cX9_pull 121 = .ok (.aload_n 0, 1) := by decide +kernel
theorem dX9_pull_122 : decode cX9_pull 122 = .ok (.getfield 12, 3) := by decide +kernel
theorem dX9_pull_125 : decode cX9_pull 125 = .ok (.getfield 183, 3) := by decide +kernel
theorem dX9_pull_128 : decode cX9_pull 128 = .ok (.iload_n 3, 1) := by decide +kernel
theorem dX9_pull_129 : decode cX9_pull 129 = .ok (.dup2, 1) := by decide +kernel
theorem dX9_pull_130 : decode cX9_pull 130 = .ok (.iaload, 1) := by decide +kernel
theorem dX9_pull_131 : decode cX9_pull 131 = .ok (.iload 5, 2) := by decide +kernel
theorem dX9_pull_133 : decode cX9_pull 133 = .ok (.iadd, 1) := by decide +kernel
theorem dX9_pull_134 : decode cX9_pull 134 = .ok (.iastore, 1) := by decide +kernel
theorem dX9_pull_135 : decode cX9_pull 135 = .ok (.aload_n 0, 1) := by decide +kernel
theorem dX9_pull_136 : decode cX9_pull 136 = .ok (.getfield 12, 3) := by decide +kernel
theorem dX9_pull_139 : decode cX9_pull 139 = .ok (.getfield 186, 3) := by decide +kernel
theorem dX9_pull_142 : decode cX9_pull 142 = .ok (.iload_n 3, 1) := by decide +kernel
theorem dX9_pull_143 : decode cX9_pull 143 = .ok (.dup2, 1) := by decide +kernel
theorem dX9_pull_144 : decode cX9_pull 144 = .ok (.iaload, 1) := by decide +kernel
theorem dX9_pull_145 : decode cX9_pull 145 = .ok (.iload 5, 2) := by decide +kernel
theorem dX9_pull_147 : decode cX9_pull 147 = .ok (.iadd, 1) := by decide +kernel
theorem dX9_pull_148 : decode cX9_pull 148 = .ok (.iastore, 1) := by decide +kernel
theorem dX9_pull_149 : decode cX9_pull 149 = .ok (.iload_n 3, 1) := by decide +kernel
theorem dX9_pull_150 : decode cX9_pull 150 = .ok (.iload_n 2, 1) := by decide +kernel
theorem dX9_pull_151 : decode cX9_pull 151 = .ok (.if_icmp .eq 21, 3) := by decide +kernel
theorem dX9_pull_154 : decode cX9_pull 154 = .ok (.aload_n 0, 1) := by decide +kernel
theorem dX9_pull_155 : decode cX9_pull 155 = .ok (.getfield 12, 3) := by decide +kernel
theorem dX9_pull_158 : decode cX9_pull 158 = .ok (.getfield 189, 3) := by decide +kernel
theorem dX9_pull_161 : decode cX9_pull 161 = .ok (.iload_n 2, 1) := by decide +kernel
theorem dX9_pull_162 : decode cX9_pull 162 = .ok (.bipush 9, 2) := by decide +kernel
theorem dX9_pull_164 : decode cX9_pull 164 = .ok (.imul, 1) := by decide +kernel
theorem dX9_pull_165 : decode cX9_pull 165 = .ok (.iload_n 3, 1) := by decide +kernel
theorem dX9_pull_166 : decode cX9_pull 166 = .ok (.iadd, 1) := by decide +kernel
theorem dX9_pull_167 : decode cX9_pull 167 = .ok (.dup2, 1) := by decide +kernel
theorem dX9_pull_168 : decode cX9_pull 168 = .ok (.iaload, 1) := by decide +kernel
theorem dX9_pull_169 : decode cX9_pull 169 = .ok (.iconst 1, 1) := by decide +kernel
theorem dX9_pull_170 : decode cX9_pull 170 = .ok (.iadd, 1) := by decide +kernel
theorem dX9_pull_171 : decode cX9_pull 171 = .ok (.iastore, 1) := by decide +kernel
theorem dX9_pull_172 : decode cX9_pull 172 = .ok (.iload 5, 2) := by decide +kernel
theorem dX9_pull_174 : decode cX9_pull 174 = .ok (.ireturn, 1) := by decide +kernel
theorem dX9_passMidnight_0 : decode cX9_passMidnight 0 = .ok (.aload_n 0, 1) := by decide +kernel
theorem dX9_passMidnight_1 : decode cX9_passMidnight 1 = .ok (.invokevirtual 192, 3) := by decide +kernel
theorem dX9_passMidnight_4 : decode cX9_passMidnight 4 = .ok (.iconst 0, 1) := by decide +kernel
theorem dX9_passMidnight_5 : decode cX9_passMidnight 5 = .ok (.istore_n 1, 1) := by decide +kernel
theorem dX9_passMidnight_6 : decode cX9_passMidnight 6 = .ok (.iload_n 1, 1) := by decide +kernel
theorem dX9_passMidnight_7 : decode cX9_passMidnight 7 = .ok (.aload_n 0, 1) := by decide +kernel
theorem dX9_passMidnight_8 : decode cX9_passMidnight 8 = .ok (.getfield 28, 3) := by decide +kernel
theorem dX9_passMidnight_11 : decode cX9_passMidnight 11 = .ok (.getfield 195, 3) := by decide +kernel
theorem dX9_passMidnight_14 : decode cX9_passMidnight 14 = .ok (.if_icmp .ge 14, 3) := by decide +kernel
theorem dX9_passMidnight_17 : decode cX9_passMidnight 17 = .ok (.aload_n 0, 1) := by decide +kernel
theorem dX9_passMidnight_18 : decode cX9_passMidnight 18 = .ok (.iload_n 1, 1) := by decide +kernel
theorem dX9_passMidnight_19 : decode cX9_passMidnight 19 = .ok (.invokevirtual 198, 3) := by decide +kernel
theorem dX9_passMidnight_22 : decode cX9_passMidnight 22 = .ok (.iinc 1 1, 3) := by decide +kernel
theorem dX9_passMidnight_25 : decode cX9_passMidnight 25 = .ok (.goto (-19), 3) := by decide +kernel
theorem dX9_passMidnight_28 : decode cX9_passMidnight 28 = .ok (.aload_n 0, 1) := by decide +kernel
theorem dX9_passMidnight_29 : decode cX9_passMidnight 29 = .ok (.getfield 12, 3) := by decide +kernel
theorem dX9_passMidnight_32 : decode cX9_passMidnight 32 = .ok (.invokevirtual 201, 3) := by decide +kernel
theorem dX9_passMidnight_35 : decode cX9_passMidnight 35 = .ok (.aload_n 0, 1) := by decide +kernel
theorem dX9_passMidnight_36 : decode cX9_passMidnight 36 = .ok (.getfield 12, 3) := by decide +kernel
theorem dX9_passMidnight_39 : decode cX9_passMidnight 39 = .ok (.iconst 0, 1) := by decide +kernel
theorem dX9_passMidnight_40 : decode cX9_passMidnight 40 = .ok (.putfield 137, 3) := by decide +kernel
theorem dX9_passMidnight_43 : decode cX9_passMidnight 43 = .ok (.aload_n 0, 1) := by decide +kernel
theorem dX9_passMidnight_44 : decode cX9_passMidnight 44 = .ok (.getfield 12, 3) := by decide +kernel
theorem dX9_passMidnight_47 : decode cX9_passMidnight 47 = .ok (.dup, 1) := by decide +kernel
theorem dX9_passMidnight_48 : decode cX9_passMidnight 48 = .ok (.getfield 140, 3) := by decide +kernel
theorem dX9_passMidnight_51 : decode cX9_passMidnight 51 = .ok (.iconst 1, 1) := by decide +kernel
theorem dX9_passMidnight_52 : decode cX9_passMidnight 52 = .ok (.iadd, 1) := by decide +kernel
theorem dX9_passMidnight_53 : decode cX9_passMidnight 53 = .ok (.putfield 140, 3) := by decide +kernel
theorem dX9_passMidnight_56 : decode cX9_passMidnight 56 = .ok (.return_, 1) := by decide +kernel
theorem dX9_shareTrough_0 : decode cX9_shareTrough 0 = .ok (.iconst 0, 1) := by decide +kernel
theorem dX9_shareTrough_1 : decode cX9_shareTrough 1 = .ok (.istore_n 1, 1) := by decide +kernel
theorem dX9_shareTrough_2 : decode cX9_shareTrough 2 = .ok (.iconst 0, 1) := by decide +kernel
theorem dX9_shareTrough_3 : decode cX9_shareTrough 3 = .ok (.istore_n 2, 1) := by decide +kernel
theorem dX9_shareTrough_4 : decode cX9_shareTrough 4 = .ok (.iload_n 2, 1) := by decide +kernel
theorem dX9_shareTrough_5 : decode cX9_shareTrough 5 = .ok (.aload_n 0, 1) := by decide +kernel
theorem dX9_shareTrough_6 : decode cX9_shareTrough 6 = .ok (.getfield 28, 3) := by decide +kernel
theorem dX9_shareTrough_9 : decode cX9_shareTrough 9 = .ok (.getfield 195, 3) := by decide +kernel
theorem dX9_shareTrough_12 : decode cX9_shareTrough 12 = .ok (.if_icmp .ge 40, 3) := by decide +kernel
theorem dX9_shareTrough_15 : decode cX9_shareTrough 15 = .ok (.aload_n 0, 1) := by decide +kernel
theorem dX9_shareTrough_16 : decode cX9_shareTrough 16 = .ok (.getfield 46, 3) := by decide +kernel
theorem dX9_shareTrough_19 : decode cX9_shareTrough 19 = .ok (.iload_n 2, 1) := by decide +kernel
theorem dX9_shareTrough_20 : decode cX9_shareTrough 20 = .ok (.aload_n 0, 1) := by decide +kernel
theorem dX9_shareTrough_21 : decode cX9_shareTrough 21 = .ok (.getfield 42, 3) := by decide +kernel
theorem dX9_shareTrough_24 : decode cX9_shareTrough 24 = .ok (.iload_n 2, 1) := by decide +kernel
theorem dX9_shareTrough_25 : decode cX9_shareTrough 25 = .ok (.aload_n 0, 1) := by decide +kernel
theorem dX9_shareTrough_26 : decode cX9_shareTrough 26 = .ok (.getfield 28, 3) := by decide +kernel
theorem dX9_shareTrough_29 : decode cX9_shareTrough 29 = .ok (.aload_n 0, 1) := by decide +kernel
theorem dX9_shareTrough_30 : decode cX9_shareTrough 30 = .ok (.getfield 12, 3) := by decide +kernel
theorem dX9_shareTrough_33 : decode cX9_shareTrough 33 = .ok (.invokevirtual 143, 3) := by decide +kernel
theorem dX9_shareTrough_36 : decode cX9_shareTrough 36 = .ok (.iastore, 1) := by decide +kernel
theorem dX9_shareTrough_37 : decode cX9_shareTrough 37 = .ok (.iload_n 1, 1) := by decide +kernel
theorem dX9_shareTrough_38 : decode cX9_shareTrough 38 = .ok (.aload_n 0, 1) := by decide +kernel
theorem dX9_shareTrough_39 : decode cX9_shareTrough 39 = .ok (.getfield 46, 3) := by decide +kernel
theorem dX9_shareTrough_42 : decode cX9_shareTrough 42 = .ok (.iload_n 2, 1) := by decide +kernel
theorem dX9_shareTrough_43 : decode cX9_shareTrough 43 = .ok (.iaload, 1) := by decide +kernel
theorem dX9_shareTrough_44 : decode cX9_shareTrough 44 = .ok (.iadd, 1) := by decide +kernel
theorem dX9_shareTrough_45 : decode cX9_shareTrough 45 = .ok (.istore_n 1, 1) := by decide +kernel
theorem dX9_shareTrough_46 : decode cX9_shareTrough 46 = .ok (.iinc 2 1, 3) := by decide +kernel
theorem dX9_shareTrough_49 : decode cX9_shareTrough 49 = .ok (.goto (-45), 3) := by decide +kernel
theorem dX9_shareTrough_52 : decode cX9_shareTrough 52 = .ok (.iload_n 1, 1) := by decide +kernel
theorem dX9_shareTrough_53 : decode cX9_shareTrough 53 = .ok (.ifCond .gt 4, 3) := by decide +kernel
theorem dX9_shareTrough_56 : decode cX9_shareTrough 56 = .ok (.return_, 1) := by decide +kernel
theorem dX9_shareTrough_57 : decode cX9_shareTrough 57 = .ok (.aload_n 0, 1) := by decide +kernel
theorem dX9_shareTrough_58 : decode cX9_shareTrough 58 = .ok (.getfield 12, 3) := by decide +kernel
theorem dX9_shareTrough_61 : decode cX9_shareTrough 61 = .ok (.getfield 204, 3) := by decide +kernel
theorem dX9_shareTrough_64 : decode cX9_shareTrough 64 = .ok (.istore_n 2, 1) := by decide +kernel
theorem dX9_shareTrough_65 : decode cX9_shareTrough 65 = .ok (.iconst 0, 1) := by decide +kernel
theorem dX9_shareTrough_66 : decode cX9_shareTrough 66 = .ok (.istore_n 3, 1) := by decide +kernel
theorem dX9_shareTrough_67 : decode cX9_shareTrough 67 = .ok (.iload_n 3, 1) := by decide +kernel
theorem dX9_shareTrough_68 : decode cX9_shareTrough 68 = .ok (.aload_n 0, 1) := by decide +kernel
theorem dX9_shareTrough_69 : decode cX9_shareTrough 69 = .ok (.getfield 28, 3) := by decide +kernel
theorem dX9_shareTrough_72 : decode cX9_shareTrough 72 = .ok (.getfield 195, 3) := by decide +kernel
theorem dX9_shareTrough_75 : decode cX9_shareTrough 75 = .ok (.if_icmp .ge 66, 3) := by decide +kernel
theorem dX9_shareTrough_78 : decode cX9_shareTrough 78 = .ok (.aload_n 0, 1) := by decide +kernel
theorem dX9_shareTrough_79 : decode cX9_shareTrough 79 = .ok (.getfield 12, 3) := by decide +kernel
theorem dX9_shareTrough_82 : decode cX9_shareTrough 82 = .ok (.getfield 204, 3) := by decide +kernel
theorem dX9_shareTrough_85 : decode cX9_shareTrough 85 = .ok (.i2l, 1) := by decide +kernel
theorem dX9_shareTrough_86 : decode cX9_shareTrough 86 = .ok (.aload_n 0, 1) := by decide +kernel
theorem dX9_shareTrough_87 : decode cX9_shareTrough 87 = .ok (.getfield 46, 3) := by decide +kernel
theorem dX9_shareTrough_90 : decode cX9_shareTrough 90 = .ok (.iload_n 3, 1) := by decide +kernel
theorem dX9_shareTrough_91 : decode cX9_shareTrough 91 = .ok (.iaload, 1) := by decide +kernel
theorem dX9_shareTrough_92 : decode cX9_shareTrough 92 = .ok (.i2l, 1) := by decide +kernel
theorem dX9_shareTrough_93 : decode cX9_shareTrough 93 = .ok (.lmul, 1) := by decide +kernel
theorem dX9_shareTrough_94 : decode cX9_shareTrough 94 = .ok (.lstore 4, 2) := by decide +kernel
theorem dX9_shareTrough_96 : decode cX9_shareTrough 96 = .ok (.lload 4, 2) := by decide +kernel
theorem dX9_shareTrough_98 : decode cX9_shareTrough 98 = .ok (.iload_n 1, 1) := by decide +kernel
theorem dX9_shareTrough_99 : decode cX9_shareTrough 99 = .ok (.i2l, 1) := by decide +kernel
theorem dX9_shareTrough_100 : decode cX9_shareTrough 100 = .ok (.ldiv, 1) := by decide +kernel
theorem dX9_shareTrough_101 : decode cX9_shareTrough 101 = .ok (.l2i, 1) := by decide +kernel
theorem dX9_shareTrough_102 : decode cX9_shareTrough 102 = .ok (.istore 6, 2) := by decide +kernel
theorem dX9_shareTrough_104 : decode cX9_shareTrough 104 = .ok (.aload_n 0, 1) := by decide +kernel
theorem dX9_shareTrough_105 : decode cX9_shareTrough 105 = .ok (.getfield 50, 3) := by decide +kernel
theorem dX9_shareTrough_108 : decode cX9_shareTrough 108 = .ok (.iload_n 3, 1) := by decide +kernel
theorem dX9_shareTrough_109 : decode cX9_shareTrough 109 = .ok (.lload 4, 2) := by decide +kernel
theorem dX9_shareTrough_111 : decode cX9_shareTrough 111 = .ok (.iload_n 1, 1) := by decide +kernel
theorem dX9_shareTrough_112 : decode cX9_shareTrough 112 = .ok (.i2l, 1) := by decide +kernel
theorem dX9_shareTrough_113 : decode cX9_shareTrough 113 = .ok (.lrem, 1) := by decide +kernel
theorem dX9_shareTrough_114 : decode cX9_shareTrough 114 = .ok (.l2i, 1) := by decide +kernel
theorem dX9_shareTrough_115 : decode cX9_shareTrough 115 = .ok (.iastore, 1) := by decide +kernel
theorem dX9_shareTrough_116 : decode cX9_shareTrough 116 = .ok (.aload_n 0, 1) := by decide +kernel
theorem dX9_shareTrough_117 : decode cX9_shareTrough 117 = .ok (.getfield 12, 3) := by decide +kernel
theorem dX9_shareTrough_120 : decode cX9_shareTrough 120 = .ok (.getfield 207, 3) := by decide +kernel
theorem dX9_shareTrough_123 : decode cX9_shareTrough 123 = .ok (.iload_n 3, 1) := by decide +kernel
theorem dX9_shareTrough_124 : decode cX9_shareTrough 124 = .ok (.dup2, 1) := by decide +kernel
theorem dX9_shareTrough_125 : decode cX9_shareTrough 125 = .ok (.iaload, 1) := by decide +kernel
theorem dX9_shareTrough_126 : decode cX9_shareTrough 126 = .ok (.iload 6, 2) := by decide +kernel
theorem dX9_shareTrough_128 : decode cX9_shareTrough 128 = .ok (.iadd, 1) := by decide +kernel
theorem dX9_shareTrough_129 : decode cX9_shareTrough 129 = .ok (.iastore, 1) := by decide +kernel
theorem dX9_shareTrough_130 : decode cX9_shareTrough 130 = .ok (.iload_n 2, 1) := by decide +kernel
theorem dX9_shareTrough_131 : decode cX9_shareTrough 131 = .ok (.iload 6, 2) := by decide +kernel
theorem dX9_shareTrough_133 : decode cX9_shareTrough 133 = .ok (.isub, 1) := by decide +kernel
theorem dX9_shareTrough_134 : decode cX9_shareTrough 134 = .ok (.istore_n 2, 1) := by decide +kernel
theorem dX9_shareTrough_135 : decode cX9_shareTrough 135 = .ok (.iinc 3 1, 3) := by decide +kernel
theorem dX9_shareTrough_138 : decode cX9_shareTrough 138 = .ok (.goto (-71), 3) := by decide +kernel
theorem dX9_shareTrough_141 : decode cX9_shareTrough 141 = .ok (.aload_n 0, 1) := by decide +kernel
theorem dX9_shareTrough_142 : decode cX9_shareTrough 142 = .ok (.getfield 12, 3) := by decide +kernel
theorem dX9_shareTrough_145 : decode cX9_shareTrough 145 = .ok (.iconst 0, 1) := by decide +kernel
theorem dX9_shareTrough_146 : decode cX9_shareTrough 146 = .ok (.putfield 204, 3) := by decide +kernel
theorem dX9_shareTrough_149 : decode cX9_shareTrough 149 = .ok (.aload_n 0, 1) := by decide +kernel
theorem dX9_shareTrough_150 : decode cX9_shareTrough 150 = .ok (.iload_n 2, 1) := by decide +kernel
theorem dX9_shareTrough_151 : decode cX9_shareTrough 151 = .ok (.invokevirtual 210, 3) := by decide +kernel
theorem dX9_shareTrough_154 : decode cX9_shareTrough 154 = .ok (.return_, 1) := by decide +kernel
theorem dX9_shareRest_0 : decode cX9_shareRest 0 = .ok (.iconst 0, 1) := by decide +kernel
theorem dX9_shareRest_1 : decode cX9_shareRest 1 = .ok (.istore_n 2, 1) := by decide +kernel
theorem dX9_shareRest_2 : decode cX9_shareRest 2 = .ok (.iload_n 2, 1) := by decide +kernel
theorem dX9_shareRest_3 : decode cX9_shareRest 3 = .ok (.iload_n 1, 1) := by decide +kernel
theorem dX9_shareRest_4 : decode cX9_shareRest 4 = .ok (.if_icmp .ge 86, 3) := by decide +kernel
theorem dX9_shareRest_7 : decode cX9_shareRest 7 = .ok (.iload_n 2, 1) := by decide +kernel
theorem dX9_shareRest_8 : decode cX9_shareRest 8 = .ok (.aload_n 0, 1) := by decide +kernel
theorem dX9_shareRest_9 : decode cX9_shareRest 9 = .ok (.getfield 28, 3) := by decide +kernel
theorem dX9_shareRest_12 : decode cX9_shareRest 12 = .ok (.getfield 195, 3) := by decide +kernel
theorem dX9_shareRest_15 : decode cX9_shareRest 15 = .ok (.if_icmp .ge 75, 3) := by decide +kernel
theorem dX9_shareRest_18 : decode cX9_shareRest 18 = .ok (.iconst 0, 1) := by decide +kernel
theorem dX9_shareRest_19 : decode cX9_shareRest 19 = .ok (.istore_n 3, 1) := by decide +kernel
theorem dX9_shareRest_20 : decode cX9_shareRest 20 = .ok (.iconst 1, 1) := by decide +kernel
theorem dX9_shareRest_21 : decode cX9_shareRest 21 = .ok (.istore 4, 2) := by decide +kernel
theorem dX9_shareRest_23 : decode cX9_shareRest 23 = .ok (.iload 4, 2) := by decide +kernel
theorem dX9_shareRest_25 : decode cX9_shareRest 25 = .ok (.aload_n 0, 1) := by decide +kernel
theorem dX9_shareRest_26 : decode cX9_shareRest 26 = .ok (.getfield 28, 3) := by decide +kernel
theorem dX9_shareRest_29 : decode cX9_shareRest 29 = .ok (.getfield 195, 3) := by decide +kernel
theorem dX9_shareRest_32 : decode cX9_shareRest 32 = .ok (.if_icmp .ge 32, 3) := by decide +kernel
theorem dX9_shareRest_35 : decode cX9_shareRest 35 = .ok (.aload_n 0, 1) := by decide +kernel
theorem dX9_shareRest_36 : decode cX9_shareRest 36 = .ok (.getfield 50, 3) := by decide +kernel
theorem dX9_shareRest_39 : decode cX9_shareRest 39 = .ok (.iload 4, 2) := by decide +kernel
theorem dX9_shareRest_41 : decode cX9_shareRest 41 = .ok (.iaload, 1) := by decide +kernel
theorem dX9_shareRest_42 : decode cX9_shareRest 42 = .ok (.aload_n 0, 1) := by decide +kernel
theorem dX9_shareRest_43 : decode cX9_shareRest 43 = .ok (.getfield 50, 3) := by decide +kernel
theorem dX9_shareRest_46 : decode cX9_shareRest 46 = .ok (.iload_n 3, 1) := by decide +kernel
theorem dX9_shareRest_47 : decode cX9_shareRest 47 = .ok (.iaload, 1) := by decide +kernel
theorem dX9_shareRest_48 : decode cX9_shareRest 48 = .ok (.if_icmp .le 8, 3) := by decide +kernel
theorem dX9_shareRest_51 : decode cX9_shareRest 51 = .ok (.iload 4, 2) := by decide +kernel
theorem dX9_shareRest_53 : decode cX9_shareRest 53 = .ok (.goto 4, 3) := by decide +kernel
theorem dX9_shareRest_56 : decode cX9_shareRest 56 = .ok (.iload_n 3, 1) := by decide +kernel
theorem dX9_shareRest_57 : decode cX9_shareRest 57 = .ok (.istore_n 3, 1) := by decide +kernel
theorem dX9_shareRest_58 : decode cX9_shareRest 58 = .ok (.iinc 4 1, 3) := by decide +kernel
theorem dX9_shareRest_61 : decode cX9_shareRest 61 = .ok (.goto (-38), 3) := by decide +kernel
theorem dX9_shareRest_64 : decode cX9_shareRest 64 = .ok (.aload_n 0, 1) := by decide +kernel
theorem dX9_shareRest_65 : decode cX9_shareRest 65 = .ok (.getfield 12, 3) := by decide +kernel
theorem dX9_shareRest_68 : decode cX9_shareRest 68 = .ok (.getfield 207, 3) := by decide +kernel
theorem dX9_shareRest_71 : decode cX9_shareRest 71 = .ok (.iload_n 3, 1) := by decide +kernel
theorem dX9_shareRest_72 : decode cX9_shareRest 72 = .ok (.dup2, 1) := by decide +kernel
theorem dX9_shareRest_73 : decode cX9_shareRest 73 = .ok (.iaload, 1) := by decide +kernel
theorem dX9_shareRest_74 : decode cX9_shareRest 74 = .ok (.iconst 1, 1) := by decide +kernel
theorem dX9_shareRest_75 : decode cX9_shareRest 75 = .ok (.iadd, 1) := by decide +kernel
theorem dX9_shareRest_76 : decode cX9_shareRest 76 = .ok (.iastore, 1) := by decide +kernel
theorem dX9_shareRest_77 : decode cX9_shareRest 77 = .ok (.aload_n 0, 1) := by decide +kernel
theorem dX9_shareRest_78 : decode cX9_shareRest 78 = .ok (.getfield 50, 3) := by decide +kernel
theorem dX9_shareRest_81 : decode cX9_shareRest 81 = .ok (.iload_n 3, 1) := by decide +kernel
theorem dX9_shareRest_82 : decode cX9_shareRest 82 = .ok (.iconst (-1), 1) := by decide +kernel
theorem dX9_shareRest_83 : decode cX9_shareRest 83 = .ok (.iastore, 1) := by decide +kernel
theorem dX9_shareRest_84 : decode cX9_shareRest 84 = .ok (.iinc 2 1, 3) := by decide +kernel
theorem dX9_shareRest_87 : decode cX9_shareRest 87 = .ok (.goto (-85), 3) := by decide +kernel
theorem dX9_shareRest_90 : decode cX9_shareRest 90 = .ok (.return_, 1) := by decide +kernel
theorem dX9_drink_0 : decode cX9_drink 0 = .ok (.aload_n 0, 1) := by decide +kernel
theorem dX9_drink_1 : decode cX9_drink 1 = .ok (.getfield 28, 3) := by decide +kernel
theorem dX9_drink_4 : decode cX9_drink 4 = .ok (.getfield 213, 3) := by decide +kernel
theorem dX9_drink_7 : decode cX9_drink 7 = .ok (.iconst 3, 1) := by decide +kernel
theorem dX9_drink_8 : decode cX9_drink 8 = .ok (.aaload, 1) := by decide +kernel
theorem dX9_drink_9 : decode cX9_drink 9 = .ok (.iload_n 1, 1) := by decide +kernel
theorem dX9_drink_10 : decode cX9_drink 10 = .ok (.iaload, 1) := by decide +kernel
theorem dX9_drink_11 : decode cX9_drink 11 = .ok (.istore_n 2, 1) := by decide +kernel
theorem dX9_drink_12 : decode cX9_drink 12 = .ok (.iload_n 2, 1) := by decide +kernel
theorem dX9_drink_13 : decode cX9_drink 13 = .ok (.aload_n 0, 1) := by decide +kernel
theorem dX9_drink_14 : decode cX9_drink 14 = .ok (.getfield 12, 3) := by decide +kernel
theorem dX9_drink_17 : decode cX9_drink 17 = .ok (.getfield 207, 3) := by decide +kernel
theorem dX9_drink_20 : decode cX9_drink 20 = .ok (.iload_n 1, 1) := by decide +kernel
theorem dX9_drink_21 : decode cX9_drink 21 = .ok (.iaload, 1) := by decide +kernel
theorem dX9_drink_22 : decode cX9_drink 22 = .ok (.invokestatic 174, 3) := by decide +kernel
theorem dX9_drink_25 : decode cX9_drink 25 = .ok (.istore_n 3, 1) := by decide +kernel
theorem dX9_drink_26 : decode cX9_drink 26 = .ok (.iload_n 3, 1) := by decide +kernel
theorem dX9_drink_27 : decode cX9_drink 27 = .ok (.iload_n 2, 1) := by decide +kernel
theorem dX9_drink_28 : decode cX9_drink 28 = .ok (.if_icmp .ge 16, 3) := by decide +kernel
theorem dX9_drink_31 : decode cX9_drink 31 = .ok (.aload_n 0, 1) := by decide +kernel
theorem dX9_drink_32 : decode cX9_drink 32 = .ok (.getfield 12, 3) := by decide +kernel
theorem dX9_drink_35 : decode cX9_drink 35 = .ok (.getfield 217, 3) := by decide +kernel
theorem dX9_drink_38 : decode cX9_drink 38 = .ok (.iload_n 1, 1) := by decide +kernel
theorem dX9_drink_39 : decode cX9_drink 39 = .ok (.dup2, 1) := by decide +kernel
theorem dX9_drink_40 : decode cX9_drink 40 = .ok (.iaload, 1) := by decide +kernel
theorem dX9_drink_41 : decode cX9_drink 41 = .ok (.iconst 1, 1) := by decide +kernel
theorem dX9_drink_42 : decode cX9_drink 42 = .ok (.iadd, 1) := by decide +kernel
theorem dX9_drink_43 : decode cX9_drink 43 = .ok (.iastore, 1) := by decide +kernel
theorem dX9_drink_44 : decode cX9_drink 44 = .ok (.aload_n 0, 1) := by decide +kernel
theorem dX9_drink_45 : decode cX9_drink 45 = .ok (.getfield 12, 3) := by decide +kernel
theorem dX9_drink_48 : decode cX9_drink 48 = .ok (.getfield 207, 3) := by decide +kernel
theorem dX9_drink_51 : decode cX9_drink 51 = .ok (.iload_n 1, 1) := by decide +kernel
theorem dX9_drink_52 : decode cX9_drink 52 = .ok (.dup2, 1) := by decide +kernel
theorem dX9_drink_53 : decode cX9_drink 53 = .ok (.iaload, 1) := by decide +kernel
theorem dX9_drink_54 : decode cX9_drink 54 = .ok (.iload_n 3, 1) := by decide +kernel
theorem dX9_drink_55 : decode cX9_drink 55 = .ok (.isub, 1) := by decide +kernel
theorem dX9_drink_56 : decode cX9_drink 56 = .ok (.iastore, 1) := by decide +kernel
theorem dX9_drink_57 : decode cX9_drink 57 = .ok (.aload_n 0, 1) := by decide +kernel
theorem dX9_drink_58 : decode cX9_drink 58 = .ok (.getfield 12, 3) := by decide +kernel
theorem dX9_drink_61 : decode cX9_drink 61 = .ok (.dup, 1) := by decide +kernel
theorem dX9_drink_62 : decode cX9_drink 62 = .ok (.getfield 133, 3) := by decide +kernel
theorem dX9_drink_65 : decode cX9_drink 65 = .ok (.iload_n 3, 1) := by decide +kernel
theorem dX9_drink_66 : decode cX9_drink 66 = .ok (.iadd, 1) := by decide +kernel
theorem dX9_drink_67 : decode cX9_drink 67 = .ok (.putfield 133, 3) := by decide +kernel
theorem dX9_drink_70 : decode cX9_drink 70 = .ok (.return_, 1) := by decide +kernel
theorem dX10_init_0 : decode cX10_init 0 = .ok (.aload_n 0, 1) := by decide +kernel
theorem dX10_init_1 : decode cX10_init 1 = .ok (.invokespecial 3, 3) := by decide +kernel
theorem dX10_init_4 : decode cX10_init 4 = .ok (.aload_n 0, 1) := by decide +kernel
theorem dX10_init_5 : decode cX10_init 5 = .ok (.iconst 4, 1) := by decide +kernel
theorem dX10_init_6 : decode cX10_init 6 = .ok (.newarray .int, 2) := by decide +kernel
theorem dX10_init_8 : decode cX10_init 8 = .ok (.putfield 11, 3) := by decide +kernel
theorem dX10_init_11 : decode cX10_init 11 = .ok (.aload_n 0, 1) := by decide +kernel
theorem dX10_init_12 : decode cX10_init 12 = .ok (.iconst 4, 1) := by decide +kernel
theorem dX10_init_13 : decode cX10_init 13 = .ok (.newarray .int, 2) := by decide +kernel
theorem dX10_init_15 : decode cX10_init 15 = .ok (.putfield 15, 3) := by decide +kernel
theorem dX10_init_18 : decode cX10_init 18 = .ok (.aload_n 0, 1) := by decide +kernel
theorem dX10_init_19 : decode cX10_init 19 = .ok (.iconst 4, 1) := by decide +kernel
theorem dX10_init_20 : decode cX10_init 20 = .ok (.newarray .int, 2) := by decide +kernel
theorem dX10_init_22 : decode cX10_init 22 = .ok (.putfield 18, 3) := by decide +kernel
theorem dX10_init_25 : decode cX10_init 25 = .ok (.aload_n 0, 1) := by decide +kernel
theorem dX10_init_26 : decode cX10_init 26 = .ok (.sipush 241, 3) := by decide +kernel
theorem dX10_init_29 : decode cX10_init 29 = .ok (.newarray .int, 2) := by decide +kernel
theorem dX10_init_31 : decode cX10_init 31 = .ok (.putfield 21, 3) := by decide +kernel
theorem dX10_init_34 : decode cX10_init 34 = .ok (.aload_n 0, 1) := by decide +kernel
theorem dX10_init_35 : decode cX10_init 35 = .ok (.new 24, 3) := by decide +kernel
theorem dX10_init_38 : decode cX10_init 38 = .ok (.dup, 1) := by decide +kernel
theorem dX10_init_39 : decode cX10_init 39 = .ok (.invokespecial 26, 3) := by decide +kernel
theorem dX10_init_42 : decode cX10_init 42 = .ok (.putfield 27, 3) := by decide +kernel
theorem dX10_init_45 : decode cX10_init 45 = .ok (.return_, 1) := by decide +kernel
theorem dX10_canAnswer_0 : decode cX10_canAnswer 0 = .ok (.iload_n 1, 1) := by decide +kernel
theorem dX10_canAnswer_1 : decode cX10_canAnswer 1 = .ok (.ifCond .eq 14, 3) := by decide +kernel
theorem dX10_canAnswer_4 : decode cX10_canAnswer 4 = .ok (.iload_n 1, 1) := by decide +kernel
theorem dX10_canAnswer_5 : decode cX10_canAnswer 5 = .ok (.bipush 10, 2) := by decide +kernel
theorem dX10_canAnswer_7 : decode cX10_canAnswer 7 = .ok (.bipush 13, 2) := by decide +kernel
theorem dX10_canAnswer_9 : decode cX10_canAnswer 9 = .ok (.invokestatic 31, 3) := by decide +kernel
theorem dX10_canAnswer_12 : decode cX10_canAnswer 12 = .ok (.ifCond .eq 16, 3) := by decide +kernel
theorem dX10_canAnswer_15 : decode cX10_canAnswer 15 = .ok (.iload_n 2, 1) := by decide +kernel
theorem dX10_canAnswer_16 : decode cX10_canAnswer 16 = .ok (.iconst 1, 1) := by decide +kernel
theorem dX10_canAnswer_17 : decode cX10_canAnswer 17 = .ok (.iconst 4, 1) := by decide +kernel
theorem dX10_canAnswer_18 : decode cX10_canAnswer 18 = .ok (.invokestatic 31, 3) := by decide +kernel
theorem dX10_canAnswer_21 : decode cX10_canAnswer 21 = .ok (.ifCond .eq 7, 3) := by decide +kernel
theorem dX10_canAnswer_24 : decode cX10_canAnswer 24 = .ok (.iconst 1, 1) := by decide +kernel
theorem dX10_canAnswer_25 : decode cX10_canAnswer 25 = .ok (.goto 4, 3) := by decide +kernel
theorem dX10_canAnswer_28 : decode cX10_canAnswer 28 = .ok (.iconst 0, 1) := by decide +kernel
theorem dX10_canAnswer_29 : decode cX10_canAnswer 29 = .ok (.ireturn, 1) := by decide +kernel
theorem dX10_answer_0 : decode cX10_answer 0 = .ok (.iload_n 1, 1) := by decide +kernel
theorem dX10_answer_1 : decode cX10_answer 1 = .ok (.bipush 10, 2) := by decide +kernel
theorem dX10_answer_3 : decode cX10_answer 3 = .ok (.bipush 13, 2) := by decide +kernel
theorem dX10_answer_5 : decode cX10_answer 5 = .ok (.invokestatic 31, 3) := by decide +kernel
theorem dX10_answer_8 : decode cX10_answer 8 = .ok (.ifCond .eq 15, 3) := by decide +kernel
theorem dX10_answer_11 : decode cX10_answer 11 = .ok (.aload_n 0, 1) := by decide +kernel
theorem dX10_answer_12 : decode cX10_answer 12 = .ok (.getfield 11, 3) := by decide +kernel
theorem dX10_answer_15 : decode cX10_answer 15 = .ok (.iload_n 1, 1) := by decide +kernel
theorem dX10_answer_16 : decode cX10_answer 16 = .ok (.bipush 10, 2) := by decide +kernel
theorem dX10_answer_18 : decode cX10_answer 18 = .ok (.isub, 1) := by decide +kernel
theorem dX10_answer_19 : decode cX10_answer 19 = .ok (.iaload, 1) := by decide +kernel
theorem dX10_answer_20 : decode cX10_answer 20 = .ok (.goto 7, 3) := by decide +kernel
theorem dX10_answer_23 : decode cX10_answer 23 = .ok (.aload_n 0, 1) := by decide +kernel
theorem dX10_answer_24 : decode cX10_answer 24 = .ok (.getfield 35, 3) := by decide +kernel
theorem dX10_answer_27 : decode cX10_answer 27 = .ok (.ireturn, 1) := by decide +kernel
theorem dX10_take_0 : decode cX10_take 0 = .ok (.aload_n 0, 1) := by decide +kernel
theorem dX10_take_1 : decode cX10_take 1 = .ok (.iload_n 1, 1) := by decide +kernel
theorem dX10_take_2 : decode cX10_take 2 = .ok (.putfield 35, 3) := by decide +kernel
theorem dX10_take_5 : decode cX10_take 5 = .ok (.aload_n 0, 1) := by decide +kernel
theorem dX10_take_6 : decode cX10_take 6 = .ok (.getfield 15, 3) := by decide +kernel
theorem dX10_take_9 : decode cX10_take 9 = .ok (.iconst 0, 1) := by decide +kernel
theorem dX10_take_10 : decode cX10_take 10 = .ok (.aload_n 0, 1) := by decide +kernel
theorem dX10_take_11 : decode cX10_take 11 = .ok (.getfield 11, 3) := by decide +kernel
theorem dX10_take_14 : decode cX10_take 14 = .ok (.iconst 0, 1) := by decide +kernel
theorem dX10_take_15 : decode cX10_take 15 = .ok (.iconst 4, 1) := by decide +kernel
theorem dX10_take_16 : decode cX10_take 16 = .ok (.invokestatic 39, 3) := by decide +kernel
theorem dX10_take_19 : decode cX10_take 19 = .ok (.return_, 1) := by decide +kernel
theorem dX10_nextWay_0 : decode cX10_nextWay 0 = .ok (.iconst 3, 1) := by decide +kernel
theorem dX10_nextWay_1 : decode cX10_nextWay 1 = .ok (.istore_n 2, 1) := by decide +kernel
theorem dX10_nextWay_2 : decode cX10_nextWay 2 = .ok (.iload_n 2, 1) := by decide +kernel
theorem dX10_nextWay_3 : decode cX10_nextWay 3 = .ok (.ifCond .lt 40, 3) := by decide +kernel
theorem dX10_nextWay_6 : decode cX10_nextWay 6 = .ok (.aload_n 0, 1) := by decide +kernel
theorem dX10_nextWay_7 : decode cX10_nextWay 7 = .ok (.getfield 15, 3) := by decide +kernel
theorem dX10_nextWay_10 : decode cX10_nextWay 10 = .ok (.iload_n 2, 1) := by decide +kernel
theorem dX10_nextWay_11 : decode cX10_nextWay 11 = .ok (.iaload, 1) := by decide +kernel
theorem dX10_nextWay_12 : decode cX10_nextWay 12 = .ok (.iconst 1, 1) := by decide +kernel
theorem dX10_nextWay_13 : decode cX10_nextWay 13 = .ok (.iadd, 1) := by decide +kernel
theorem dX10_nextWay_14 : decode cX10_nextWay 14 = .ok (.iload_n 1, 1) := by decide +kernel
theorem dX10_nextWay_15 : decode cX10_nextWay 15 = .ok (.if_icmp .ge 15, 3) := by decide +kernel
theorem dX10_nextWay_18 : decode cX10_nextWay 18 = .ok (.aload_n 0, 1) := by decide +kernel
theorem dX10_nextWay_19 : decode cX10_nextWay 19 = .ok (.getfield 15, 3) := by decide +kernel
theorem dX10_nextWay_22 : decode cX10_nextWay 22 = .ok (.iload_n 2, 1) := by decide +kernel
theorem dX10_nextWay_23 : decode cX10_nextWay 23 = .ok (.dup2, 1) := by decide +kernel
theorem dX10_nextWay_24 : decode cX10_nextWay 24 = .ok (.iaload, 1) := by decide +kernel
theorem dX10_nextWay_25 : decode cX10_nextWay 25 = .ok (.iconst 1, 1) := by decide +kernel
theorem dX10_nextWay_26 : decode cX10_nextWay 26 = .ok (.iadd, 1) := by decide +kernel
theorem dX10_nextWay_27 : decode cX10_nextWay 27 = .ok (.iastore, 1) := by decide +kernel
theorem dX10_nextWay_28 : decode cX10_nextWay 28 = .ok (.iconst 1, 1) := by decide +kernel
theorem dX10_nextWay_29 : decode cX10_nextWay 29 = .ok (.ireturn, 1) := by decide +kernel
theorem dX10_nextWay_30 : decode cX10_nextWay 30 = .ok (.aload_n 0, 1) := by decide +kernel
theorem dX10_nextWay_31 : decode cX10_nextWay 31 = .ok (.getfield 15, 3) := by decide +kernel
theorem dX10_nextWay_34 : decode cX10_nextWay 34 = .ok (.iload_n 2, 1) := by decide +kernel
theorem dX10_nextWay_35 : decode cX10_nextWay 35 = .ok (.iconst 0, 1) := by decide +kernel
theorem dX10_nextWay_36 : decode cX10_nextWay 36 = .ok (.iastore, 1) := by decide +kernel
theorem dX10_nextWay_37 : decode cX10_nextWay 37 = .ok (.iinc 2 (-1), 3) := by decide +kernel
theorem dX10_nextWay_40 : decode cX10_nextWay 40 = .ok (.goto (-38), 3) := by decide +kernel
theorem dX10_nextWay_43 : decode cX10_nextWay 43 = .ok (.iconst 0, 1) := by decide +kernel
theorem dX10_nextWay_44 : decode cX10_nextWay 44 = .ok (.ireturn, 1) := by decide +kernel
theorem dX10_seekMostWater_0 : decode cX10_seekMostWater 0 = .ok (.iconst 4, 1) := by decide +kernel
theorem dX10_seekMostWater_1 : decode cX10_seekMostWater 1 = .ok (.aload_n 1, 1) := by decide +kernel
theorem dX10_seekMostWater_2 : decode cX10_seekMostWater 2 = .ok (.getfield 45, 3) := by decide +kernel
theorem dX10_seekMostWater_5 : decode cX10_seekMostWater 5 = .ok (.getfield 51, 3) := by decide +kernel
theorem dX10_seekMostWater_8 : decode cX10_seekMostWater 8 = .ok (.invokestatic 56, 3) := by decide +kernel
theorem dX10_seekMostWater_11 : decode cX10_seekMostWater 11 = .ok (.istore_n 2, 1) := by decide +kernel
theorem dX10_seekMostWater_12 : decode cX10_seekMostWater 12 = .ok (.iconst 0, 1) := by decide +kernel
theorem dX10_seekMostWater_13 : decode cX10_seekMostWater 13 = .ok (.istore_n 3, 1) := by decide +kernel
theorem dX10_seekMostWater_14 : decode cX10_seekMostWater 14 = .ok (.iconst 0, 1) := by decide +kernel
theorem dX10_seekMostWater_15 : decode cX10_seekMostWater 15 = .ok (.istore 4, 2) := by decide +kernel
theorem dX10_seekMostWater_17 : decode cX10_seekMostWater 17 = .ok (.iload 4, 2) := by decide +kernel
theorem dX10_seekMostWater_19 : decode cX10_seekMostWater 19 = .ok (.iload_n 2, 1) := by decide +kernel
theorem dX10_seekMostWater_20 : decode cX10_seekMostWater 20 = .ok (.if_icmp .ge 38, 3) := by decide +kernel
theorem dX10_seekMostWater_23 : decode cX10_seekMostWater 23 = .ok (.aload_n 0, 1) := by decide +kernel
theorem dX10_seekMostWater_24 : decode cX10_seekMostWater 24 = .ok (.getfield 18, 3) := by decide +kernel
theorem dX10_seekMostWater_27 : decode cX10_seekMostWater 27 = .ok (.iload 4, 2) := by decide +kernel
theorem dX10_seekMostWater_29 : decode cX10_seekMostWater 29 = .ok (.aload_n 1, 1) := by decide +kernel
theorem dX10_seekMostWater_30 : decode cX10_seekMostWater 30 = .ok (.getfield 45, 3) := by decide +kernel
theorem dX10_seekMostWater_33 : decode cX10_seekMostWater 33 = .ok (.iload 4, 2) := by decide +kernel
theorem dX10_seekMostWater_35 : decode cX10_seekMostWater 35 = .ok (.iconst 0, 1) := by decide +kernel
theorem dX10_seekMostWater_36 : decode cX10_seekMostWater 36 = .ok (.invokevirtual 62, 3) := by decide +kernel
theorem dX10_seekMostWater_39 : decode cX10_seekMostWater 39 = .ok (.iastore, 1) := by decide +kernel
theorem dX10_seekMostWater_40 : decode cX10_seekMostWater 40 = .ok (.iload_n 3, 1) := by decide +kernel
theorem dX10_seekMostWater_41 : decode cX10_seekMostWater 41 = .ok (.aload_n 0, 1) := by decide +kernel
theorem dX10_seekMostWater_42 : decode cX10_seekMostWater 42 = .ok (.getfield 18, 3) := by decide +kernel
theorem dX10_seekMostWater_45 : decode cX10_seekMostWater 45 = .ok (.iload 4, 2) := by decide +kernel
theorem dX10_seekMostWater_47 : decode cX10_seekMostWater 47 = .ok (.iaload, 1) := by decide +kernel
theorem dX10_seekMostWater_48 : decode cX10_seekMostWater 48 = .ok (.invokestatic 64, 3) := by decide +kernel
theorem dX10_seekMostWater_51 : decode cX10_seekMostWater 51 = .ok (.istore_n 3, 1) := by decide +kernel
theorem dX10_seekMostWater_52 : decode cX10_seekMostWater 52 = .ok (.iinc 4 1, 3) := by decide +kernel
theorem dX10_seekMostWater_55 : decode cX10_seekMostWater 55 = .ok (.goto (-38), 3) := by decide +kernel
theorem dX10_seekMostWater_58 : decode cX10_seekMostWater 58 = .ok (.aload_n 0, 1) := by decide +kernel
theorem dX10_seekMostWater_59 : decode cX10_seekMostWater 59 = .ok (.aload_n 1, 1) := by decide +kernel
theorem dX10_seekMostWater_60 : decode cX10_seekMostWater 60 = .ok (.sipush 240, 3) := by decide +kernel
theorem dX10_seekMostWater_63 : decode cX10_seekMostWater 63 = .ok (.iload_n 3, 1) := by decide +kernel
theorem dX10_seekMostWater_64 : decode cX10_seekMostWater 64 = .ok (.iconst 4, 1) := by decide +kernel
theorem dX10_seekMostWater_65 : decode cX10_seekMostWater 65 = .ok (.imul, 1) := by decide +kernel
theorem dX10_seekMostWater_66 : decode cX10_seekMostWater 66 = .ok (.invokestatic 56, 3) := by decide +kernel
theorem dX10_seekMostWater_69 : decode cX10_seekMostWater 69 = .ok (.invokevirtual 67, 3) := by decide +kernel
theorem dX10_seekMostWater_72 : decode cX10_seekMostWater 72 = .ok (.aload_n 0, 1) := by decide +kernel
theorem dX10_seekMostWater_73 : decode cX10_seekMostWater 73 = .ok (.getfield 15, 3) := by decide +kernel
theorem dX10_seekMostWater_76 : decode cX10_seekMostWater 76 = .ok (.iconst 0, 1) := by decide +kernel
theorem dX10_seekMostWater_77 : decode cX10_seekMostWater 77 = .ok (.invokestatic 71, 3) := by decide +kernel
theorem dX10_seekMostWater_80 : decode cX10_seekMostWater 80 = .ok (.aload_n 0, 1) := by decide +kernel
theorem dX10_seekMostWater_81 : decode cX10_seekMostWater 81 = .ok (.iconst (-1), 1) := by decide +kernel
theorem dX10_seekMostWater_82 : decode cX10_seekMostWater 82 = .ok (.putfield 35, 3) := by decide +kernel
theorem dX10_seekMostWater_85 : decode cX10_seekMostWater 85 = .ok (.iconst 1, 1) := by decide +kernel
theorem dX10_seekMostWater_86 : decode cX10_seekMostWater 86 = .ok (.istore 4, 2) := by decide +kernel
theorem dX10_seekMostWater_88 : decode cX10_seekMostWater 88 = .ok (.iconst 0, 1) := by decide +kernel
theorem dX10_seekMostWater_89 : decode cX10_seekMostWater 89 = .ok (.istore 5, 2) := by decide +kernel
theorem dX10_seekMostWater_91 : decode cX10_seekMostWater 91 = .ok (.iload 5, 2) := by decide +kernel
theorem dX10_seekMostWater_93 : decode cX10_seekMostWater 93 = .ok (.sipush 256, 3) := by decide +kernel
theorem dX10_seekMostWater_96 : decode cX10_seekMostWater 96 = .ok (.if_icmp .ge 42, 3) := by decide +kernel
theorem dX10_seekMostWater_99 : decode cX10_seekMostWater 99 = .ok (.iload 4, 2) := by decide +kernel
theorem dX10_seekMostWater_101 : decode cX10_seekMostWater 101 = .ok (.ifCond .eq 37, 3) := by decide +kernel
theorem dX10_seekMostWater_104 : decode cX10_seekMostWater 104 = .ok (.aload_n 0, 1) := by decide +kernel
theorem dX10_seekMostWater_105 : decode cX10_seekMostWater 105 = .ok (.invokevirtual 77, 3) := by decide +kernel
theorem dX10_seekMostWater_108 : decode cX10_seekMostWater 108 = .ok (.istore 6, 2) := by decide +kernel
theorem dX10_seekMostWater_110 : decode cX10_seekMostWater 110 = .ok (.iload 6, 2) := by decide +kernel
theorem dX10_seekMostWater_112 : decode cX10_seekMostWater 112 = .ok (.aload_n 0, 1) := by decide +kernel
theorem dX10_seekMostWater_113 : decode cX10_seekMostWater 113 = .ok (.getfield 35, 3) := by decide +kernel
theorem dX10_seekMostWater_116 : decode cX10_seekMostWater 116 = .ok (.if_icmp .le 9, 3) := by decide +kernel
theorem dX10_seekMostWater_119 : decode cX10_seekMostWater 119 = .ok (.aload_n 0, 1) := by decide +kernel
theorem dX10_seekMostWater_120 : decode cX10_seekMostWater 120 = .ok (.iload 6, 2) := by decide +kernel
theorem dX10_seekMostWater_122 : decode cX10_seekMostWater 122 = .ok (.invokevirtual 81, 3) := by decide +kernel
theorem dX10_seekMostWater_125 : decode cX10_seekMostWater 125 = .ok (.aload_n 0, 1) := by decide +kernel
theorem dX10_seekMostWater_126 : decode cX10_seekMostWater 126 = .ok (.iload_n 2, 1) := by decide +kernel
theorem dX10_seekMostWater_127 : decode cX10_seekMostWater 127 = .ok (.invokevirtual 85, 3) := by decide +kernel
theorem dX10_seekMostWater_130 : decode cX10_seekMostWater 130 = .ok (.istore 4, 2) := by decide +kernel
theorem dX10_seekMostWater_132 : decode cX10_seekMostWater 132 = .ok (.iinc 5 1, 3) := by decide +kernel
theorem dX10_seekMostWater_135 : decode cX10_seekMostWater 135 = .ok (.goto (-44), 3) := by decide +kernel
theorem dX10_seekMostWater_138 : decode cX10_seekMostWater 138 = .ok (.return_, 1) := by decide +kernel
theorem dX10_walk_0 : decode cX10_walk 0 = .ok (.aload_n 0, 1) := by decide +kernel
theorem dX10_walk_1 : decode cX10_walk 1 = .ok (.getfield 27, 3) := by decide +kernel
theorem dX10_walk_4 : decode cX10_walk 4 = .ok (.aload_n 1, 1) := by decide +kernel
theorem dX10_walk_5 : decode cX10_walk 5 = .ok (.getfield 89, 3) := by decide +kernel
theorem dX10_walk_8 : decode cX10_walk 8 = .ok (.invokevirtual 92, 3) := by decide +kernel
theorem dX10_walk_11 : decode cX10_walk 11 = .ok (.aload_n 0, 1) := by decide +kernel
theorem dX10_walk_12 : decode cX10_walk 12 = .ok (.getfield 21, 3) := by decide +kernel
theorem dX10_walk_15 : decode cX10_walk 15 = .ok (.iconst 0, 1) := by decide +kernel
theorem dX10_walk_16 : decode cX10_walk 16 = .ok (.aload_n 0, 1) := by decide +kernel
theorem dX10_walk_17 : decode cX10_walk 17 = .ok (.getfield 27, 3) := by decide +kernel
theorem dX10_walk_20 : decode cX10_walk 20 = .ok (.getfield 96, 3) := by decide +kernel
theorem dX10_walk_23 : decode cX10_walk 23 = .ok (.iastore, 1) := by decide +kernel
theorem dX10_walk_24 : decode cX10_walk 24 = .ok (.iconst 1, 1) := by decide +kernel
theorem dX10_walk_25 : decode cX10_walk 25 = .ok (.istore_n 3, 1) := by decide +kernel
theorem dX10_walk_26 : decode cX10_walk 26 = .ok (.iload_n 3, 1) := by decide +kernel
theorem dX10_walk_27 : decode cX10_walk 27 = .ok (.iload_n 2, 1) := by decide +kernel
theorem dX10_walk_28 : decode cX10_walk 28 = .ok (.if_icmp .gt 49, 3) := by decide +kernel
theorem dX10_walk_31 : decode cX10_walk 31 = .ok (.aload_n 1, 1) := by decide +kernel
theorem dX10_walk_32 : decode cX10_walk 32 = .ok (.getfield 99, 3) := by decide +kernel
theorem dX10_walk_35 : decode cX10_walk 35 = .ok (.bipush 6, 2) := by decide +kernel
theorem dX10_walk_37 : decode cX10_walk 37 = .ok (.aload_n 1, 1) := by decide +kernel
theorem dX10_walk_38 : decode cX10_walk 38 = .ok (.getfield 99, 3) := by decide +kernel
theorem dX10_walk_41 : decode cX10_walk 41 = .ok (.aload_n 0, 1) := by decide +kernel
theorem dX10_walk_42 : decode cX10_walk 42 = .ok (.getfield 27, 3) := by decide +kernel
theorem dX10_walk_45 : decode cX10_walk 45 = .ok (.invokevirtual 103, 3) := by decide +kernel
theorem dX10_walk_48 : decode cX10_walk 48 = .ok (.invokestatic 56, 3) := by decide +kernel
theorem dX10_walk_51 : decode cX10_walk 51 = .ok (.aload_n 0, 1) := by decide +kernel
theorem dX10_walk_52 : decode cX10_walk 52 = .ok (.getfield 27, 3) := by decide +kernel
theorem dX10_walk_55 : decode cX10_walk 55 = .ok (.invokevirtual 109, 3) := by decide +kernel
theorem dX10_walk_58 : decode cX10_walk 58 = .ok (.aload_n 0, 1) := by decide +kernel
theorem dX10_walk_59 : decode cX10_walk 59 = .ok (.getfield 21, 3) := by decide +kernel
theorem dX10_walk_62 : decode cX10_walk 62 = .ok (.iload_n 3, 1) := by decide +kernel
theorem dX10_walk_63 : decode cX10_walk 63 = .ok (.aload_n 0, 1) := by decide +kernel
theorem dX10_walk_64 : decode cX10_walk 64 = .ok (.getfield 27, 3) := by decide +kernel
theorem dX10_walk_67 : decode cX10_walk 67 = .ok (.getfield 96, 3) := by decide +kernel
theorem dX10_walk_70 : decode cX10_walk 70 = .ok (.iastore, 1) := by decide +kernel
theorem dX10_walk_71 : decode cX10_walk 71 = .ok (.iinc 3 1, 3) := by decide +kernel
theorem dX10_walk_74 : decode cX10_walk 74 = .ok (.goto (-48), 3) := by decide +kernel
theorem dX10_walk_77 : decode cX10_walk 77 = .ok (.return_, 1) := by decide +kernel
theorem dX10_waterOfWay_0 : decode cX10_waterOfWay 0 = .ok (.iconst 0, 1) := by decide +kernel
theorem dX10_waterOfWay_1 : decode cX10_waterOfWay 1 = .ok (.istore_n 1, 1) := by decide +kernel
theorem dX10_waterOfWay_2 : decode cX10_waterOfWay 2 = .ok (.iconst 0, 1) := by decide +kernel
theorem dX10_waterOfWay_3 : decode cX10_waterOfWay 3 = .ok (.istore_n 2, 1) := by decide +kernel
theorem dX10_waterOfWay_4 : decode cX10_waterOfWay 4 = .ok (.iload_n 2, 1) := by decide +kernel
theorem dX10_waterOfWay_5 : decode cX10_waterOfWay 5 = .ok (.iconst 4, 1) := by decide +kernel
theorem dX10_waterOfWay_6 : decode cX10_waterOfWay 6 = .ok (.if_icmp .ge 23, 3) := by decide +kernel
theorem dX10_waterOfWay_9 : decode cX10_waterOfWay 9 = .ok (.iload_n 1, 1) := by decide +kernel
theorem dX10_waterOfWay_10 : decode cX10_waterOfWay 10 = .ok (.aload_n 0, 1) := by decide +kernel
theorem dX10_waterOfWay_11 : decode cX10_waterOfWay 11 = .ok (.getfield 18, 3) := by decide +kernel
theorem dX10_waterOfWay_14 : decode cX10_waterOfWay 14 = .ok (.aload_n 0, 1) := by decide +kernel
theorem dX10_waterOfWay_15 : decode cX10_waterOfWay 15 = .ok (.getfield 15, 3) := by decide +kernel
theorem dX10_waterOfWay_18 : decode cX10_waterOfWay 18 = .ok (.iload_n 2, 1) := by decide +kernel
theorem dX10_waterOfWay_19 : decode cX10_waterOfWay 19 = .ok (.iaload, 1) := by decide +kernel
theorem dX10_waterOfWay_20 : decode cX10_waterOfWay 20 = .ok (.iaload, 1) := by decide +kernel
theorem dX10_waterOfWay_21 : decode cX10_waterOfWay 21 = .ok (.iadd, 1) := by decide +kernel
theorem dX10_waterOfWay_22 : decode cX10_waterOfWay 22 = .ok (.istore_n 1, 1) := by decide +kernel
theorem dX10_waterOfWay_23 : decode cX10_waterOfWay 23 = .ok (.iinc 2 1, 3) := by decide +kernel
theorem dX10_waterOfWay_26 : decode cX10_waterOfWay 26 = .ok (.goto (-22), 3) := by decide +kernel
theorem dX10_waterOfWay_29 : decode cX10_waterOfWay 29 = .ok (.iload_n 1, 1) := by decide +kernel
theorem dX10_waterOfWay_30 : decode cX10_waterOfWay 30 = .ok (.iconst 0, 1) := by decide +kernel
theorem dX10_waterOfWay_31 : decode cX10_waterOfWay 31 = .ok (.sipush 240, 3) := by decide +kernel
theorem dX10_waterOfWay_34 : decode cX10_waterOfWay 34 = .ok (.invokestatic 31, 3) := by decide +kernel
theorem dX10_waterOfWay_37 : decode cX10_waterOfWay 37 = .ok (.ifCond .eq 12, 3) := by decide +kernel
theorem dX10_waterOfWay_40 : decode cX10_waterOfWay 40 = .ok (.aload_n 0, 1) := by decide +kernel
theorem dX10_waterOfWay_41 : decode cX10_waterOfWay 41 = .ok (.getfield 21, 3) := by decide +kernel
theorem dX10_waterOfWay_44 : decode cX10_waterOfWay 44 = .ok (.iload_n 1, 1) := by decide +kernel
theorem dX10_waterOfWay_45 : decode cX10_waterOfWay 45 = .ok (.iaload, 1) := by decide +kernel
theorem dX10_waterOfWay_46 : decode cX10_waterOfWay 46 = .ok (.goto 4, 3) := by decide +kernel
theorem dX10_waterOfWay_49 : decode cX10_waterOfWay 49 = .ok (.iconst (-1), 1) := by decide +kernel
theorem dX10_waterOfWay_50 : decode cX10_waterOfWay 50 = .ok (.ireturn, 1) := by decide +kernel
theorem dX10_seekPeace_0 : decode cX10_seekPeace 0 = .ok (.iconst 4, 1) := by decide +kernel
theorem dX10_seekPeace_1 : decode cX10_seekPeace 1 = .ok (.aload_n 1, 1) := by decide +kernel
theorem dX10_seekPeace_2 : decode cX10_seekPeace 2 = .ok (.getfield 51, 3) := by decide +kernel
theorem dX10_seekPeace_5 : decode cX10_seekPeace 5 = .ok (.invokestatic 56, 3) := by decide +kernel
theorem dX10_seekPeace_8 : decode cX10_seekPeace 8 = .ok (.istore_n 2, 1) := by decide +kernel
theorem dX10_seekPeace_9 : decode cX10_seekPeace 9 = .ok (.aload_n 0, 1) := by decide +kernel
theorem dX10_seekPeace_10 : decode cX10_seekPeace 10 = .ok (.getfield 15, 3) := by decide +kernel
theorem dX10_seekPeace_13 : decode cX10_seekPeace 13 = .ok (.iconst 0, 1) := by decide +kernel
theorem dX10_seekPeace_14 : decode cX10_seekPeace 14 = .ok (.invokestatic 71, 3) := by decide +kernel
theorem dX10_seekPeace_17 : decode cX10_seekPeace 17 = .ok (.aload_n 0, 1) := by decide +kernel
theorem dX10_seekPeace_18 : decode cX10_seekPeace 18 = .ok (.iconst 5, 1) := by decide +kernel
theorem dX10_seekPeace_19 : decode cX10_seekPeace 19 = .ok (.putfield 35, 3) := by decide +kernel
theorem dX10_seekPeace_22 : decode cX10_seekPeace 22 = .ok (.iconst 1, 1) := by decide +kernel
theorem dX10_seekPeace_23 : decode cX10_seekPeace 23 = .ok (.istore_n 3, 1) := by decide +kernel
theorem dX10_seekPeace_24 : decode cX10_seekPeace 24 = .ok (.iconst 0, 1) := by decide +kernel
theorem dX10_seekPeace_25 : decode cX10_seekPeace 25 = .ok (.istore 4, 2) := by decide +kernel
theorem dX10_seekPeace_27 : decode cX10_seekPeace 27 = .ok (.iload 4, 2) := by decide +kernel
theorem dX10_seekPeace_29 : decode cX10_seekPeace 29 = .ok (.sipush 256, 3) := by decide +kernel
theorem dX10_seekPeace_32 : decode cX10_seekPeace 32 = .ok (.if_icmp .ge 49, 3) := by decide +kernel
theorem dX10_seekPeace_35 : decode cX10_seekPeace 35 = .ok (.iload_n 3, 1) := by decide +kernel
theorem dX10_seekPeace_36 : decode cX10_seekPeace 36 = .ok (.ifCond .eq 45, 3) := by decide +kernel
theorem dX10_seekPeace_39 : decode cX10_seekPeace 39 = .ok (.aload_n 0, 1) := by decide +kernel
theorem dX10_seekPeace_40 : decode cX10_seekPeace 40 = .ok (.iload_n 2, 1) := by decide +kernel
theorem dX10_seekPeace_41 : decode cX10_seekPeace 41 = .ok (.invokevirtual 113, 3) := by decide +kernel
theorem dX10_seekPeace_44 : decode cX10_seekPeace 44 = .ok (.ifCond .eq 25, 3) := by decide +kernel
theorem dX10_seekPeace_47 : decode cX10_seekPeace 47 = .ok (.aload_n 0, 1) := by decide +kernel
theorem dX10_seekPeace_48 : decode cX10_seekPeace 48 = .ok (.aload_n 1, 1) := by decide +kernel
theorem dX10_seekPeace_49 : decode cX10_seekPeace 49 = .ok (.invokevirtual 116, 3) := by decide +kernel
theorem dX10_seekPeace_52 : decode cX10_seekPeace 52 = .ok (.istore 5, 2) := by decide +kernel
theorem dX10_seekPeace_54 : decode cX10_seekPeace 54 = .ok (.iload 5, 2) := by decide +kernel
theorem dX10_seekPeace_56 : decode cX10_seekPeace 56 = .ok (.aload_n 0, 1) := by decide +kernel
theorem dX10_seekPeace_57 : decode cX10_seekPeace 57 = .ok (.getfield 35, 3) := by decide +kernel
theorem dX10_seekPeace_60 : decode cX10_seekPeace 60 = .ok (.if_icmp .ge 9, 3) := by decide +kernel
theorem dX10_seekPeace_63 : decode cX10_seekPeace 63 = .ok (.aload_n 0, 1) := by decide +kernel
theorem dX10_seekPeace_64 : decode cX10_seekPeace 64 = .ok (.iload 5, 2) := by decide +kernel
theorem dX10_seekPeace_66 : decode cX10_seekPeace 66 = .ok (.invokevirtual 81, 3) := by decide +kernel
theorem dX10_seekPeace_69 : decode cX10_seekPeace 69 = .ok (.aload_n 0, 1) := by decide +kernel
theorem dX10_seekPeace_70 : decode cX10_seekPeace 70 = .ok (.iload_n 2, 1) := by decide +kernel
theorem dX10_seekPeace_71 : decode cX10_seekPeace 71 = .ok (.invokevirtual 85, 3) := by decide +kernel
theorem dX10_seekPeace_74 : decode cX10_seekPeace 74 = .ok (.istore_n 3, 1) := by decide +kernel
theorem dX10_seekPeace_75 : decode cX10_seekPeace 75 = .ok (.iinc 4 1, 3) := by decide +kernel
theorem dX10_seekPeace_78 : decode cX10_seekPeace 78 = .ok (.goto (-51), 3) := by decide +kernel
theorem dX10_seekPeace_81 : decode cX10_seekPeace 81 = .ok (.return_, 1) := by decide +kernel
theorem dX10_hasEvery_0 : decode cX10_hasEvery 0 = .ok (.iconst 0, 1) := by decide +kernel
theorem dX10_hasEvery_1 : decode cX10_hasEvery 1 = .ok (.istore_n 2, 1) := by decide +kernel
theorem dX10_hasEvery_2 : decode cX10_hasEvery 2 = .ok (.iconst 0, 1) := by decide +kernel
theorem dX10_hasEvery_3 : decode cX10_hasEvery 3 = .ok (.istore_n 3, 1) := by decide +kernel
theorem dX10_hasEvery_4 : decode cX10_hasEvery 4 = .ok (.iload_n 3, 1) := by decide +kernel
theorem dX10_hasEvery_5 : decode cX10_hasEvery 5 = .ok (.iconst 4, 1) := by decide +kernel
theorem dX10_hasEvery_6 : decode cX10_hasEvery 6 = .ok (.if_icmp .ge 20, 3) := by decide +kernel
theorem dX10_hasEvery_9 : decode cX10_hasEvery 9 = .ok (.iload_n 2, 1) := by decide +kernel
theorem dX10_hasEvery_10 : decode cX10_hasEvery 10 = .ok (.iconst 1, 1) := by decide +kernel
theorem dX10_hasEvery_11 : decode cX10_hasEvery 11 = .ok (.aload_n 0, 1) := by decide +kernel
theorem dX10_hasEvery_12 : decode cX10_hasEvery 12 = .ok (.getfield 15, 3) := by decide +kernel
theorem dX10_hasEvery_15 : decode cX10_hasEvery 15 = .ok (.iload_n 3, 1) := by decide +kernel
theorem dX10_hasEvery_16 : decode cX10_hasEvery 16 = .ok (.iaload, 1) := by decide +kernel
theorem dX10_hasEvery_17 : decode cX10_hasEvery 17 = .ok (.ishl, 1) := by decide +kernel
theorem dX10_hasEvery_18 : decode cX10_hasEvery 18 = .ok (.ior, 1) := by decide +kernel
theorem dX10_hasEvery_19 : decode cX10_hasEvery 19 = .ok (.istore_n 2, 1) := by decide +kernel
theorem dX10_hasEvery_20 : decode cX10_hasEvery 20 = .ok (.iinc 3 1, 3) := by decide +kernel
theorem dX10_hasEvery_23 : decode cX10_hasEvery 23 = .ok (.goto (-19), 3) := by decide +kernel
theorem dX10_hasEvery_26 : decode cX10_hasEvery 26 = .ok (.iload_n 2, 1) := by decide +kernel
theorem dX10_hasEvery_27 : decode cX10_hasEvery 27 = .ok (.iconst 1, 1) := by decide +kernel
theorem dX10_hasEvery_28 : decode cX10_hasEvery 28 = .ok (.iload_n 1, 1) := by decide +kernel
theorem dX10_hasEvery_29 : decode cX10_hasEvery 29 = .ok (.ishl, 1) := by decide +kernel
theorem dX10_hasEvery_30 : decode cX10_hasEvery 30 = .ok (.iconst 1, 1) := by decide +kernel
theorem dX10_hasEvery_31 : decode cX10_hasEvery 31 = .ok (.isub, 1) := by decide +kernel
theorem dX10_hasEvery_32 : decode cX10_hasEvery 32 = .ok (.if_icmp .ne 7, 3) := by decide +kernel
theorem dX10_hasEvery_35 : decode cX10_hasEvery 35 = .ok (.iconst 1, 1) := by decide +kernel
theorem dX10_hasEvery_36 : decode cX10_hasEvery 36 = .ok (.goto 4, 3) := by decide +kernel
theorem dX10_hasEvery_39 : decode cX10_hasEvery 39 = .ok (.iconst 0, 1) := by decide +kernel
theorem dX10_hasEvery_40 : decode cX10_hasEvery 40 = .ok (.ireturn, 1) := by decide +kernel
theorem dX10_meetingsOfWay_0 : decode cX10_meetingsOfWay 0 = .ok (.iconst 0, 1) := by decide +kernel
theorem dX10_meetingsOfWay_1 : decode cX10_meetingsOfWay 1 = .ok (.istore_n 2, 1) := by decide +kernel
theorem dX10_meetingsOfWay_2 : decode cX10_meetingsOfWay 2 = .ok (.aload_n 0, 1) := by decide +kernel
theorem dX10_meetingsOfWay_3 : decode cX10_meetingsOfWay 3 = .ok (.getfield 15, 3) := by decide +kernel
theorem dX10_meetingsOfWay_6 : decode cX10_meetingsOfWay 6 = .ok (.iconst 3, 1) := by decide +kernel
theorem dX10_meetingsOfWay_7 : decode cX10_meetingsOfWay 7 = .ok (.iaload, 1) := by decide +kernel
theorem dX10_meetingsOfWay_8 : decode cX10_meetingsOfWay 8 = .ok (.istore_n 3, 1) := by decide +kernel
theorem dX10_meetingsOfWay_9 : decode cX10_meetingsOfWay 9 = .ok (.iconst 0, 1) := by decide +kernel
theorem dX10_meetingsOfWay_10 : decode cX10_meetingsOfWay 10 = .ok (.istore 4, 2) := by decide +kernel
theorem dX10_meetingsOfWay_12 : decode cX10_meetingsOfWay 12 = .ok (.iload 4, 2) := by decide +kernel
theorem dX10_meetingsOfWay_14 : decode cX10_meetingsOfWay 14 = .ok (.iconst 4, 1) := by decide +kernel
theorem dX10_meetingsOfWay_15 : decode cX10_meetingsOfWay 15 = .ok (.if_icmp .ge 35, 3) := by decide +kernel
theorem dX10_meetingsOfWay_18 : decode cX10_meetingsOfWay 18 = .ok (.aload_n 1, 1) := by decide +kernel
theorem dX10_meetingsOfWay_19 : decode cX10_meetingsOfWay 19 = .ok (.iload_n 3, 1) := by decide +kernel
theorem dX10_meetingsOfWay_20 : decode cX10_meetingsOfWay 20 = .ok (.aload_n 0, 1) := by decide +kernel
theorem dX10_meetingsOfWay_21 : decode cX10_meetingsOfWay 21 = .ok (.getfield 15, 3) := by decide +kernel
theorem dX10_meetingsOfWay_24 : decode cX10_meetingsOfWay 24 = .ok (.iload 4, 2) := by decide +kernel
theorem dX10_meetingsOfWay_26 : decode cX10_meetingsOfWay 26 = .ok (.iaload, 1) := by decide +kernel
theorem dX10_meetingsOfWay_27 : decode cX10_meetingsOfWay 27 = .ok (.invokevirtual 120, 3) := by decide +kernel
theorem dX10_meetingsOfWay_30 : decode cX10_meetingsOfWay 30 = .ok (.ifCond .eq 6, 3) := by decide +kernel
theorem dX10_meetingsOfWay_33 : decode cX10_meetingsOfWay 33 = .ok (.iinc 2 1, 3) := by decide +kernel
theorem dX10_meetingsOfWay_36 : decode cX10_meetingsOfWay 36 = .ok (.aload_n 0, 1) := by decide +kernel
theorem dX10_meetingsOfWay_37 : decode cX10_meetingsOfWay 37 = .ok (.getfield 15, 3) := by decide +kernel
theorem dX10_meetingsOfWay_40 : decode cX10_meetingsOfWay 40 = .ok (.iload 4, 2) := by decide +kernel
theorem dX10_meetingsOfWay_42 : decode cX10_meetingsOfWay 42 = .ok (.iaload, 1) := by decide +kernel
theorem dX10_meetingsOfWay_43 : decode cX10_meetingsOfWay 43 = .ok (.istore_n 3, 1) := by decide +kernel
theorem dX10_meetingsOfWay_44 : decode cX10_meetingsOfWay 44 = .ok (.iinc 4 1, 3) := by decide +kernel
theorem dX10_meetingsOfWay_47 : decode cX10_meetingsOfWay 47 = .ok (.goto (-35), 3) := by decide +kernel
theorem dX10_meetingsOfWay_50 : decode cX10_meetingsOfWay 50 = .ok (.iload_n 2, 1) := by decide +kernel
theorem dX10_meetingsOfWay_51 : decode cX10_meetingsOfWay 51 = .ok (.ireturn, 1) := by decide +kernel
theorem dX11_init_0 : decode cX11_init 0 = .ok (.aload_n 0, 1) := by decide +kernel
theorem dX11_init_1 : decode cX11_init 1 = .ok (.invokespecial 3, 3) := by decide +kernel
theorem dX11_init_4 : decode cX11_init 4 = .ok (.aload_n 0, 1) := by decide +kernel
theorem dX11_init_5 : decode cX11_init 5 = .ok (.new 9, 3) := by decide +kernel
theorem dX11_init_8 : decode cX11_init 8 = .ok (.dup, 1) := by decide +kernel
theorem dX11_init_9 : decode cX11_init 9 = .ok (.invokespecial 11, 3) := by decide +kernel
theorem dX11_init_12 : decode cX11_init 12 = .ok (.putfield 12, 3) := by decide +kernel
theorem dX11_init_15 : decode cX11_init 15 = .ok (.aload_n 0, 1) := by decide +kernel
theorem dX11_init_16 : decode cX11_init 16 = .ok (.new 9, 3) := by decide +kernel
theorem dX11_init_19 : decode cX11_init 19 = .ok (.dup, 1) := by decide +kernel
theorem dX11_init_20 : decode cX11_init 20 = .ok (.invokespecial 11, 3) := by decide +kernel
theorem dX11_init_23 : decode cX11_init 23 = .ok (.putfield 16, 3) := by decide +kernel
theorem dX11_init_26 : decode cX11_init 26 = .ok (.aload_n 0, 1) := by decide +kernel
theorem dX11_init_27 : decode cX11_init 27 = .ok (.iconst 0, 1) := by decide +kernel
theorem dX11_init_28 : decode cX11_init 28 = .ok (.putfield 19, 3) := by decide +kernel
theorem dX11_init_31 : decode cX11_init 31 = .ok (.aload_n 0, 1) := by decide +kernel
theorem dX11_init_32 : decode cX11_init 32 = .ok (.new 23, 3) := by decide +kernel
theorem dX11_init_35 : decode cX11_init 35 = .ok (.dup, 1) := by decide +kernel
theorem dX11_init_36 : decode cX11_init 36 = .ok (.invokespecial 25, 3) := by decide +kernel
theorem dX11_init_39 : decode cX11_init 39 = .ok (.putfield 26, 3) := by decide +kernel
theorem dX11_init_42 : decode cX11_init 42 = .ok (.aload_n 0, 1) := by decide +kernel
theorem dX11_init_43 : decode cX11_init 43 = .ok (.new 30, 3) := by decide +kernel
theorem dX11_init_46 : decode cX11_init 46 = .ok (.dup, 1) := by decide +kernel
theorem dX11_init_47 : decode cX11_init 47 = .ok (.invokespecial 32, 3) := by decide +kernel
theorem dX11_init_50 : decode cX11_init 50 = .ok (.putfield 33, 3) := by decide +kernel
theorem dX11_init_53 : decode cX11_init 53 = .ok (.aload_n 0, 1) := by decide +kernel
theorem dX11_init_54 : decode cX11_init 54 = .ok (.new 37, 3) := by decide +kernel
theorem dX11_init_57 : decode cX11_init 57 = .ok (.dup, 1) := by decide +kernel
theorem dX11_init_58 : decode cX11_init 58 = .ok (.invokespecial 39, 3) := by decide +kernel
theorem dX11_init_61 : decode cX11_init 61 = .ok (.putfield 40, 3) := by decide +kernel
theorem dX11_init_64 : decode cX11_init 64 = .ok (.aload_n 0, 1) := by decide +kernel
theorem dX11_init_65 : decode cX11_init 65 = .ok (.new 44, 3) := by decide +kernel
theorem dX11_init_68 : decode cX11_init 68 = .ok (.dup, 1) := by decide +kernel
theorem dX11_init_69 : decode cX11_init 69 = .ok (.invokespecial 46, 3) := by decide +kernel
theorem dX11_init_72 : decode cX11_init 72 = .ok (.putfield 47, 3) := by decide +kernel
theorem dX11_init_75 : decode cX11_init 75 = .ok (.return_, 1) := by decide +kernel
theorem dX11_state_0 : decode cX11_state 0 = .ok (.aload_n 0, 1) := by decide +kernel
theorem dX11_state_1 : decode cX11_state 1 = .ok (.getfield 12, 3) := by decide +kernel
theorem dX11_state_4 : decode cX11_state 4 = .ok (.getfield 51, 3) := by decide +kernel
theorem dX11_state_7 : decode cX11_state 7 = .ok (.getfield 55, 3) := by decide +kernel
theorem dX11_state_10 : decode cX11_state 10 = .ok (.istore_n 2, 1) := by decide +kernel
theorem dX11_state_11 : decode cX11_state 11 = .ok (.aload_n 0, 1) := by decide +kernel
theorem dX11_state_12 : decode cX11_state 12 = .ok (.getfield 12, 3) := by decide +kernel
theorem dX11_state_15 : decode cX11_state 15 = .ok (.getfield 51, 3) := by decide +kernel
theorem dX11_state_18 : decode cX11_state 18 = .ok (.iload_n 1, 1) := by decide +kernel
theorem dX11_state_19 : decode cX11_state 19 = .ok (.putfield 55, 3) := by decide +kernel
theorem dX11_state_22 : decode cX11_state 22 = .ok (.aload_n 0, 1) := by decide +kernel
theorem dX11_state_23 : decode cX11_state 23 = .ok (.getfield 26, 3) := by decide +kernel
theorem dX11_state_26 : decode cX11_state 26 = .ok (.iload_n 1, 1) := by decide +kernel
theorem dX11_state_27 : decode cX11_state 27 = .ok (.invokevirtual 61, 3) := by decide +kernel
theorem dX11_state_30 : decode cX11_state 30 = .ok (.iload_n 2, 1) := by decide +kernel
theorem dX11_state_31 : decode cX11_state 31 = .ok (.ireturn, 1) := by decide +kernel
theorem dX11_notches_0 : decode cX11_notches 0 = .ok (.iload_n 1, 1) := by decide +kernel
theorem dX11_notches_1 : decode cX11_notches 1 = .ok (.bipush 8, 2) := by decide +kernel
theorem dX11_notches_3 : decode cX11_notches 3 = .ok (.bipush 40, 2) := by decide +kernel
theorem dX11_notches_5 : decode cX11_notches 5 = .ok (.invokestatic 65, 3) := by decide +kernel
theorem dX11_notches_8 : decode cX11_notches 8 = .ok (.ifCond .eq 9, 3) := by decide +kernel
theorem dX11_notches_11 : decode cX11_notches 11 = .ok (.iload_n 1, 1) := by decide +kernel
theorem dX11_notches_12 : decode cX11_notches 12 = .ok (.iconst 2, 1) := by decide +kernel
theorem dX11_notches_13 : decode cX11_notches 13 = .ok (.irem, 1) := by decide +kernel
theorem dX11_notches_14 : decode cX11_notches 14 = .ok (.ifCond .eq 5, 3) := by decide +kernel
theorem dX11_notches_17 : decode cX11_notches 17 = .ok (.iconst 0, 1) := by decide +kernel
theorem dX11_notches_18 : decode cX11_notches 18 = .ok (.ireturn, 1) := by decide +kernel
theorem dX11_notches_19 : decode cX11_notches 19 = .ok (.aload_n 0, 1) := by decide +kernel
theorem dX11_notches_20 : decode cX11_notches 20 = .ok (.getfield 12, 3) := by decide +kernel
theorem dX11_notches_23 : decode cX11_notches 23 = .ok (.iload_n 1, 1) := by decide +kernel
theorem dX11_notches_24 : decode cX11_notches 24 = .ok (.invokevirtual 69, 3) := by decide +kernel
theorem dX11_notches_27 : decode cX11_notches 27 = .ok (.aload_n 0, 1) := by decide +kernel
theorem dX11_notches_28 : decode cX11_notches 28 = .ok (.getfield 26, 3) := by decide +kernel
theorem dX11_notches_31 : decode cX11_notches 31 = .ok (.invokevirtual 72, 3) := by decide +kernel
theorem dX11_notches_34 : decode cX11_notches 34 = .ok (.iconst 1, 1) := by decide +kernel
theorem dX11_notches_35 : decode cX11_notches 35 = .ok (.ireturn, 1) := by decide +kernel
theorem dX11_bucket_0 : decode cX11_bucket 0 = .ok (.aload_n 0, 1) := by decide +kernel
theorem dX11_bucket_1 : decode cX11_bucket 1 = .ok (.aload_n 0, 1) := by decide +kernel
theorem dX11_bucket_2 : decode cX11_bucket 2 = .ok (.getfield 12, 3) := by decide +kernel
theorem dX11_bucket_5 : decode cX11_bucket 5 = .ok (.getfield 75, 3) := by decide +kernel
theorem dX11_bucket_8 : decode cX11_bucket 8 = .ok (.iload_n 1, 1) := by decide +kernel
theorem dX11_bucket_9 : decode cX11_bucket 9 = .ok (.iload_n 2, 1) := by decide +kernel
theorem dX11_bucket_10 : decode cX11_bucket 10 = .ok (.iload_n 3, 1) := by decide +kernel
theorem dX11_bucket_11 : decode cX11_bucket 11 = .ok (.invokevirtual 79, 3) := by decide +kernel
theorem dX11_bucket_14 : decode cX11_bucket 14 = .ok (.invokevirtual 85, 3) := by decide +kernel
theorem dX11_bucket_17 : decode cX11_bucket 17 = .ok (.ireturn, 1) := by decide +kernel
theorem dX11_farm_0 : decode cX11_farm 0 = .ok (.aload_n 0, 1) := by decide +kernel
theorem dX11_farm_1 : decode cX11_farm 1 = .ok (.aload_n 0, 1) := by decide +kernel
theorem dX11_farm_2 : decode cX11_farm 2 = .ok (.getfield 12, 3) := by decide +kernel
theorem dX11_farm_5 : decode cX11_farm 5 = .ok (.getfield 89, 3) := by decide +kernel
theorem dX11_farm_8 : decode cX11_farm 8 = .ok (.iload_n 1, 1) := by decide +kernel
theorem dX11_farm_9 : decode cX11_farm 9 = .ok (.iload_n 2, 1) := by decide +kernel
theorem dX11_farm_10 : decode cX11_farm 10 = .ok (.iload_n 3, 1) := by decide +kernel
theorem dX11_farm_11 : decode cX11_farm 11 = .ok (.iload 4, 2) := by decide +kernel
theorem dX11_farm_13 : decode cX11_farm 13 = .ok (.invokevirtual 93, 3) := by decide +kernel
theorem dX11_farm_16 : decode cX11_farm 16 = .ok (.invokevirtual 85, 3) := by decide +kernel
theorem dX11_farm_19 : decode cX11_farm 19 = .ok (.ireturn, 1) := by decide +kernel
theorem dX11_tell_0 : decode cX11_tell 0 = .ok (.aload_n 0, 1) := by decide +kernel
theorem dX11_tell_1 : decode cX11_tell 1 = .ok (.aload_n 0, 1) := by decide +kernel
theorem dX11_tell_2 : decode cX11_tell 2 = .ok (.getfield 12, 3) := by decide +kernel
theorem dX11_tell_5 : decode cX11_tell 5 = .ok (.iload_n 1, 1) := by decide +kernel
theorem dX11_tell_6 : decode cX11_tell 6 = .ok (.iload_n 2, 1) := by decide +kernel
theorem dX11_tell_7 : decode cX11_tell 7 = .ok (.iload_n 3, 1) := by decide +kernel
theorem dX11_tell_8 : decode cX11_tell 8 = .ok (.invokevirtual 99, 3) := by decide +kernel
theorem dX11_tell_11 : decode cX11_tell 11 = .ok (.invokevirtual 102, 3) := by decide +kernel
theorem dX11_tell_14 : decode cX11_tell 14 = .ok (.ireturn, 1) := by decide +kernel
theorem dX11_turn_0 : decode cX11_turn 0 = .ok (.iload_n 1, 1) := by decide +kernel
theorem dX11_turn_1 : decode cX11_turn 1 = .ok (.iconst 0, 1) := by decide +kernel
theorem dX11_turn_2 : decode cX11_turn 2 = .ok (.bipush 23, 2) := by decide +kernel
theorem dX11_turn_4 : decode cX11_turn 4 = .ok (.invokestatic 65, 3) := by decide +kernel
theorem dX11_turn_7 : decode cX11_turn 7 = .ok (.ifCond .eq 22, 3) := by decide +kernel
theorem dX11_turn_10 : decode cX11_turn 10 = .ok (.iload_n 2, 1) := by decide +kernel
theorem dX11_turn_11 : decode cX11_turn 11 = .ok (.iconst (-1), 1) := by decide +kernel
theorem dX11_turn_12 : decode cX11_turn 12 = .ok (.if_icmp .eq 19, 3) := by decide +kernel
theorem dX11_turn_15 : decode cX11_turn 15 = .ok (.aload_n 0, 1) := by decide +kernel
theorem dX11_turn_16 : decode cX11_turn 16 = .ok (.getfield 12, 3) := by decide +kernel
theorem dX11_turn_19 : decode cX11_turn 19 = .ok (.getfield 89, 3) := by decide +kernel
theorem dX11_turn_22 : decode cX11_turn 22 = .ok (.iload_n 2, 1) := by decide +kernel
theorem dX11_turn_23 : decode cX11_turn 23 = .ok (.invokevirtual 106, 3) := by decide +kernel
theorem dX11_turn_26 : decode cX11_turn 26 = .ok (.ifCond .ne 5, 3) := by decide +kernel
theorem dX11_turn_29 : decode cX11_turn 29 = .ok (.iconst 0, 1) := by decide +kernel
theorem dX11_turn_30 : decode cX11_turn 30 = .ok (.ireturn, 1) := by decide +kernel
theorem dX11_turn_31 : decode cX11_turn 31 = .ok (.aload_n 0, 1) := by decide +kernel
theorem dX11_turn_32 : decode cX11_turn 32 = .ok (.getfield 12, 3) := by decide +kernel
theorem dX11_turn_35 : decode cX11_turn 35 = .ok (.getfield 110, 3) := by decide +kernel
theorem dX11_turn_38 : decode cX11_turn 38 = .ok (.getfield 114, 3) := by decide +kernel
theorem dX11_turn_41 : decode cX11_turn 41 = .ok (.iload_n 1, 1) := by decide +kernel
theorem dX11_turn_42 : decode cX11_turn 42 = .ok (.iload_n 2, 1) := by decide +kernel
theorem dX11_turn_43 : decode cX11_turn 43 = .ok (.iastore, 1) := by decide +kernel
theorem dX11_turn_44 : decode cX11_turn 44 = .ok (.iconst 1, 1) := by decide +kernel
theorem dX11_turn_45 : decode cX11_turn 45 = .ok (.ireturn, 1) := by decide +kernel
theorem dX11_absent_0 : decode cX11_absent 0 = .ok (.aload_n 0, 1) := by decide +kernel
theorem dX11_absent_1 : decode cX11_absent 1 = .ok (.getfield 12, 3) := by decide +kernel
theorem dX11_absent_4 : decode cX11_absent 4 = .ok (.getfield 89, 3) := by decide +kernel
theorem dX11_absent_7 : decode cX11_absent 7 = .ok (.iload_n 1, 1) := by decide +kernel
theorem dX11_absent_8 : decode cX11_absent 8 = .ok (.iload_n 3, 1) := by decide +kernel
theorem dX11_absent_9 : decode cX11_absent 9 = .ok (.invokevirtual 120, 3) := by decide +kernel
theorem dX11_absent_12 : decode cX11_absent 12 = .ok (.ifCond .eq 14, 3) := by decide +kernel
theorem dX11_absent_15 : decode cX11_absent 15 = .ok (.iload_n 2, 1) := by decide +kernel
theorem dX11_absent_16 : decode cX11_absent 16 = .ok (.iconst 0, 1) := by decide +kernel
theorem dX11_absent_17 : decode cX11_absent 17 = .ok (.sipush 9999, 3) := by decide +kernel
theorem dX11_absent_20 : decode cX11_absent 20 = .ok (.invokestatic 65, 3) := by decide +kernel
theorem dX11_absent_23 : decode cX11_absent 23 = .ok (.ifCond .ne 5, 3) := by decide +kernel
theorem dX11_absent_26 : decode cX11_absent 26 = .ok (.iconst 0, 1) := by decide +kernel
theorem dX11_absent_27 : decode cX11_absent 27 = .ok (.ireturn, 1) := by decide +kernel
theorem dX11_absent_28 : decode cX11_absent 28 = .ok (.aload_n 0, 1) := by decide +kernel
theorem dX11_absent_29 : decode cX11_absent 29 = .ok (.aload_n 0, 1) := by decide +kernel
theorem dX11_absent_30 : decode cX11_absent 30 = .ok (.getfield 12, 3) := by decide +kernel
theorem dX11_absent_33 : decode cX11_absent 33 = .ok (.getfield 110, 3) := by decide +kernel
theorem dX11_absent_36 : decode cX11_absent 36 = .ok (.iload_n 1, 1) := by decide +kernel
theorem dX11_absent_37 : decode cX11_absent 37 = .ok (.iload_n 2, 1) := by decide +kernel
theorem dX11_absent_38 : decode cX11_absent 38 = .ok (.iload_n 3, 1) := by decide +kernel
theorem dX11_absent_39 : decode cX11_absent 39 = .ok (.invokevirtual 124, 3) := by decide +kernel
theorem dX11_absent_42 : decode cX11_absent 42 = .ok (.invokevirtual 102, 3) := by decide +kernel
theorem dX11_absent_45 : decode cX11_absent 45 = .ok (.ireturn, 1) := by decide +kernel
theorem dX11_splice_0 : decode cX11_splice 0 = .ok (.iload_n 1, 1) := by decide +kernel
theorem dX11_splice_1 : decode cX11_splice 1 = .ok (.iconst 0, 1) := by decide +kernel
theorem dX11_splice_2 : decode cX11_splice 2 = .ok (.ldc 127, 2) := by decide +kernel
theorem dX11_splice_4 : decode cX11_splice 4 = .ok (.invokestatic 65, 3) := by decide +kernel
theorem dX11_splice_7 : decode cX11_splice 7 = .ok (.ifCond .ne 5, 3) := by decide +kernel
theorem dX11_splice_10 : decode cX11_splice 10 = .ok (.iconst (-1), 1) := by decide +kernel
theorem dX11_splice_11 : decode cX11_splice 11 = .ok (.ireturn, 1) := by decide +kernel
theorem dX11_splice_12 : decode cX11_splice 12 = .ok (.aload_n 0, 1) := by decide +kernel
theorem dX11_splice_13 : decode cX11_splice 13 = .ok (.getfield 12, 3) := by decide +kernel
theorem dX11_splice_16 : decode cX11_splice 16 = .ok (.getfield 75, 3) := by decide +kernel
theorem dX11_splice_19 : decode cX11_splice 19 = .ok (.iload_n 2, 1) := by decide +kernel
theorem dX11_splice_20 : decode cX11_splice 20 = .ok (.iload_n 3, 1) := by decide +kernel
theorem dX11_splice_21 : decode cX11_splice 21 = .ok (.invokevirtual 128, 3) := by decide +kernel
theorem dX11_splice_24 : decode cX11_splice 24 = .ok (.istore 4, 2) := by decide +kernel
theorem dX11_splice_26 : decode cX11_splice 26 = .ok (.iload 4, 2) := by decide +kernel
theorem dX11_splice_28 : decode cX11_splice 28 = .ok (.iconst 0, 1) := by decide +kernel
theorem dX11_splice_29 : decode cX11_splice 29 = .ok (.bipush 7, 2) := by decide +kernel
theorem dX11_splice_31 : decode cX11_splice 31 = .ok (.invokestatic 65, 3) := by decide +kernel
theorem dX11_splice_34 : decode cX11_splice 34 = .ok (.ifCond .eq 17, 3) := by decide +kernel
theorem dX11_splice_37 : decode cX11_splice 37 = .ok (.aload_n 0, 1) := by decide +kernel
theorem dX11_splice_38 : decode cX11_splice 38 = .ok (.getfield 12, 3) := by decide +kernel
theorem dX11_splice_41 : decode cX11_splice 41 = .ok (.getfield 51, 3) := by decide +kernel
theorem dX11_splice_44 : decode cX11_splice 44 = .ok (.getfield 132, 3) := by decide +kernel
theorem dX11_splice_47 : decode cX11_splice 47 = .ok (.iload 4, 2) := by decide +kernel
theorem dX11_splice_49 : decode cX11_splice 49 = .ok (.iload_n 1, 1) := by decide +kernel
theorem dX11_splice_50 : decode cX11_splice 50 = .ok (.iastore, 1) := by decide +kernel
theorem dX11_splice_51 : decode cX11_splice 51 = .ok (.aload_n 0, 1) := by decide +kernel
theorem dX11_splice_52 : decode cX11_splice 52 = .ok (.iload 4, 2) := by decide +kernel
theorem dX11_splice_54 : decode cX11_splice 54 = .ok (.invokevirtual 85, 3) := by decide +kernel
theorem dX11_splice_57 : decode cX11_splice 57 = .ok (.ireturn, 1) := by decide +kernel
theorem dX11_mend_0 : decode cX11_mend 0 = .ok (.aload_n 0, 1) := by decide +kernel
theorem dX11_mend_1 : decode cX11_mend 1 = .ok (.getfield 12, 3) := by decide +kernel
theorem dX11_mend_4 : decode cX11_mend 4 = .ok (.getfield 75, 3) := by decide +kernel
theorem dX11_mend_7 : decode cX11_mend 7 = .ok (.iload_n 1, 1) := by decide +kernel
theorem dX11_mend_8 : decode cX11_mend 8 = .ok (.invokevirtual 135, 3) := by decide +kernel
theorem dX11_mend_11 : decode cX11_mend 11 = .ok (.ifCond .eq 13, 3) := by decide +kernel
theorem dX11_mend_14 : decode cX11_mend 14 = .ok (.iload_n 2, 1) := by decide +kernel
theorem dX11_mend_15 : decode cX11_mend 15 = .ok (.iconst 1, 1) := by decide +kernel
theorem dX11_mend_16 : decode cX11_mend 16 = .ok (.ldc 127, 2) := by decide +kernel
theorem dX11_mend_18 : decode cX11_mend 18 = .ok (.invokestatic 65, 3) := by decide +kernel
theorem dX11_mend_21 : decode cX11_mend 21 = .ok (.ifCond .ne 5, 3) := by decide +kernel
theorem dX11_mend_24 : decode cX11_mend 24 = .ok (.iconst 0, 1) := by decide +kernel
theorem dX11_mend_25 : decode cX11_mend 25 = .ok (.ireturn, 1) := by decide +kernel
theorem dX11_mend_26 : decode cX11_mend 26 = .ok (.aload_n 0, 1) := by decide +kernel
theorem dX11_mend_27 : decode cX11_mend 27 = .ok (.getfield 12, 3) := by decide +kernel
theorem dX11_mend_30 : decode cX11_mend 30 = .ok (.getfield 51, 3) := by decide +kernel
theorem dX11_mend_33 : decode cX11_mend 33 = .ok (.getfield 132, 3) := by decide +kernel
theorem dX11_mend_36 : decode cX11_mend 36 = .ok (.iload_n 1, 1) := by decide +kernel
theorem dX11_mend_37 : decode cX11_mend 37 = .ok (.iload_n 2, 1) := by decide +kernel
theorem dX11_mend_38 : decode cX11_mend 38 = .ok (.iastore, 1) := by decide +kernel
theorem dX11_mend_39 : decode cX11_mend 39 = .ok (.aload_n 0, 1) := by decide +kernel
theorem dX11_mend_40 : decode cX11_mend 40 = .ok (.getfield 26, 3) := by decide +kernel
theorem dX11_mend_43 : decode cX11_mend 43 = .ok (.invokevirtual 72, 3) := by decide +kernel
theorem dX11_mend_46 : decode cX11_mend 46 = .ok (.iconst 1, 1) := by decide +kernel
theorem dX11_mend_47 : decode cX11_mend 47 = .ok (.ireturn, 1) := by decide +kernel
theorem dX11_foes_0 : decode cX11_foes 0 = .ok (.aload_n 0, 1) := by decide +kernel
theorem dX11_foes_1 : decode cX11_foes 1 = .ok (.getfield 12, 3) := by decide +kernel
theorem dX11_foes_4 : decode cX11_foes 4 = .ok (.getfield 89, 3) := by decide +kernel
theorem dX11_foes_7 : decode cX11_foes 7 = .ok (.iload_n 1, 1) := by decide +kernel
theorem dX11_foes_8 : decode cX11_foes 8 = .ok (.iload_n 2, 1) := by decide +kernel
theorem dX11_foes_9 : decode cX11_foes 9 = .ok (.invokevirtual 120, 3) := by decide +kernel
theorem dX11_foes_12 : decode cX11_foes 12 = .ok (.ifCond .ne 5, 3) := by decide +kernel
theorem dX11_foes_15 : decode cX11_foes 15 = .ok (.iconst 0, 1) := by decide +kernel
theorem dX11_foes_16 : decode cX11_foes 16 = .ok (.ireturn, 1) := by decide +kernel
theorem dX11_foes_17 : decode cX11_foes 17 = .ok (.aload_n 0, 1) := by decide +kernel
theorem dX11_foes_18 : decode cX11_foes 18 = .ok (.getfield 12, 3) := by decide +kernel
theorem dX11_foes_21 : decode cX11_foes 21 = .ok (.getfield 89, 3) := by decide +kernel
theorem dX11_foes_24 : decode cX11_foes 24 = .ok (.iload_n 1, 1) := by decide +kernel
theorem dX11_foes_25 : decode cX11_foes 25 = .ok (.iload_n 2, 1) := by decide +kernel
theorem dX11_foes_26 : decode cX11_foes 26 = .ok (.iload_n 3, 1) := by decide +kernel
theorem dX11_foes_27 : decode cX11_foes 27 = .ok (.invokevirtual 138, 3) := by decide +kernel
theorem dX11_foes_30 : decode cX11_foes 30 = .ok (.iconst 1, 1) := by decide +kernel
theorem dX11_foes_31 : decode cX11_foes 31 = .ok (.ireturn, 1) := by decide +kernel
theorem dX11_feed_0 : decode cX11_feed 0 = .ok (.aload_n 0, 1) := by decide +kernel
theorem dX11_feed_1 : decode cX11_feed 1 = .ok (.getfield 33, 3) := by decide +kernel
theorem dX11_feed_4 : decode cX11_feed 4 = .ok (.getfield 142, 3) := by decide +kernel
theorem dX11_feed_7 : decode cX11_feed 7 = .ok (.astore 6, 2) := by decide +kernel
theorem dX11_feed_9 : decode cX11_feed 9 = .ok (.aload 6, 2) := by decide +kernel
theorem dX11_feed_11 : decode cX11_feed 11 = .ok (.invokevirtual 146, 3) := by decide +kernel
theorem dX11_feed_14 : decode cX11_feed 14 = .ok (.ifCond .ne 5, 3) := by decide +kernel
theorem dX11_feed_17 : decode cX11_feed 17 = .ok (.iconst (-1), 1) := by decide +kernel
theorem dX11_feed_18 : decode cX11_feed 18 = .ok (.ireturn, 1) := by decide +kernel
theorem dX11_feed_19 : decode cX11_feed 19 = .ok (.aload 6, 2) := by decide +kernel
theorem dX11_feed_21 : decode cX11_feed 21 = .ok (.iload_n 1, 1) := by decide +kernel
theorem dX11_feed_22 : decode cX11_feed 22 = .ok (.invokevirtual 152, 3) := by decide +kernel
theorem dX11_feed_25 : decode cX11_feed 25 = .ok (.aload 6, 2) := by decide +kernel
theorem dX11_feed_27 : decode cX11_feed 27 = .ok (.iload_n 2, 1) := by decide +kernel
theorem dX11_feed_28 : decode cX11_feed 28 = .ok (.invokevirtual 152, 3) := by decide +kernel
theorem dX11_feed_31 : decode cX11_feed 31 = .ok (.aload 6, 2) := by decide +kernel
theorem dX11_feed_33 : decode cX11_feed 33 = .ok (.iload_n 3, 1) := by decide +kernel
theorem dX11_feed_34 : decode cX11_feed 34 = .ok (.invokevirtual 152, 3) := by decide +kernel
theorem dX11_feed_37 : decode cX11_feed 37 = .ok (.aload 6, 2) := by decide +kernel
theorem dX11_feed_39 : decode cX11_feed 39 = .ok (.iload 4, 2) := by decide +kernel
theorem dX11_feed_41 : decode cX11_feed 41 = .ok (.invokevirtual 152, 3) := by decide +kernel
theorem dX11_feed_44 : decode cX11_feed 44 = .ok (.aload 6, 2) := by decide +kernel
theorem dX11_feed_46 : decode cX11_feed 46 = .ok (.iload 5, 2) := by decide +kernel
theorem dX11_feed_48 : decode cX11_feed 48 = .ok (.invokevirtual 152, 3) := by decide +kernel
theorem dX11_feed_51 : decode cX11_feed 51 = .ok (.aload 6, 2) := by decide +kernel
theorem dX11_feed_53 : decode cX11_feed 53 = .ok (.getfield 155, 3) := by decide +kernel
theorem dX11_feed_56 : decode cX11_feed 56 = .ok (.ireturn, 1) := by decide +kernel
theorem dX11_end_0 : decode cX11_end 0 = .ok (.iload_n 1, 1) := by decide +kernel
theorem dX11_end_1 : decode cX11_end 1 = .ok (.iconst 0, 1) := by decide +kernel
theorem dX11_end_2 : decode cX11_end 2 = .ok (.aload_n 0, 1) := by decide +kernel
theorem dX11_end_3 : decode cX11_end 3 = .ok (.getfield 33, 3) := by decide +kernel
theorem dX11_end_6 : decode cX11_end 6 = .ok (.getfield 142, 3) := by decide +kernel
theorem dX11_end_9 : decode cX11_end 9 = .ok (.getfield 155, 3) := by decide +kernel
theorem dX11_end_12 : decode cX11_end 12 = .ok (.invokestatic 65, 3) := by decide +kernel
theorem dX11_end_15 : decode cX11_end 15 = .ok (.ifCond .ne 5, 3) := by decide +kernel
theorem dX11_end_18 : decode cX11_end 18 = .ok (.iconst 0, 1) := by decide +kernel
theorem dX11_end_19 : decode cX11_end 19 = .ok (.ireturn, 1) := by decide +kernel
theorem dX11_end_20 : decode cX11_end 20 = .ok (.aload_n 0, 1) := by decide +kernel
theorem dX11_end_21 : decode cX11_end 21 = .ok (.getfield 33, 3) := by decide +kernel
theorem dX11_end_24 : decode cX11_end 24 = .ok (.getfield 142, 3) := by decide +kernel
theorem dX11_end_27 : decode cX11_end 27 = .ok (.iload_n 1, 1) := by decide +kernel
theorem dX11_end_28 : decode cX11_end 28 = .ok (.putfield 155, 3) := by decide +kernel
theorem dX11_end_31 : decode cX11_end 31 = .ok (.iconst 1, 1) := by decide +kernel
theorem dX11_end_32 : decode cX11_end 32 = .ok (.ireturn, 1) := by decide +kernel
theorem dX11_text_0 : decode cX11_text 0 = .ok (.aload_n 0, 1) := by decide +kernel
theorem dX11_text_1 : decode cX11_text 1 = .ok (.getfield 33, 3) := by decide +kernel
theorem dX11_text_4 : decode cX11_text 4 = .ok (.invokevirtual 158, 3) := by decide +kernel
theorem dX11_text_7 : decode cX11_text 7 = .ok (.aload_n 0, 1) := by decide +kernel
theorem dX11_text_8 : decode cX11_text 8 = .ok (.getfield 33, 3) := by decide +kernel
theorem dX11_text_11 : decode cX11_text 11 = .ok (.getfield 142, 3) := by decide +kernel
theorem dX11_text_14 : decode cX11_text 14 = .ok (.iconst 0, 1) := by decide +kernel
theorem dX11_text_15 : decode cX11_text 15 = .ok (.putfield 155, 3) := by decide +kernel
theorem dX11_text_18 : decode cX11_text 18 = .ok (.aload_n 0, 1) := by decide +kernel
theorem dX11_text_19 : decode cX11_text 19 = .ok (.getfield 33, 3) := by decide +kernel
theorem dX11_text_22 : decode cX11_text 22 = .ok (.getfield 161, 3) := by decide +kernel
theorem dX11_text_25 : decode cX11_text 25 = .ok (.ifCond .eq 5, 3) := by decide +kernel
theorem dX11_text_28 : decode cX11_text 28 = .ok (.iconst (-1), 1) := by decide +kernel
theorem dX11_text_29 : decode cX11_text 29 = .ok (.ireturn, 1) := by decide +kernel
theorem dX11_text_30 : decode cX11_text 30 = .ok (.aload_n 0, 1) := by decide +kernel
theorem dX11_text_31 : decode cX11_text 31 = .ok (.getfield 12, 3) := by decide +kernel
theorem dX11_text_34 : decode cX11_text 34 = .ok (.getfield 164, 3) := by decide +kernel
theorem dX11_text_37 : decode cX11_text 37 = .ok (.aload_n 0, 1) := by decide +kernel
theorem dX11_text_38 : decode cX11_text 38 = .ok (.getfield 33, 3) := by decide +kernel
theorem dX11_text_41 : decode cX11_text 41 = .ok (.invokevirtual 168, 3) := by decide +kernel
theorem dX11_text_44 : decode cX11_text 44 = .ok (.aload_n 0, 1) := by decide +kernel
theorem dX11_text_45 : decode cX11_text 45 = .ok (.getfield 12, 3) := by decide +kernel
theorem dX11_text_48 : decode cX11_text 48 = .ok (.getfield 164, 3) := by decide +kernel
theorem dX11_text_51 : decode cX11_text 51 = .ok (.getfield 174, 3) := by decide +kernel
theorem dX11_text_54 : decode cX11_text 54 = .ok (.ireturn, 1) := by decide +kernel
theorem dX11_fault_0 : decode cX11_fault 0 = .ok (.iload_n 1, 1) := by decide +kernel
theorem dX11_fault_1 : decode cX11_fault 1 = .ok (.ifCond .ne 11, 3) := by decide +kernel
theorem dX11_fault_4 : decode cX11_fault 4 = .ok (.aload_n 0, 1) := by decide +kernel
theorem dX11_fault_5 : decode cX11_fault 5 = .ok (.getfield 33, 3) := by decide +kernel
theorem dX11_fault_8 : decode cX11_fault 8 = .ok (.getfield 161, 3) := by decide +kernel
theorem dX11_fault_11 : decode cX11_fault 11 = .ok (.ireturn, 1) := by decide +kernel
theorem dX11_fault_12 : decode cX11_fault 12 = .ok (.iload_n 1, 1) := by decide +kernel
theorem dX11_fault_13 : decode cX11_fault 13 = .ok (.iconst 1, 1) := by decide +kernel
theorem dX11_fault_14 : decode cX11_fault 14 = .ok (.if_icmp .ne 13, 3) := by decide +kernel
theorem dX11_fault_17 : decode cX11_fault 17 = .ok (.aload_n 0, 1) := by decide +kernel
theorem dX11_fault_18 : decode cX11_fault 18 = .ok (.getfield 33, 3) := by decide +kernel
theorem dX11_fault_21 : decode cX11_fault 21 = .ok (.getfield 177, 3) := by decide +kernel
theorem dX11_fault_24 : decode cX11_fault 24 = .ok (.goto 4, 3) := by decide +kernel
theorem dX11_fault_27 : decode cX11_fault 27 = .ok (.iconst (-1), 1) := by decide +kernel
theorem dX11_fault_28 : decode cX11_fault 28 = .ok (.ireturn, 1) := by decide +kernel
theorem dX11_hours_0 : decode cX11_hours 0 = .ok (.iload_n 1, 1) := by decide +kernel
theorem dX11_hours_1 : decode cX11_hours 1 = .ok (.iconst 1, 1) := by decide +kernel
theorem dX11_hours_2 : decode cX11_hours 2 = .ok (.sipush 240, 3) := by decide +kernel
theorem dX11_hours_5 : decode cX11_hours 5 = .ok (.invokestatic 65, 3) := by decide +kernel
theorem dX11_hours_8 : decode cX11_hours 8 = .ok (.ifCond .eq 14, 3) := by decide +kernel
theorem dX11_hours_11 : decode cX11_hours 11 = .ok (.aload_n 0, 1) := by decide +kernel
theorem dX11_hours_12 : decode cX11_hours 12 = .ok (.getfield 12, 3) := by decide +kernel
theorem dX11_hours_15 : decode cX11_hours 15 = .ok (.iload_n 1, 1) := by decide +kernel
theorem dX11_hours_16 : decode cX11_hours 16 = .ok (.invokevirtual 180, 3) := by decide +kernel
theorem dX11_hours_19 : decode cX11_hours 19 = .ok (.ifCond .ne 5, 3) := by decide +kernel
theorem dX11_hours_22 : decode cX11_hours 22 = .ok (.iconst (-1), 1) := by decide +kernel
theorem dX11_hours_23 : decode cX11_hours 23 = .ok (.ireturn, 1) := by decide +kernel
theorem dX11_hours_24 : decode cX11_hours 24 = .ok (.iconst 0, 1) := by decide +kernel
theorem dX11_hours_25 : decode cX11_hours 25 = .ok (.istore_n 2, 1) := by decide +kernel
theorem dX11_hours_26 : decode cX11_hours 26 = .ok (.iconst 0, 1) := by decide +kernel
theorem dX11_hours_27 : decode cX11_hours 27 = .ok (.istore_n 3, 1) := by decide +kernel
theorem dX11_hours_28 : decode cX11_hours 28 = .ok (.iload_n 3, 1) := by decide +kernel
theorem dX11_hours_29 : decode cX11_hours 29 = .ok (.iload_n 1, 1) := by decide +kernel
theorem dX11_hours_30 : decode cX11_hours 30 = .ok (.if_icmp .ge 33, 3) := by decide +kernel
theorem dX11_hours_33 : decode cX11_hours 33 = .ok (.aload_n 0, 1) := by decide +kernel
theorem dX11_hours_34 : decode cX11_hours 34 = .ok (.getfield 26, 3) := by decide +kernel
theorem dX11_hours_37 : decode cX11_hours 37 = .ok (.aload_n 0, 1) := by decide +kernel
theorem dX11_hours_38 : decode cX11_hours 38 = .ok (.getfield 12, 3) := by decide +kernel
theorem dX11_hours_41 : decode cX11_hours 41 = .ok (.getfield 51, 3) := by decide +kernel
theorem dX11_hours_44 : decode cX11_hours 44 = .ok (.invokevirtual 183, 3) := by decide +kernel
theorem dX11_hours_47 : decode cX11_hours 47 = .ok (.iload_n 2, 1) := by decide +kernel
theorem dX11_hours_48 : decode cX11_hours 48 = .ok (.aload_n 0, 1) := by decide +kernel
theorem dX11_hours_49 : decode cX11_hours 49 = .ok (.getfield 12, 3) := by decide +kernel
theorem dX11_hours_52 : decode cX11_hours 52 = .ok (.invokevirtual 187, 3) := by decide +kernel
theorem dX11_hours_55 : decode cX11_hours 55 = .ok (.iadd, 1) := by decide +kernel
theorem dX11_hours_56 : decode cX11_hours 56 = .ok (.istore_n 2, 1) := by decide +kernel
theorem dX11_hours_57 : decode cX11_hours 57 = .ok (.iinc 3 1, 3) := by decide +kernel
theorem dX11_hours_60 : decode cX11_hours 60 = .ok (.goto (-32), 3) := by decide +kernel
theorem dX11_hours_63 : decode cX11_hours 63 = .ok (.iload_n 2, 1) := by decide +kernel
theorem dX11_hours_64 : decode cX11_hours 64 = .ok (.ireturn, 1) := by decide +kernel
theorem dX11_of_0 : decode cX11_of 0 = .ok (.aload_n 0, 1) := by decide +kernel
theorem dX11_of_1 : decode cX11_of 1 = .ok (.getfield 12, 3) := by decide +kernel
theorem dX11_of_4 : decode cX11_of 4 = .ok (.getfield 89, 3) := by decide +kernel
theorem dX11_of_7 : decode cX11_of 7 = .ok (.iload_n 1, 1) := by decide +kernel
theorem dX11_of_8 : decode cX11_of 8 = .ok (.invokevirtual 106, 3) := by decide +kernel
theorem dX11_of_11 : decode cX11_of 11 = .ok (.ifCond .ne 6, 3) := by decide +kernel
theorem dX11_of_14 : decode cX11_of 14 = .ok (.bipush (-2), 2) := by decide +kernel
theorem dX11_of_16 : decode cX11_of 16 = .ok (.ireturn, 1) := by decide +kernel
theorem dX11_of_17 : decode cX11_of 17 = .ok (.iload_n 2, 1) := by decide +kernel
theorem dX11_of_18 : decode cX11_of 18 = .ok (.iconst 0, 1) := by decide +kernel
theorem dX11_of_19 : decode cX11_of 19 = .ok (.iconst 3, 1) := by decide +kernel
theorem dX11_of_20 : decode cX11_of 20 = .ok (.invokestatic 65, 3) := by decide +kernel
theorem dX11_of_23 : decode cX11_of 23 = .ok (.ifCond .eq 18, 3) := by decide +kernel
theorem dX11_of_26 : decode cX11_of 26 = .ok (.aload_n 0, 1) := by decide +kernel
theorem dX11_of_27 : decode cX11_of 27 = .ok (.getfield 12, 3) := by decide +kernel
theorem dX11_of_30 : decode cX11_of 30 = .ok (.getfield 89, 3) := by decide +kernel
theorem dX11_of_33 : decode cX11_of 33 = .ok (.getfield 191, 3) := by decide +kernel
theorem dX11_of_36 : decode cX11_of 36 = .ok (.iload_n 2, 1) := by decide +kernel
theorem dX11_of_37 : decode cX11_of 37 = .ok (.aaload, 1) := by decide +kernel
theorem dX11_of_38 : decode cX11_of 38 = .ok (.iload_n 1, 1) := by decide +kernel
theorem dX11_of_39 : decode cX11_of 39 = .ok (.iaload, 1) := by decide +kernel
theorem dX11_of_40 : decode cX11_of 40 = .ok (.ireturn, 1) := by decide +kernel
theorem dX11_of_41 : decode cX11_of 41 = .ok (.aload_n 0, 1) := by decide +kernel
theorem dX11_of_42 : decode cX11_of 42 = .ok (.getfield 12, 3) := by decide +kernel
theorem dX11_of_45 : decode cX11_of 45 = .ok (.getfield 51, 3) := by decide +kernel
theorem dX11_of_48 : decode cX11_of 48 = .ok (.astore_n 3, 1) := by decide +kernel
theorem dX11_of_49 : decode cX11_of 49 = .ok (.iload_n 2, 1) := by decide +kernel
theorem dX11_of_50 : decode cX11_of 50 = .ok (.tableswitch 113 4 12 #[50, 57, 64, 71, 78, 85, 92, 101, 107], 50) := by decide +kernel
theorem dX11_of_100 : decode cX11_of 100 = .ok (.aload_n 3, 1) := by decide +kernel
theorem dX11_of_101 : decode cX11_of 101 = .ok (.getfield 195, 3) := by decide +kernel
theorem dX11_of_104 : decode cX11_of 104 = .ok (.iload_n 1, 1) := by decide +kernel
theorem dX11_of_105 : decode cX11_of 105 = .ok (.iaload, 1) := by decide +kernel
theorem dX11_of_106 : decode cX11_of 106 = .ok (.ireturn, 1) := by decide +kernel
theorem dX11_of_107 : decode cX11_of 107 = .ok (.aload_n 3, 1) := by decide +kernel
theorem dX11_of_108 : decode cX11_of 108 = .ok (.getfield 198, 3) := by decide +kernel
theorem dX11_of_111 : decode cX11_of 111 = .ok (.iload_n 1, 1) := by decide +kernel
theorem dX11_of_112 : decode cX11_of 112 = .ok (.iaload, 1) := by decide +kernel
theorem dX11_of_113 : decode cX11_of 113 = .ok (.ireturn, 1) := by decide +kernel
theorem dX11_of_114 : decode cX11_of 114 = .ok (.aload_n 3, 1) := by decide +kernel
theorem dX11_of_115 : decode cX11_of 115 = .ok (.getfield 201, 3) := by decide +kernel
theorem dX11_of_118 : decode cX11_of 118 = .ok (.iload_n 1, 1) := by decide +kernel
theorem dX11_of_119 : decode cX11_of 119 = .ok (.iaload, 1) := by decide +kernel
theorem dX11_of_120 : decode cX11_of 120 = .ok (.ireturn, 1) := by decide +kernel
theorem dX11_of_121 : decode cX11_of 121 = .ok (.aload_n 3, 1) := by decide +kernel
theorem dX11_of_122 : decode cX11_of 122 = .ok (.getfield 204, 3) := by decide +kernel
theorem dX11_of_125 : decode cX11_of 125 = .ok (.iload_n 1, 1) := by decide +kernel
theorem dX11_of_126 : decode cX11_of 126 = .ok (.iaload, 1) := by decide +kernel
theorem dX11_of_127 : decode cX11_of 127 = .ok (.ireturn, 1) := by decide +kernel
theorem dX11_of_128 : decode cX11_of 128 = .ok (.aload_n 3, 1) := by decide +kernel
theorem dX11_of_129 : decode cX11_of 129 = .ok (.getfield 207, 3) := by decide +kernel
theorem dX11_of_132 : decode cX11_of 132 = .ok (.iload_n 1, 1) := by decide +kernel
theorem dX11_of_133 : decode cX11_of 133 = .ok (.iaload, 1) := by decide +kernel
theorem dX11_of_134 : decode cX11_of 134 = .ok (.ireturn, 1) := by decide +kernel
theorem dX11_of_135 : decode cX11_of 135 = .ok (.aload_n 3, 1) := by decide +kernel
theorem dX11_of_136 : decode cX11_of 136 = .ok (.getfield 210, 3) := by decide +kernel
theorem dX11_of_139 : decode cX11_of 139 = .ok (.iload_n 1, 1) := by decide +kernel
theorem dX11_of_140 : decode cX11_of 140 = .ok (.iaload, 1) := by decide +kernel
theorem dX11_of_141 : decode cX11_of 141 = .ok (.ireturn, 1) := by decide +kernel
theorem dX11_of_142 : decode cX11_of 142 = .ok (.aload_n 0, 1) := by decide +kernel
theorem dX11_of_143 : decode cX11_of 143 = .ok (.getfield 12, 3) := by decide +kernel
theorem dX11_of_146 : decode cX11_of 146 = .ok (.iload_n 1, 1) := by decide +kernel
theorem dX11_of_147 : decode cX11_of 147 = .ok (.invokevirtual 213, 3) := by decide +kernel
theorem dX11_of_150 : decode cX11_of 150 = .ok (.ireturn, 1) := by decide +kernel
theorem dX11_of_151 : decode cX11_of 151 = .ok (.aload_n 3, 1) := by decide +kernel
theorem dX11_of_152 : decode cX11_of 152 = .ok (.iload_n 1, 1) := by decide +kernel
theorem dX11_of_153 : decode cX11_of 153 = .ok (.invokevirtual 216, 3) := by decide +kernel
theorem dX11_of_156 : decode cX11_of 156 = .ok (.ireturn, 1) := by decide +kernel
theorem dX11_of_157 : decode cX11_of 157 = .ok (.aload_n 3, 1) := by decide +kernel
theorem dX11_of_158 : decode cX11_of 158 = .ok (.iload_n 1, 1) := by decide +kernel
theorem dX11_of_159 : decode cX11_of 159 = .ok (.invokevirtual 219, 3) := by decide +kernel
theorem dX11_of_162 : decode cX11_of 162 = .ok (.ireturn, 1) := by decide +kernel
theorem dX11_of_163 : decode cX11_of 163 = .ok (.bipush (-2), 2) := by decide +kernel
theorem dX11_of_165 : decode cX11_of 165 = .ok (.ireturn, 1) := by decide +kernel
theorem dX11_pail_0 : decode cX11_pail 0 = .ok (.aload_n 0, 1) := by decide +kernel
theorem dX11_pail_1 : decode cX11_pail 1 = .ok (.getfield 12, 3) := by decide +kernel
theorem dX11_pail_4 : decode cX11_pail 4 = .ok (.getfield 75, 3) := by decide +kernel
theorem dX11_pail_7 : decode cX11_pail 7 = .ok (.astore_n 3, 1) := by decide +kernel
theorem dX11_pail_8 : decode cX11_pail 8 = .ok (.aload_n 3, 1) := by decide +kernel
theorem dX11_pail_9 : decode cX11_pail 9 = .ok (.iload_n 1, 1) := by decide +kernel
theorem dX11_pail_10 : decode cX11_pail 10 = .ok (.invokevirtual 222, 3) := by decide +kernel
theorem dX11_pail_13 : decode cX11_pail 13 = .ok (.ifCond .ne 5, 3) := by decide +kernel
theorem dX11_pail_16 : decode cX11_pail 16 = .ok (.iconst (-1), 1) := by decide +kernel
theorem dX11_pail_17 : decode cX11_pail 17 = .ok (.ireturn, 1) := by decide +kernel
theorem dX11_pail_18 : decode cX11_pail 18 = .ok (.iload_n 2, 1) := by decide +kernel
theorem dX11_pail_19 : decode cX11_pail 19 = .ok (.tableswitch 80 0 4 #[33, 40, 47, 54, 67], 33) := by decide +kernel
theorem dX11_pail_52 : decode cX11_pail 52 = .ok (.aload_n 3, 1) := by decide +kernel
theorem dX11_pail_53 : decode cX11_pail 53 = .ok (.getfield 225, 3) := by decide +kernel
theorem dX11_pail_56 : decode cX11_pail 56 = .ok (.iload_n 1, 1) := by decide +kernel
theorem dX11_pail_57 : decode cX11_pail 57 = .ok (.iaload, 1) := by decide +kernel
theorem dX11_pail_58 : decode cX11_pail 58 = .ok (.ireturn, 1) := by decide +kernel
theorem dX11_pail_59 : decode cX11_pail 59 = .ok (.aload_n 3, 1) := by decide +kernel
theorem dX11_pail_60 : decode cX11_pail 60 = .ok (.getfield 228, 3) := by decide +kernel
theorem dX11_pail_63 : decode cX11_pail 63 = .ok (.iload_n 1, 1) := by decide +kernel
theorem dX11_pail_64 : decode cX11_pail 64 = .ok (.iaload, 1) := by decide +kernel
theorem dX11_pail_65 : decode cX11_pail 65 = .ok (.ireturn, 1) := by decide +kernel
theorem dX11_pail_66 : decode cX11_pail 66 = .ok (.aload_n 3, 1) := by decide +kernel
theorem dX11_pail_67 : decode cX11_pail 67 = .ok (.getfield 231, 3) := by decide +kernel
theorem dX11_pail_70 : decode cX11_pail 70 = .ok (.iload_n 1, 1) := by decide +kernel
theorem dX11_pail_71 : decode cX11_pail 71 = .ok (.iaload, 1) := by decide +kernel
theorem dX11_pail_72 : decode cX11_pail 72 = .ok (.ireturn, 1) := by decide +kernel
theorem dX11_pail_73 : decode cX11_pail 73 = .ok (.aload_n 0, 1) := by decide +kernel
theorem dX11_pail_74 : decode cX11_pail 74 = .ok (.getfield 12, 3) := by decide +kernel
theorem dX11_pail_77 : decode cX11_pail 77 = .ok (.getfield 51, 3) := by decide +kernel
theorem dX11_pail_80 : decode cX11_pail 80 = .ok (.getfield 234, 3) := by decide +kernel
theorem dX11_pail_83 : decode cX11_pail 83 = .ok (.iload_n 1, 1) := by decide +kernel
theorem dX11_pail_84 : decode cX11_pail 84 = .ok (.iaload, 1) := by decide +kernel
theorem dX11_pail_85 : decode cX11_pail 85 = .ok (.ireturn, 1) := by decide +kernel
theorem dX11_pail_86 : decode cX11_pail 86 = .ok (.aload_n 3, 1) := by decide +kernel
theorem dX11_pail_87 : decode cX11_pail 87 = .ok (.iload_n 1, 1) := by decide +kernel
theorem dX11_pail_88 : decode cX11_pail 88 = .ok (.aload_n 0, 1) := by decide +kernel
theorem dX11_pail_89 : decode cX11_pail 89 = .ok (.getfield 12, 3) := by decide +kernel
theorem dX11_pail_92 : decode cX11_pail 92 = .ok (.getfield 51, 3) := by decide +kernel
theorem dX11_pail_95 : decode cX11_pail 95 = .ok (.invokevirtual 237, 3) := by decide +kernel
theorem dX11_pail_98 : decode cX11_pail 98 = .ok (.ireturn, 1) := by decide +kernel
theorem dX11_pail_99 : decode cX11_pail 99 = .ok (.iconst (-1), 1) := by decide +kernel
theorem dX11_pail_100 : decode cX11_pail 100 = .ok (.ireturn, 1) := by decide +kernel
theorem dX11_part_0 : decode cX11_part 0 = .ok (.aload_n 0, 1) := by decide +kernel
theorem dX11_part_1 : decode cX11_part 1 = .ok (.getfield 12, 3) := by decide +kernel
theorem dX11_part_4 : decode cX11_part 4 = .ok (.getfield 75, 3) := by decide +kernel
theorem dX11_part_7 : decode cX11_part 7 = .ok (.astore_n 3, 1) := by decide +kernel
theorem dX11_part_8 : decode cX11_part 8 = .ok (.aload_n 3, 1) := by decide +kernel
theorem dX11_part_9 : decode cX11_part 9 = .ok (.iload_n 1, 1) := by decide +kernel
theorem dX11_part_10 : decode cX11_part 10 = .ok (.invokevirtual 135, 3) := by decide +kernel
theorem dX11_part_13 : decode cX11_part 13 = .ok (.ifCond .ne 5, 3) := by decide +kernel
theorem dX11_part_16 : decode cX11_part 16 = .ok (.iconst (-1), 1) := by decide +kernel
theorem dX11_part_17 : decode cX11_part 17 = .ok (.ireturn, 1) := by decide +kernel
theorem dX11_part_18 : decode cX11_part 18 = .ok (.iload_n 2, 1) := by decide +kernel
theorem dX11_part_19 : decode cX11_part 19 = .ok (.tableswitch 52 0 2 #[25, 38, 45], 25) := by decide +kernel
theorem dX11_part_44 : decode cX11_part 44 = .ok (.aload_n 0, 1) := by decide +kernel
theorem dX11_part_45 : decode cX11_part 45 = .ok (.getfield 12, 3) := by decide +kernel
theorem dX11_part_48 : decode cX11_part 48 = .ok (.getfield 51, 3) := by decide +kernel
theorem dX11_part_51 : decode cX11_part 51 = .ok (.getfield 132, 3) := by decide +kernel
theorem dX11_part_54 : decode cX11_part 54 = .ok (.iload_n 1, 1) := by decide +kernel
theorem dX11_part_55 : decode cX11_part 55 = .ok (.iaload, 1) := by decide +kernel
theorem dX11_part_56 : decode cX11_part 56 = .ok (.ireturn, 1) := by decide +kernel
theorem dX11_part_57 : decode cX11_part 57 = .ok (.aload_n 3, 1) := by decide +kernel
theorem dX11_part_58 : decode cX11_part 58 = .ok (.getfield 241, 3) := by decide +kernel
theorem dX11_part_61 : decode cX11_part 61 = .ok (.iload_n 1, 1) := by decide +kernel
theorem dX11_part_62 : decode cX11_part 62 = .ok (.iaload, 1) := by decide +kernel
theorem dX11_part_63 : decode cX11_part 63 = .ok (.ireturn, 1) := by decide +kernel
theorem dX11_part_64 : decode cX11_part 64 = .ok (.aload_n 3, 1) := by decide +kernel
theorem dX11_part_65 : decode cX11_part 65 = .ok (.getfield 244, 3) := by decide +kernel
theorem dX11_part_68 : decode cX11_part 68 = .ok (.iload_n 1, 1) := by decide +kernel
theorem dX11_part_69 : decode cX11_part 69 = .ok (.iaload, 1) := by decide +kernel
theorem dX11_part_70 : decode cX11_part 70 = .ok (.ireturn, 1) := by decide +kernel
theorem dX11_part_71 : decode cX11_part 71 = .ok (.iconst (-1), 1) := by decide +kernel
theorem dX11_part_72 : decode cX11_part 72 = .ok (.ireturn, 1) := by decide +kernel
theorem dX11_owes_0 : decode cX11_owes 0 = .ok (.aload_n 0, 1) := by decide +kernel
theorem dX11_owes_1 : decode cX11_owes 1 = .ok (.getfield 12, 3) := by decide +kernel
theorem dX11_owes_4 : decode cX11_owes 4 = .ok (.getfield 89, 3) := by decide +kernel
theorem dX11_owes_7 : decode cX11_owes 7 = .ok (.iload_n 1, 1) := by decide +kernel
theorem dX11_owes_8 : decode cX11_owes 8 = .ok (.iload_n 2, 1) := by decide +kernel
theorem dX11_owes_9 : decode cX11_owes 9 = .ok (.invokevirtual 120, 3) := by decide +kernel
theorem dX11_owes_12 : decode cX11_owes 12 = .ok (.ifCond .eq 23, 3) := by decide +kernel
theorem dX11_owes_15 : decode cX11_owes 15 = .ok (.aload_n 0, 1) := by decide +kernel
theorem dX11_owes_16 : decode cX11_owes 16 = .ok (.getfield 12, 3) := by decide +kernel
theorem dX11_owes_19 : decode cX11_owes 19 = .ok (.getfield 51, 3) := by decide +kernel
theorem dX11_owes_22 : decode cX11_owes 22 = .ok (.getfield 247, 3) := by decide +kernel
theorem dX11_owes_25 : decode cX11_owes 25 = .ok (.iload_n 1, 1) := by decide +kernel
theorem dX11_owes_26 : decode cX11_owes 26 = .ok (.bipush 9, 2) := by decide +kernel
theorem dX11_owes_28 : decode cX11_owes 28 = .ok (.imul, 1) := by decide +kernel
theorem dX11_owes_29 : decode cX11_owes 29 = .ok (.iload_n 2, 1) := by decide +kernel
theorem dX11_owes_30 : decode cX11_owes 30 = .ok (.iadd, 1) := by decide +kernel
theorem dX11_owes_31 : decode cX11_owes 31 = .ok (.iaload, 1) := by decide +kernel
theorem dX11_owes_32 : decode cX11_owes 32 = .ok (.goto 4, 3) := by decide +kernel
theorem dX11_owes_35 : decode cX11_owes 35 = .ok (.iconst (-1), 1) := by decide +kernel
theorem dX11_owes_36 : decode cX11_owes 36 = .ok (.ireturn, 1) := by decide +kernel
theorem dX11_deals_0 : decode cX11_deals 0 = .ok (.aload_n 0, 1) := by decide +kernel
theorem dX11_deals_1 : decode cX11_deals 1 = .ok (.getfield 47, 3) := by decide +kernel
theorem dX11_deals_4 : decode cX11_deals 4 = .ok (.aload_n 0, 1) := by decide +kernel
theorem dX11_deals_5 : decode cX11_deals 5 = .ok (.getfield 12, 3) := by decide +kernel
theorem dX11_deals_8 : decode cX11_deals 8 = .ok (.getfield 51, 3) := by decide +kernel
theorem dX11_deals_11 : decode cX11_deals 11 = .ok (.aload_n 0, 1) := by decide +kernel
theorem dX11_deals_12 : decode cX11_deals 12 = .ok (.getfield 12, 3) := by decide +kernel
theorem dX11_deals_15 : decode cX11_deals 15 = .ok (.getfield 89, 3) := by decide +kernel
theorem dX11_deals_18 : decode cX11_deals 18 = .ok (.getfield 250, 3) := by decide +kernel
theorem dX11_deals_21 : decode cX11_deals 21 = .ok (.invokevirtual 253, 3) := by decide +kernel
theorem dX11_deals_24 : decode cX11_deals 24 = .ok (.ireturn, 1) := by decide +kernel
theorem dX11_best_0 : decode cX11_best 0 = .ok (.aload_n 0, 1) := by decide +kernel
theorem dX11_best_1 : decode cX11_best 1 = .ok (.getfield 40, 3) := by decide +kernel
theorem dX11_best_4 : decode cX11_best 4 = .ok (.iload_n 1, 1) := by decide +kernel
theorem dX11_best_5 : decode cX11_best 5 = .ok (.aload_n 0, 1) := by decide +kernel
theorem dX11_best_6 : decode cX11_best 6 = .ok (.getfield 12, 3) := by decide +kernel
theorem dX11_best_9 : decode cX11_best 9 = .ok (.getfield 89, 3) := by decide +kernel
theorem dX11_best_12 : decode cX11_best 12 = .ok (.getfield 250, 3) := by decide +kernel
theorem dX11_best_15 : decode cX11_best 15 = .ok (.invokevirtual 257, 3) := by decide +kernel
theorem dX11_best_18 : decode cX11_best 18 = .ok (.ifCond .ne 5, 3) := by decide +kernel
theorem dX11_best_21 : decode cX11_best 21 = .ok (.iconst (-1), 1) := by decide +kernel
theorem dX11_best_22 : decode cX11_best 22 = .ok (.ireturn, 1) := by decide +kernel
theorem dX11_best_23 : decode cX11_best 23 = .ok (.aload_n 0, 1) := by decide +kernel
theorem dX11_best_24 : decode cX11_best 24 = .ok (.getfield 40, 3) := by decide +kernel
theorem dX11_best_27 : decode cX11_best 27 = .ok (.aload_n 0, 1) := by decide +kernel
theorem dX11_best_28 : decode cX11_best 28 = .ok (.getfield 12, 3) := by decide +kernel
theorem dX11_best_31 : decode cX11_best 31 = .ok (.invokevirtual 260, 3) := by decide +kernel
theorem dX11_best_34 : decode cX11_best 34 = .ok (.aload_n 0, 1) := by decide +kernel
theorem dX11_best_35 : decode cX11_best 35 = .ok (.getfield 40, 3) := by decide +kernel
theorem dX11_best_38 : decode cX11_best 38 = .ok (.iload_n 1, 1) := by decide +kernel
theorem dX11_best_39 : decode cX11_best 39 = .ok (.invokevirtual 264, 3) := by decide +kernel
theorem dX11_best_42 : decode cX11_best 42 = .ok (.ireturn, 1) := by decide +kernel
theorem dX11_peace_0 : decode cX11_peace 0 = .ok (.aload_n 0, 1) := by decide +kernel
theorem dX11_peace_1 : decode cX11_peace 1 = .ok (.getfield 40, 3) := by decide +kernel
theorem dX11_peace_4 : decode cX11_peace 4 = .ok (.iload_n 1, 1) := by decide +kernel
theorem dX11_peace_5 : decode cX11_peace 5 = .ok (.aload_n 0, 1) := by decide +kernel
theorem dX11_peace_6 : decode cX11_peace 6 = .ok (.getfield 12, 3) := by decide +kernel
theorem dX11_peace_9 : decode cX11_peace 9 = .ok (.getfield 89, 3) := by decide +kernel
theorem dX11_peace_12 : decode cX11_peace 12 = .ok (.getfield 250, 3) := by decide +kernel
theorem dX11_peace_15 : decode cX11_peace 15 = .ok (.invokevirtual 257, 3) := by decide +kernel
theorem dX11_peace_18 : decode cX11_peace 18 = .ok (.ifCond .ne 5, 3) := by decide +kernel
theorem dX11_peace_21 : decode cX11_peace 21 = .ok (.iconst (-1), 1) := by decide +kernel
theorem dX11_peace_22 : decode cX11_peace 22 = .ok (.ireturn, 1) := by decide +kernel
theorem dX11_peace_23 : decode cX11_peace 23 = .ok (.aload_n 0, 1) := by decide +kernel
theorem dX11_peace_24 : decode cX11_peace 24 = .ok (.getfield 40, 3) := by decide +kernel
theorem dX11_peace_27 : decode cX11_peace 27 = .ok (.aload_n 0, 1) := by decide +kernel
theorem dX11_peace_28 : decode cX11_peace 28 = .ok (.getfield 12, 3) := by decide +kernel
theorem dX11_peace_31 : decode cX11_peace 31 = .ok (.getfield 89, 3) := by decide +kernel
theorem dX11_peace_34 : decode cX11_peace 34 = .ok (.invokevirtual 267, 3) := by decide +kernel
theorem dX11_peace_37 : decode cX11_peace 37 = .ok (.aload_n 0, 1) := by decide +kernel
theorem dX11_peace_38 : decode cX11_peace 38 = .ok (.getfield 40, 3) := by decide +kernel
theorem dX11_peace_41 : decode cX11_peace 41 = .ok (.iload_n 1, 1) := by decide +kernel
theorem dX11_peace_42 : decode cX11_peace 42 = .ok (.invokevirtual 264, 3) := by decide +kernel
theorem dX11_peace_45 : decode cX11_peace 45 = .ok (.ireturn, 1) := by decide +kernel
theorem dX11_log_0 : decode cX11_log 0 = .ok (.aload_n 0, 1) := by decide +kernel
theorem dX11_log_1 : decode cX11_log 1 = .ok (.getfield 12, 3) := by decide +kernel
theorem dX11_log_4 : decode cX11_log 4 = .ok (.getfield 89, 3) := by decide +kernel
theorem dX11_log_7 : decode cX11_log 7 = .ok (.iload_n 1, 1) := by decide +kernel
theorem dX11_log_8 : decode cX11_log 8 = .ok (.iload_n 2, 1) := by decide +kernel
theorem dX11_log_9 : decode cX11_log 9 = .ok (.invokevirtual 271, 3) := by decide +kernel
theorem dX11_log_12 : decode cX11_log 12 = .ok (.ireturn, 1) := by decide +kernel
theorem dX11_slow_0 : decode cX11_slow 0 = .ok (.aload_n 0, 1) := by decide +kernel
theorem dX11_slow_1 : decode cX11_slow 1 = .ok (.getfield 12, 3) := by decide +kernel
theorem dX11_slow_4 : decode cX11_slow 4 = .ok (.getfield 89, 3) := by decide +kernel
theorem dX11_slow_7 : decode cX11_slow 7 = .ok (.astore_n 3, 1) := by decide +kernel
theorem dX11_slow_8 : decode cX11_slow 8 = .ok (.aload_n 3, 1) := by decide +kernel
theorem dX11_slow_9 : decode cX11_slow 9 = .ok (.iload_n 1, 1) := by decide +kernel
theorem dX11_slow_10 : decode cX11_slow 10 = .ok (.invokevirtual 106, 3) := by decide +kernel
theorem dX11_slow_13 : decode cX11_slow 13 = .ok (.ifCond .eq 12, 3) := by decide +kernel
theorem dX11_slow_16 : decode cX11_slow 16 = .ok (.iload_n 2, 1) := by decide +kernel
theorem dX11_slow_17 : decode cX11_slow 17 = .ok (.iconst 0, 1) := by decide +kernel
theorem dX11_slow_18 : decode cX11_slow 18 = .ok (.iconst 1, 1) := by decide +kernel
theorem dX11_slow_19 : decode cX11_slow 19 = .ok (.invokestatic 65, 3) := by decide +kernel
theorem dX11_slow_22 : decode cX11_slow 22 = .ok (.ifCond .ne 5, 3) := by decide +kernel
theorem dX11_slow_25 : decode cX11_slow 25 = .ok (.iconst (-1), 1) := by decide +kernel
theorem dX11_slow_26 : decode cX11_slow 26 = .ok (.ireturn, 1) := by decide +kernel
theorem dX11_slow_27 : decode cX11_slow 27 = .ok (.aload_n 3, 1) := by decide +kernel
theorem dX11_slow_28 : decode cX11_slow 28 = .ok (.iload_n 1, 1) := by decide +kernel
theorem dX11_slow_29 : decode cX11_slow 29 = .ok (.invokevirtual 274, 3) := by decide +kernel
theorem dX11_slow_32 : decode cX11_slow 32 = .ok (.istore 4, 2) := by decide +kernel
theorem dX11_slow_34 : decode cX11_slow 34 = .ok (.aload_n 3, 1) := by decide +kernel
theorem dX11_slow_35 : decode cX11_slow 35 = .ok (.iload_n 1, 1) := by decide +kernel
theorem dX11_slow_36 : decode cX11_slow 36 = .ok (.invokevirtual 277, 3) := by decide +kernel
theorem dX11_slow_39 : decode cX11_slow 39 = .ok (.istore 5, 2) := by decide +kernel
theorem dX11_slow_41 : decode cX11_slow 41 = .ok (.iload 4, 2) := by decide +kernel
theorem dX11_slow_43 : decode cX11_slow 43 = .ok (.iload 5, 2) := by decide +kernel
theorem dX11_slow_45 : decode cX11_slow 45 = .ok (.if_icmp .le 5, 3) := by decide +kernel
theorem dX11_slow_48 : decode cX11_slow 48 = .ok (.iconst (-1), 1) := by decide +kernel
theorem dX11_slow_49 : decode cX11_slow 49 = .ok (.ireturn, 1) := by decide +kernel
theorem dX11_slow_50 : decode cX11_slow 50 = .ok (.iload_n 2, 1) := by decide +kernel
theorem dX11_slow_51 : decode cX11_slow 51 = .ok (.ifCond .ne 8, 3) := by decide +kernel
theorem dX11_slow_54 : decode cX11_slow 54 = .ok (.iload 4, 2) := by decide +kernel
theorem dX11_slow_56 : decode cX11_slow 56 = .ok (.goto 5, 3) := by decide +kernel
theorem dX11_slow_59 : decode cX11_slow 59 = .ok (.iload 5, 2) := by decide +kernel
theorem dX11_slow_61 : decode cX11_slow 61 = .ok (.ireturn, 1) := by decide +kernel
theorem dX11_breaks_0 : decode cX11_breaks 0 = .ok (.iload_n 1, 1) := by decide +kernel
theorem dX11_breaks_1 : decode cX11_breaks 1 = .ok (.iconst 1, 1) := by decide +kernel
theorem dX11_breaks_2 : decode cX11_breaks 2 = .ok (.ldc 127, 2) := by decide +kernel
theorem dX11_breaks_4 : decode cX11_breaks 4 = .ok (.invokestatic 65, 3) := by decide +kernel
theorem dX11_breaks_7 : decode cX11_breaks 7 = .ok (.ifCond .eq 24, 3) := by decide +kernel
theorem dX11_breaks_10 : decode cX11_breaks 10 = .ok (.aload_n 0, 1) := by decide +kernel
theorem dX11_breaks_11 : decode cX11_breaks 11 = .ok (.getfield 12, 3) := by decide +kernel
theorem dX11_breaks_14 : decode cX11_breaks 14 = .ok (.getfield 75, 3) := by decide +kernel
theorem dX11_breaks_17 : decode cX11_breaks 17 = .ok (.iload_n 1, 1) := by decide +kernel
theorem dX11_breaks_18 : decode cX11_breaks 18 = .ok (.aload_n 0, 1) := by decide +kernel
theorem dX11_breaks_19 : decode cX11_breaks 19 = .ok (.getfield 12, 3) := by decide +kernel
theorem dX11_breaks_22 : decode cX11_breaks 22 = .ok (.getfield 51, 3) := by decide +kernel
theorem dX11_breaks_25 : decode cX11_breaks 25 = .ok (.invokevirtual 280, 3) := by decide +kernel
theorem dX11_breaks_28 : decode cX11_breaks 28 = .ok (.goto 4, 3) := by decide +kernel
theorem dX11_breaks_31 : decode cX11_breaks 31 = .ok (.iconst (-1), 1) := by decide +kernel
theorem dX11_breaks_32 : decode cX11_breaks 32 = .ok (.ireturn, 1) := by decide +kernel
theorem dX11_lasting_0 : decode cX11_lasting 0 = .ok (.iload_n 1, 1) := by decide +kernel
theorem dX11_lasting_1 : decode cX11_lasting 1 = .ok (.iconst 1, 1) := by decide +kernel
theorem dX11_lasting_2 : decode cX11_lasting 2 = .ok (.ldc 127, 2) := by decide +kernel
theorem dX11_lasting_4 : decode cX11_lasting 4 = .ok (.invokestatic 65, 3) := by decide +kernel
theorem dX11_lasting_7 : decode cX11_lasting 7 = .ok (.ifCond .ne 5, 3) := by decide +kernel
theorem dX11_lasting_10 : decode cX11_lasting 10 = .ok (.iconst (-1), 1) := by decide +kernel
theorem dX11_lasting_11 : decode cX11_lasting 11 = .ok (.ireturn, 1) := by decide +kernel
theorem dX11_lasting_12 : decode cX11_lasting 12 = .ok (.iload_n 2, 1) := by decide +kernel
theorem dX11_lasting_13 : decode cX11_lasting 13 = .ok (.lookupswitch 65 #[(0, 27), (1, 46)], 27) := by decide +kernel
theorem dX11_lasting_40 : decode cX11_lasting 40 = .ok (.aload_n 0, 1) := by decide +kernel
theorem dX11_lasting_41 : decode cX11_lasting 41 = .ok (.getfield 12, 3) := by decide +kernel
theorem dX11_lasting_44 : decode cX11_lasting 44 = .ok (.getfield 75, 3) := by decide +kernel
theorem dX11_lasting_47 : decode cX11_lasting 47 = .ok (.iload_n 1, 1) := by decide +kernel
theorem dX11_lasting_48 : decode cX11_lasting 48 = .ok (.aload_n 0, 1) := by decide +kernel
theorem dX11_lasting_49 : decode cX11_lasting 49 = .ok (.getfield 12, 3) := by decide +kernel
theorem dX11_lasting_52 : decode cX11_lasting 52 = .ok (.getfield 51, 3) := by decide +kernel
theorem dX11_lasting_55 : decode cX11_lasting 55 = .ok (.invokevirtual 283, 3) := by decide +kernel
theorem dX11_lasting_58 : decode cX11_lasting 58 = .ok (.ireturn, 1) := by decide +kernel
theorem dX11_lasting_59 : decode cX11_lasting 59 = .ok (.aload_n 0, 1) := by decide +kernel
theorem dX11_lasting_60 : decode cX11_lasting 60 = .ok (.getfield 12, 3) := by decide +kernel
theorem dX11_lasting_63 : decode cX11_lasting 63 = .ok (.getfield 75, 3) := by decide +kernel
theorem dX11_lasting_66 : decode cX11_lasting 66 = .ok (.iload_n 1, 1) := by decide +kernel
theorem dX11_lasting_67 : decode cX11_lasting 67 = .ok (.aload_n 0, 1) := by decide +kernel
theorem dX11_lasting_68 : decode cX11_lasting 68 = .ok (.getfield 12, 3) := by decide +kernel
theorem dX11_lasting_71 : decode cX11_lasting 71 = .ok (.getfield 51, 3) := by decide +kernel
theorem dX11_lasting_74 : decode cX11_lasting 74 = .ok (.invokevirtual 286, 3) := by decide +kernel
theorem dX11_lasting_77 : decode cX11_lasting 77 = .ok (.ireturn, 1) := by decide +kernel
theorem dX11_lasting_78 : decode cX11_lasting 78 = .ok (.iconst (-1), 1) := by decide +kernel
theorem dX11_lasting_79 : decode cX11_lasting 79 = .ok (.ireturn, 1) := by decide +kernel
theorem dX11_undo_0 : decode cX11_undo 0 = .ok (.aload_n 0, 1) := by decide +kernel
theorem dX11_undo_1 : decode cX11_undo 1 = .ok (.getfield 26, 3) := by decide +kernel
theorem dX11_undo_4 : decode cX11_undo 4 = .ok (.aload_n 0, 1) := by decide +kernel
theorem dX11_undo_5 : decode cX11_undo 5 = .ok (.getfield 12, 3) := by decide +kernel
theorem dX11_undo_8 : decode cX11_undo 8 = .ok (.getfield 51, 3) := by decide +kernel
theorem dX11_undo_11 : decode cX11_undo 11 = .ok (.invokevirtual 289, 3) := by decide +kernel
theorem dX11_undo_14 : decode cX11_undo 14 = .ok (.ireturn, 1) := by decide +kernel
theorem dX11_image_0 : decode cX11_image 0 = .ok (.iload_n 1, 1) := by decide +kernel
theorem dX11_image_1 : decode cX11_image 1 = .ok (.ifCond .eq 21, 3) := by decide +kernel
theorem dX11_image_4 : decode cX11_image 4 = .ok (.aload_n 0, 1) := by decide +kernel
theorem dX11_image_5 : decode cX11_image 5 = .ok (.getfield 16, 3) := by decide +kernel
theorem dX11_image_8 : decode cX11_image 8 = .ok (.aload_n 0, 1) := by decide +kernel
theorem dX11_image_9 : decode cX11_image 9 = .ok (.getfield 12, 3) := by decide +kernel
theorem dX11_image_12 : decode cX11_image 12 = .ok (.invokevirtual 293, 3) := by decide +kernel
theorem dX11_image_15 : decode cX11_image 15 = .ok (.aload_n 0, 1) := by decide +kernel
theorem dX11_image_16 : decode cX11_image 16 = .ok (.iconst 1, 1) := by decide +kernel
theorem dX11_image_17 : decode cX11_image 17 = .ok (.putfield 19, 3) := by decide +kernel
theorem dX11_image_20 : decode cX11_image 20 = .ok (.iconst 1, 1) := by decide +kernel
theorem dX11_image_21 : decode cX11_image 21 = .ok (.ireturn, 1) := by decide +kernel
theorem dX11_image_22 : decode cX11_image 22 = .ok (.aload_n 0, 1) := by decide +kernel
theorem dX11_image_23 : decode cX11_image 23 = .ok (.getfield 19, 3) := by decide +kernel
theorem dX11_image_26 : decode cX11_image 26 = .ok (.ifCond .ne 5, 3) := by decide +kernel
theorem dX11_image_29 : decode cX11_image 29 = .ok (.iconst 0, 1) := by decide +kernel
theorem dX11_image_30 : decode cX11_image 30 = .ok (.ireturn, 1) := by decide +kernel
theorem dX11_image_31 : decode cX11_image 31 = .ok (.aload_n 0, 1) := by decide +kernel
theorem dX11_image_32 : decode cX11_image 32 = .ok (.getfield 12, 3) := by decide +kernel
theorem dX11_image_35 : decode cX11_image 35 = .ok (.aload_n 0, 1) := by decide +kernel
theorem dX11_image_36 : decode cX11_image 36 = .ok (.getfield 16, 3) := by decide +kernel
theorem dX11_image_39 : decode cX11_image 39 = .ok (.invokevirtual 293, 3) := by decide +kernel
theorem dX11_image_42 : decode cX11_image 42 = .ok (.aload_n 0, 1) := by decide +kernel
theorem dX11_image_43 : decode cX11_image 43 = .ok (.getfield 26, 3) := by decide +kernel
theorem dX11_image_46 : decode cX11_image 46 = .ok (.invokevirtual 72, 3) := by decide +kernel
theorem dX11_image_49 : decode cX11_image 49 = .ok (.iconst 1, 1) := by decide +kernel
theorem dX11_image_50 : decode cX11_image 50 = .ok (.ireturn, 1) := by decide +kernel
theorem dX11_look_0 : decode cX11_look 0 = .ok (.iload_n 1, 1) := by decide +kernel
theorem dX11_look_1 : decode cX11_look 1 = .ok (.bipush 20, 2) := by decide +kernel
theorem dX11_look_3 : decode cX11_look 3 = .ok (.bipush 43, 2) := by decide +kernel
theorem dX11_look_5 : decode cX11_look 5 = .ok (.invokestatic 65, 3) := by decide +kernel
theorem dX11_look_8 : decode cX11_look 8 = .ok (.ifCond .eq 19, 3) := by decide +kernel
theorem dX11_look_11 : decode cX11_look 11 = .ok (.aload_n 0, 1) := by decide +kernel
theorem dX11_look_12 : decode cX11_look 12 = .ok (.getfield 12, 3) := by decide +kernel
theorem dX11_look_15 : decode cX11_look 15 = .ok (.getfield 110, 3) := by decide +kernel
theorem dX11_look_18 : decode cX11_look 18 = .ok (.getfield 114, 3) := by decide +kernel
theorem dX11_look_21 : decode cX11_look 21 = .ok (.iload_n 1, 1) := by decide +kernel
theorem dX11_look_22 : decode cX11_look 22 = .ok (.bipush 20, 2) := by decide +kernel
theorem dX11_look_24 : decode cX11_look 24 = .ok (.isub, 1) := by decide +kernel
theorem dX11_look_25 : decode cX11_look 25 = .ok (.iaload, 1) := by decide +kernel
theorem dX11_look_26 : decode cX11_look 26 = .ok (.ireturn, 1) := by decide +kernel
theorem dX11_look_27 : decode cX11_look 27 = .ok (.iload_n 1, 1) := by decide +kernel
theorem dX11_look_28 : decode cX11_look 28 = .ok (.bipush 50, 2) := by decide +kernel
theorem dX11_look_30 : decode cX11_look 30 = .ok (.bipush 50, 2) := by decide +kernel
theorem dX11_look_32 : decode cX11_look 32 = .ok (.aload_n 0, 1) := by decide +kernel
theorem dX11_look_33 : decode cX11_look 33 = .ok (.getfield 12, 3) := by decide +kernel
theorem dX11_look_36 : decode cX11_look 36 = .ok (.getfield 75, 3) := by decide +kernel
theorem dX11_look_39 : decode cX11_look 39 = .ok (.getfield 296, 3) := by decide +kernel
theorem dX11_look_42 : decode cX11_look 42 = .ok (.iadd, 1) := by decide +kernel
theorem dX11_look_43 : decode cX11_look 43 = .ok (.iconst 1, 1) := by decide +kernel
theorem dX11_look_44 : decode cX11_look 44 = .ok (.isub, 1) := by decide +kernel
theorem dX11_look_45 : decode cX11_look 45 = .ok (.invokestatic 65, 3) := by decide +kernel
theorem dX11_look_48 : decode cX11_look 48 = .ok (.ifCond .eq 18, 3) := by decide +kernel
theorem dX11_look_51 : decode cX11_look 51 = .ok (.aload_n 0, 1) := by decide +kernel
theorem dX11_look_52 : decode cX11_look 52 = .ok (.getfield 12, 3) := by decide +kernel
theorem dX11_look_55 : decode cX11_look 55 = .ok (.getfield 75, 3) := by decide +kernel
theorem dX11_look_58 : decode cX11_look 58 = .ok (.iload_n 1, 1) := by decide +kernel
theorem dX11_look_59 : decode cX11_look 59 = .ok (.bipush 50, 2) := by decide +kernel
theorem dX11_look_61 : decode cX11_look 61 = .ok (.isub, 1) := by decide +kernel
theorem dX11_look_62 : decode cX11_look 62 = .ok (.invokevirtual 299, 3) := by decide +kernel
theorem dX11_look_65 : decode cX11_look 65 = .ok (.ireturn, 1) := by decide +kernel
theorem dX11_look_66 : decode cX11_look 66 = .ok (.aload_n 0, 1) := by decide +kernel
theorem dX11_look_67 : decode cX11_look 67 = .ok (.getfield 12, 3) := by decide +kernel
theorem dX11_look_70 : decode cX11_look 70 = .ok (.getfield 51, 3) := by decide +kernel
theorem dX11_look_73 : decode cX11_look 73 = .ok (.astore_n 2, 1) := by decide +kernel
theorem dX11_look_74 : decode cX11_look 74 = .ok (.iload_n 1, 1) := by decide +kernel
theorem dX11_look_75 : decode cX11_look 75 = .ok (.tableswitch 211 0 15 #[77, 88, 93, 98, 109, 120, 131, 136, 141, 161, 166, 174, 179, 190, 198, 206], 77) := by decide +kernel
theorem dX11_look_152 : decode cX11_look 152 = .ok (.aload_n 0, 1) := by decide +kernel
theorem dX11_look_153 : decode cX11_look 153 = .ok (.getfield 12, 3) := by decide +kernel
theorem dX11_look_156 : decode cX11_look 156 = .ok (.getfield 75, 3) := by decide +kernel
theorem dX11_look_159 : decode cX11_look 159 = .ok (.getfield 296, 3) := by decide +kernel
theorem dX11_look_162 : decode cX11_look 162 = .ok (.ireturn, 1) := by decide +kernel
theorem dX11_look_163 : decode cX11_look 163 = .ok (.aload_n 2, 1) := by decide +kernel
theorem dX11_look_164 : decode cX11_look 164 = .ok (.getfield 302, 3) := by decide +kernel
theorem dX11_look_167 : decode cX11_look 167 = .ok (.ireturn, 1) := by decide +kernel
theorem dX11_look_168 : decode cX11_look 168 = .ok (.aload_n 2, 1) := by decide +kernel
theorem dX11_look_169 : decode cX11_look 169 = .ok (.getfield 305, 3) := by decide +kernel
theorem dX11_look_172 : decode cX11_look 172 = .ok (.ireturn, 1) := by decide +kernel
theorem dX11_look_173 : decode cX11_look 173 = .ok (.aload_n 0, 1) := by decide +kernel
theorem dX11_look_174 : decode cX11_look 174 = .ok (.getfield 12, 3) := by decide +kernel
theorem dX11_look_177 : decode cX11_look 177 = .ok (.getfield 75, 3) := by decide +kernel
theorem dX11_look_180 : decode cX11_look 180 = .ok (.getfield 308, 3) := by decide +kernel
theorem dX11_look_183 : decode cX11_look 183 = .ok (.ireturn, 1) := by decide +kernel
theorem dX11_look_184 : decode cX11_look 184 = .ok (.aload_n 0, 1) := by decide +kernel
theorem dX11_look_185 : decode cX11_look 185 = .ok (.getfield 12, 3) := by decide +kernel
theorem dX11_look_188 : decode cX11_look 188 = .ok (.getfield 89, 3) := by decide +kernel
theorem dX11_look_191 : decode cX11_look 191 = .ok (.getfield 250, 3) := by decide +kernel
theorem dX11_look_194 : decode cX11_look 194 = .ok (.ireturn, 1) := by decide +kernel
theorem dX11_look_195 : decode cX11_look 195 = .ok (.aload_n 0, 1) := by decide +kernel
theorem dX11_look_196 : decode cX11_look 196 = .ok (.getfield 12, 3) := by decide +kernel
theorem dX11_look_199 : decode cX11_look 199 = .ok (.getfield 75, 3) := by decide +kernel
theorem dX11_look_202 : decode cX11_look 202 = .ok (.getfield 311, 3) := by decide +kernel
theorem dX11_look_205 : decode cX11_look 205 = .ok (.ireturn, 1) := by decide +kernel
theorem dX11_look_206 : decode cX11_look 206 = .ok (.aload_n 2, 1) := by decide +kernel
theorem dX11_look_207 : decode cX11_look 207 = .ok (.getfield 314, 3) := by decide +kernel
theorem dX11_look_210 : decode cX11_look 210 = .ok (.ireturn, 1) := by decide +kernel
theorem dX11_look_211 : decode cX11_look 211 = .ok (.aload_n 2, 1) := by decide +kernel
theorem dX11_look_212 : decode cX11_look 212 = .ok (.getfield 317, 3) := by decide +kernel
theorem dX11_look_215 : decode cX11_look 215 = .ok (.ireturn, 1) := by decide +kernel
theorem dX11_look_216 : decode cX11_look 216 = .ok (.aload_n 0, 1) := by decide +kernel
theorem dX11_look_217 : decode cX11_look 217 = .ok (.getfield 12, 3) := by decide +kernel
theorem dX11_look_220 : decode cX11_look 220 = .ok (.getfield 75, 3) := by decide +kernel
theorem dX11_look_223 : decode cX11_look 223 = .ok (.aload_n 2, 1) := by decide +kernel
theorem dX11_look_224 : decode cX11_look 224 = .ok (.invokevirtual 320, 3) := by decide +kernel
theorem dX11_look_227 : decode cX11_look 227 = .ok (.ifCond .eq 7, 3) := by decide +kernel
theorem dX11_look_230 : decode cX11_look 230 = .ok (.iconst 1, 1) := by decide +kernel
theorem dX11_look_231 : decode cX11_look 231 = .ok (.goto 4, 3) := by decide +kernel
theorem dX11_look_234 : decode cX11_look 234 = .ok (.iconst 0, 1) := by decide +kernel
theorem dX11_look_235 : decode cX11_look 235 = .ok (.ireturn, 1) := by decide +kernel
theorem dX11_look_236 : decode cX11_look 236 = .ok (.aload_n 2, 1) := by decide +kernel
theorem dX11_look_237 : decode cX11_look 237 = .ok (.getfield 323, 3) := by decide +kernel
theorem dX11_look_240 : decode cX11_look 240 = .ok (.ireturn, 1) := by decide +kernel
theorem dX11_look_241 : decode cX11_look 241 = .ok (.aload_n 0, 1) := by decide +kernel
theorem dX11_look_242 : decode cX11_look 242 = .ok (.getfield 26, 3) := by decide +kernel
theorem dX11_look_245 : decode cX11_look 245 = .ok (.getfield 326, 3) := by decide +kernel
theorem dX11_look_248 : decode cX11_look 248 = .ok (.ireturn, 1) := by decide +kernel
theorem dX11_look_249 : decode cX11_look 249 = .ok (.aload_n 2, 1) := by decide +kernel
theorem dX11_look_250 : decode cX11_look 250 = .ok (.invokevirtual 329, 3) := by decide +kernel
theorem dX11_look_253 : decode cX11_look 253 = .ok (.ireturn, 1) := by decide +kernel
theorem dX11_look_254 : decode cX11_look 254 = .ok (.aload_n 0, 1) := by decide +kernel
theorem dX11_look_255 : decode cX11_look 255 = .ok (.getfield 12, 3) := by decide +kernel
theorem dX11_look_258 : decode cX11_look 258 = .ok (.getfield 164, 3) := by decide +kernel
theorem dX11_look_261 : decode cX11_look 261 = .ok (.getfield 174, 3) := by decide +kernel
theorem dX11_look_264 : decode cX11_look 264 = .ok (.ireturn, 1) := by decide +kernel
theorem dX11_look_265 : decode cX11_look 265 = .ok (.aload_n 0, 1) := by decide +kernel
theorem dX11_look_266 : decode cX11_look 266 = .ok (.getfield 12, 3) := by decide +kernel
theorem dX11_look_269 : decode cX11_look 269 = .ok (.getfield 332, 3) := by decide +kernel
theorem dX11_look_272 : decode cX11_look 272 = .ok (.ireturn, 1) := by decide +kernel
theorem dX11_look_273 : decode cX11_look 273 = .ok (.aload_n 0, 1) := by decide +kernel
theorem dX11_look_274 : decode cX11_look 274 = .ok (.getfield 12, 3) := by decide +kernel
theorem dX11_look_277 : decode cX11_look 277 = .ok (.getfield 335, 3) := by decide +kernel
theorem dX11_look_280 : decode cX11_look 280 = .ok (.ireturn, 1) := by decide +kernel
theorem dX11_look_281 : decode cX11_look 281 = .ok (.aload_n 2, 1) := by decide +kernel
theorem dX11_look_282 : decode cX11_look 282 = .ok (.getfield 55, 3) := by decide +kernel
theorem dX11_look_285 : decode cX11_look 285 = .ok (.ireturn, 1) := by decide +kernel
theorem dX11_look_286 : decode cX11_look 286 = .ok (.bipush (-2), 2) := by decide +kernel
theorem dX11_look_288 : decode cX11_look 288 = .ok (.ireturn, 1) := by decide +kernel
theorem dX11_isWithin_0 : decode cX11_isWithin 0 = .ok (.iload_n 0, 1) := by decide +kernel
theorem dX11_isWithin_1 : decode cX11_isWithin 1 = .ok (.iload_n 1, 1) := by decide +kernel
theorem dX11_isWithin_2 : decode cX11_isWithin 2 = .ok (.if_icmp .lt 12, 3) := by decide +kernel
theorem dX11_isWithin_5 : decode cX11_isWithin 5 = .ok (.iload_n 0, 1) := by decide +kernel
theorem dX11_isWithin_6 : decode cX11_isWithin 6 = .ok (.iload_n 2, 1) := by decide +kernel
theorem dX11_isWithin_7 : decode cX11_isWithin 7 = .ok (.if_icmp .gt 7, 3) := by decide +kernel
theorem dX11_isWithin_10 : decode cX11_isWithin 10 = .ok (.iconst 1, 1) := by decide +kernel
theorem dX11_isWithin_11 : decode cX11_isWithin 11 = .ok (.goto 4, 3) := by decide +kernel
theorem dX11_isWithin_14 : decode cX11_isWithin 14 = .ok (.iconst 0, 1) := by decide +kernel
theorem dX11_isWithin_15 : decode cX11_isWithin 15 = .ok (.ireturn, 1) := by decide +kernel
theorem dX11_forgetIf_0 : decode cX11_forgetIf 0 = .ok (.iload_n 1, 1) := by decide +kernel
theorem dX11_forgetIf_1 : decode cX11_forgetIf 1 = .ok (.ifCond .eq 10, 3) := by decide +kernel
theorem dX11_forgetIf_4 : decode cX11_forgetIf 4 = .ok (.aload_n 0, 1) := by decide +kernel
theorem dX11_forgetIf_5 : decode cX11_forgetIf 5 = .ok (.getfield 26, 3) := by decide +kernel
theorem dX11_forgetIf_8 : decode cX11_forgetIf 8 = .ok (.invokevirtual 72, 3) := by decide +kernel
theorem dX11_forgetIf_11 : decode cX11_forgetIf 11 = .ok (.iload_n 1, 1) := by decide +kernel
theorem dX11_forgetIf_12 : decode cX11_forgetIf 12 = .ok (.ireturn, 1) := by decide +kernel
theorem dX11_forgetIfNumbered_0 : decode cX11_forgetIfNumbered 0 = .ok (.aload_n 0, 1) := by decide +kernel
theorem dX11_forgetIfNumbered_1 : decode cX11_forgetIfNumbered 1 = .ok (.iload_n 1, 1) := by decide +kernel
theorem dX11_forgetIfNumbered_2 : decode cX11_forgetIfNumbered 2 = .ok (.iconst (-1), 1) := by decide +kernel
theorem dX11_forgetIfNumbered_3 : decode cX11_forgetIfNumbered 3 = .ok (.if_icmp .eq 7, 3) := by decide +kernel
theorem dX11_forgetIfNumbered_6 : decode cX11_forgetIfNumbered 6 = .ok (.iconst 1, 1) := by decide +kernel
theorem dX11_forgetIfNumbered_7 : decode cX11_forgetIfNumbered 7 = .ok (.goto 4, 3) := by decide +kernel
theorem dX11_forgetIfNumbered_10 : decode cX11_forgetIfNumbered 10 = .ok (.iconst 0, 1) := by decide +kernel
theorem dX11_forgetIfNumbered_11 : decode cX11_forgetIfNumbered 11 = .ok (.invokevirtual 102, 3) := by decide +kernel
theorem dX11_forgetIfNumbered_14 : decode cX11_forgetIfNumbered 14 = .ok (.pop, 1) := by decide +kernel
theorem dX11_forgetIfNumbered_15 : decode cX11_forgetIfNumbered 15 = .ok (.iload_n 1, 1) := by decide +kernel
theorem dX11_forgetIfNumbered_16 : decode cX11_forgetIfNumbered 16 = .ok (.ireturn, 1) := by decide +kernel
