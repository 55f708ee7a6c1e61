theorem dX3_init_0 : decode cX3_init 0 = .ok (.aload_n 0, 1) := by decide +kernel
theorem dX3_init_1 : decode cX3_init 1 = .ok (.invokespecial 1, 3) := by decide +kernel
theorem dX3_init_4 : decode cX3_init 4 = .ok (.aload_n 0, 1) := by decide +kernel
theorem dX3_init_5 : decode cX3_init 5 = .ok (.iconst 2, 1) := by decide +kernel
theorem dX3_init_6 : decode cX3_init 6 = .ok (.putfield 7, 3) := by decide +kernel
theorem dX3_init_9 : decode cX3_init 9 = .ok (.aload_n 0, 1) := by decide +kernel
theorem dX3_init_10 : decode cX3_init 10 = .ok (.bipush 16, 2) := by decide +kernel
theorem dX3_init_12 : decode cX3_init 12 = .ok (.newarray .int, 2) := by decide +kernel
theorem dX3_init_14 : decode cX3_init 14 = .ok (.putfield 13, 3) := by decide +kernel
theorem dX3_init_17 : decode cX3_init 17 = .ok (.aload_n 0, 1) := by decide +kernel
theorem dX3_init_18 : decode cX3_init 18 = .ok (.sipush 192, 3) := by decide +kernel
theorem dX3_init_21 : decode cX3_init 21 = .ok (.newarray .int, 2) := by decide +kernel
theorem dX3_init_23 : decode cX3_init 23 = .ok (.putfield 17, 3) := by decide +kernel
theorem dX3_init_26 : decode cX3_init 26 = .ok (.aload_n 0, 1) := by decide +kernel
theorem dX3_init_27 : decode cX3_init 27 = .ok (.bipush 12, 2) := by decide +kernel
theorem dX3_init_29 : decode cX3_init 29 = .ok (.newarray .int, 2) := by decide +kernel
theorem dX3_init_31 : decode cX3_init 31 = .ok (.putfield 20, 3) := by decide +kernel
theorem dX3_init_34 : decode cX3_init 34 = .ok (.aload_n 0, 1) := by decide +kernel
theorem dX3_init_35 : decode cX3_init 35 = .ok (.bipush 64, 2) := by decide +kernel
theorem dX3_init_37 : decode cX3_init 37 = .ok (.newarray .int, 2) := by decide +kernel
theorem dX3_init_39 : decode cX3_init 39 = .ok (.putfield 23, 3) := by decide +kernel
theorem dX3_init_42 : decode cX3_init 42 = .ok (.aload_n 0, 1) := by decide +kernel
theorem dX3_init_43 : decode cX3_init 43 = .ok (.bipush 16, 2) := by decide +kernel
theorem dX3_init_45 : decode cX3_init 45 = .ok (.newarray .int, 2) := by decide +kernel
theorem dX3_init_47 : decode cX3_init 47 = .ok (.putfield 26, 3) := by decide +kernel
theorem dX3_init_50 : decode cX3_init 50 = .ok (.aload_n 0, 1) := by decide +kernel
theorem dX3_init_51 : decode cX3_init 51 = .ok (.sipush 256, 3) := by decide +kernel
theorem dX3_init_54 : decode cX3_init 54 = .ok (.newarray .int, 2) := by decide +kernel
theorem dX3_init_56 : decode cX3_init 56 = .ok (.putfield 29, 3) := by decide +kernel
theorem dX3_init_59 : decode cX3_init 59 = .ok (.aload_n 0, 1) := by decide +kernel
theorem dX3_init_60 : decode cX3_init 60 = .ok (.bipush 32, 2) := by decide +kernel
theorem dX3_init_62 : decode cX3_init 62 = .ok (.newarray .int, 2) := by decide +kernel
theorem dX3_init_64 : decode cX3_init 64 = .ok (.putfield 32, 3) := by decide +kernel
theorem dX3_init_67 : decode cX3_init 67 = .ok (.aload_n 0, 1) := by decide +kernel
theorem dX3_init_68 : decode cX3_init 68 = .ok (.bipush 13, 2) := by decide +kernel
theorem dX3_init_70 : decode cX3_init 70 = .ok (.newarray .int, 2) := by decide +kernel
theorem dX3_init_72 : decode cX3_init 72 = .ok (.putfield 35, 3) := by decide +kernel
theorem dX3_init_75 : decode cX3_init 75 = .ok (.aload_n 0, 1) := by decide +kernel
theorem dX3_init_76 : decode cX3_init 76 = .ok (.bipush 13, 2) := by decide +kernel
theorem dX3_init_78 : decode cX3_init 78 = .ok (.newarray .int, 2) := by decide +kernel
theorem dX3_init_80 : decode cX3_init 80 = .ok (.putfield 38, 3) := by decide +kernel
theorem dX3_init_83 : decode cX3_init 83 = .ok (.aload_n 0, 1) := by decide +kernel
theorem dX3_init_84 : decode cX3_init 84 = .ok (.iconst 5, 1) := by decide +kernel
theorem dX3_init_85 : decode cX3_init 85 = .ok (.newarray .int, 2) := by decide +kernel
theorem dX3_init_87 : decode cX3_init 87 = .ok (.putfield 41, 3) := by decide +kernel
theorem dX3_init_90 : decode cX3_init 90 = .ok (.return_, 1) := by decide +kernel
theorem dX3_thrown_0 : decode cX3_thrown 0 = .ok (.aload_n 0, 1) := by decide +kernel
theorem dX3_thrown_1 : decode cX3_thrown 1 = .ok (.getfield 44, 3) := by decide +kernel
theorem dX3_thrown_4 : decode cX3_thrown 4 = .ok (.ireturn, 1) := by decide +kernel
theorem dX3_begin_0 : decode cX3_begin 0 = .ok (.aload_n 0, 1) := by decide +kernel
theorem dX3_begin_1 : decode cX3_begin 1 = .ok (.iload_n 1, 1) := by decide +kernel
theorem dX3_begin_2 : decode cX3_begin 2 = .ok (.iconst 2, 1) := by decide +kernel
theorem dX3_begin_3 : decode cX3_begin 3 = .ok (.bipush 16, 2) := by decide +kernel
theorem dX3_begin_5 : decode cX3_begin 5 = .ok (.invokestatic 47, 3) := by decide +kernel
theorem dX3_begin_8 : decode cX3_begin 8 = .ok (.ifCond .eq 7, 3) := by decide +kernel
theorem dX3_begin_11 : decode cX3_begin 11 = .ok (.iconst 0, 1) := by decide +kernel
theorem dX3_begin_12 : decode cX3_begin 12 = .ok (.goto 4, 3) := by decide +kernel
theorem dX3_begin_15 : decode cX3_begin 15 = .ok (.iconst 1, 1) := by decide +kernel
theorem dX3_begin_16 : decode cX3_begin 16 = .ok (.putfield 44, 3) := by decide +kernel
theorem dX3_begin_19 : decode cX3_begin 19 = .ok (.aload_n 0, 1) := by decide +kernel
theorem dX3_begin_20 : decode cX3_begin 20 = .ok (.getfield 44, 3) := by decide +kernel
theorem dX3_begin_23 : decode cX3_begin 23 = .ok (.ifCond .ne 39, 3) := by decide +kernel
theorem dX3_begin_26 : decode cX3_begin 26 = .ok (.aload_n 0, 1) := by decide +kernel
theorem dX3_begin_27 : decode cX3_begin 27 = .ok (.iload_n 1, 1) := by decide +kernel
theorem dX3_begin_28 : decode cX3_begin 28 = .ok (.putfield 7, 3) := by decide +kernel
theorem dX3_begin_31 : decode cX3_begin 31 = .ok (.aload_n 0, 1) := by decide +kernel
theorem dX3_begin_32 : decode cX3_begin 32 = .ok (.iconst 0, 1) := by decide +kernel
theorem dX3_begin_33 : decode cX3_begin 33 = .ok (.putfield 51, 3) := by decide +kernel
theorem dX3_begin_36 : decode cX3_begin 36 = .ok (.aload_n 0, 1) := by decide +kernel
theorem dX3_begin_37 : decode cX3_begin 37 = .ok (.iconst 0, 1) := by decide +kernel
theorem dX3_begin_38 : decode cX3_begin 38 = .ok (.putfield 54, 3) := by decide +kernel
theorem dX3_begin_41 : decode cX3_begin 41 = .ok (.iconst 0, 1) := by decide +kernel
theorem dX3_begin_42 : decode cX3_begin 42 = .ok (.istore_n 2, 1) := by decide +kernel
theorem dX3_begin_43 : decode cX3_begin 43 = .ok (.iload_n 2, 1) := by decide +kernel
theorem dX3_begin_44 : decode cX3_begin 44 = .ok (.bipush 16, 2) := by decide +kernel
theorem dX3_begin_46 : decode cX3_begin 46 = .ok (.if_icmp .ge 16, 3) := by decide +kernel
theorem dX3_begin_49 : decode cX3_begin 49 = .ok (.aload_n 0, 1) := by decide +kernel
theorem dX3_begin_50 : decode cX3_begin 50 = .ok (.getfield 13, 3) := by decide +kernel
theorem dX3_begin_53 : decode cX3_begin 53 = .ok (.iload_n 2, 1) := by decide +kernel
theorem dX3_begin_54 : decode cX3_begin 54 = .ok (.iconst 0, 1) := by decide +kernel
theorem dX3_begin_55 : decode cX3_begin 55 = .ok (.iastore, 1) := by decide +kernel
theorem dX3_begin_56 : decode cX3_begin 56 = .ok (.iinc 2 1, 3) := by decide +kernel
theorem dX3_begin_59 : decode cX3_begin 59 = .ok (.goto (-16), 3) := by decide +kernel
theorem dX3_begin_62 : decode cX3_begin 62 = .ok (.return_, 1) := by decide +kernel
theorem dX3_within_0 : decode cX3_within 0 = .ok (.iload_n 0, 1) := by decide +kernel
theorem dX3_within_1 : decode cX3_within 1 = .ok (.iload_n 1, 1) := by decide +kernel
theorem dX3_within_2 : decode cX3_within 2 = .ok (.if_icmp .lt 12, 3) := by decide +kernel
theorem dX3_within_5 : decode cX3_within 5 = .ok (.iload_n 0, 1) := by decide +kernel
theorem dX3_within_6 : decode cX3_within 6 = .ok (.iload_n 2, 1) := by decide +kernel
theorem dX3_within_7 : decode cX3_within 7 = .ok (.if_icmp .gt 7, 3) := by decide +kernel
theorem dX3_within_10 : decode cX3_within 10 = .ok (.iconst 1, 1) := by decide +kernel
theorem dX3_within_11 : decode cX3_within 11 = .ok (.goto 4, 3) := by decide +kernel
theorem dX3_within_14 : decode cX3_within 14 = .ok (.iconst 0, 1) := by decide +kernel
theorem dX3_within_15 : decode cX3_within 15 = .ok (.ireturn, 1) := by decide +kernel
theorem dX3_ask_0 : decode cX3_ask 0 = .ok (.aload_n 0, 1) := by decide +kernel
theorem dX3_ask_1 : decode cX3_ask 1 = .ok (.iload_n 1, 1) := by decide +kernel
theorem dX3_ask_2 : decode cX3_ask 2 = .ok (.iconst 0, 1) := by decide +kernel
theorem dX3_ask_3 : decode cX3_ask 3 = .ok (.aload_n 0, 1) := by decide +kernel
theorem dX3_ask_4 : decode cX3_ask 4 = .ok (.getfield 7, 3) := by decide +kernel
theorem dX3_ask_7 : decode cX3_ask 7 = .ok (.iconst 1, 1) := by decide +kernel
theorem dX3_ask_8 : decode cX3_ask 8 = .ok (.isub, 1) := by decide +kernel
theorem dX3_ask_9 : decode cX3_ask 9 = .ok (.invokestatic 47, 3) := by decide +kernel
theorem dX3_ask_12 : decode cX3_ask 12 = .ok (.ifCond .ne 7, 3) := by decide +kernel
theorem dX3_ask_15 : decode cX3_ask 15 = .ok (.iconst 1, 1) := by decide +kernel
theorem dX3_ask_16 : decode cX3_ask 16 = .ok (.goto 21, 3) := by decide +kernel
theorem dX3_ask_19 : decode cX3_ask 19 = .ok (.iload_n 2, 1) := by decide +kernel
theorem dX3_ask_20 : decode cX3_ask 20 = .ok (.sipush (-1000), 3) := by decide +kernel
theorem dX3_ask_23 : decode cX3_ask 23 = .ok (.sipush 1000, 3) := by decide +kernel
theorem dX3_ask_26 : decode cX3_ask 26 = .ok (.invokestatic 47, 3) := by decide +kernel
theorem dX3_ask_29 : decode cX3_ask 29 = .ok (.ifCond .eq 7, 3) := by decide +kernel
theorem dX3_ask_32 : decode cX3_ask 32 = .ok (.iconst 0, 1) := by decide +kernel
theorem dX3_ask_33 : decode cX3_ask 33 = .ok (.goto 4, 3) := by decide +kernel
theorem dX3_ask_36 : decode cX3_ask 36 = .ok (.iconst 2, 1) := by decide +kernel
theorem dX3_ask_37 : decode cX3_ask 37 = .ok (.putfield 44, 3) := by decide +kernel
theorem dX3_ask_40 : decode cX3_ask 40 = .ok (.aload_n 0, 1) := by decide +kernel
theorem dX3_ask_41 : decode cX3_ask 41 = .ok (.getfield 44, 3) := by decide +kernel
theorem dX3_ask_44 : decode cX3_ask 44 = .ok (.ifCond .le 5, 3) := by decide +kernel
theorem dX3_ask_47 : decode cX3_ask 47 = .ok (.iconst 0, 1) := by decide +kernel
theorem dX3_ask_48 : decode cX3_ask 48 = .ok (.ireturn, 1) := by decide +kernel
theorem dX3_ask_49 : decode cX3_ask 49 = .ok (.aload_n 0, 1) := by decide +kernel
theorem dX3_ask_50 : decode cX3_ask 50 = .ok (.getfield 13, 3) := by decide +kernel
theorem dX3_ask_53 : decode cX3_ask 53 = .ok (.iload_n 1, 1) := by decide +kernel
theorem dX3_ask_54 : decode cX3_ask 54 = .ok (.iaload, 1) := by decide +kernel
theorem dX3_ask_55 : decode cX3_ask 55 = .ok (.istore_n 3, 1) := by decide +kernel
theorem dX3_ask_56 : decode cX3_ask 56 = .ok (.aload_n 0, 1) := by decide +kernel
theorem dX3_ask_57 : decode cX3_ask 57 = .ok (.getfield 13, 3) := by decide +kernel
theorem dX3_ask_60 : decode cX3_ask 60 = .ok (.iload_n 1, 1) := by decide +kernel
theorem dX3_ask_61 : decode cX3_ask 61 = .ok (.iload_n 2, 1) := by decide +kernel
theorem dX3_ask_62 : decode cX3_ask 62 = .ok (.iastore, 1) := by decide +kernel
theorem dX3_ask_63 : decode cX3_ask 63 = .ok (.iload_n 3, 1) := by decide +kernel
theorem dX3_ask_64 : decode cX3_ask 64 = .ok (.ireturn, 1) := by decide +kernel
theorem dX3_keep_0 : decode cX3_keep 0 = .ok (.aload_n 0, 1) := by decide +kernel
theorem dX3_keep_1 : decode cX3_keep 1 = .ok (.iload_n 1, 1) := by decide +kernel
theorem dX3_keep_2 : decode cX3_keep 2 = .ok (.iconst 0, 1) := by decide +kernel
theorem dX3_keep_3 : decode cX3_keep 3 = .ok (.bipush 7, 2) := by decide +kernel
theorem dX3_keep_5 : decode cX3_keep 5 = .ok (.invokestatic 47, 3) := by decide +kernel
theorem dX3_keep_8 : decode cX3_keep 8 = .ok (.ifCond .ne 7, 3) := by decide +kernel
theorem dX3_keep_11 : decode cX3_keep 11 = .ok (.iconst 1, 1) := by decide +kernel
theorem dX3_keep_12 : decode cX3_keep 12 = .ok (.goto 17, 3) := by decide +kernel
theorem dX3_keep_15 : decode cX3_keep 15 = .ok (.aload_n 0, 1) := by decide +kernel
theorem dX3_keep_16 : decode cX3_keep 16 = .ok (.getfield 51, 3) := by decide +kernel
theorem dX3_keep_19 : decode cX3_keep 19 = .ok (.bipush 12, 2) := by decide +kernel
theorem dX3_keep_21 : decode cX3_keep 21 = .ok (.if_icmp .ne 7, 3) := by decide +kernel
theorem dX3_keep_24 : decode cX3_keep 24 = .ok (.iconst 2, 1) := by decide +kernel
theorem dX3_keep_25 : decode cX3_keep 25 = .ok (.goto 4, 3) := by decide +kernel
theorem dX3_keep_28 : decode cX3_keep 28 = .ok (.iconst 0, 1) := by decide +kernel
theorem dX3_keep_29 : decode cX3_keep 29 = .ok (.putfield 44, 3) := by decide +kernel
theorem dX3_keep_32 : decode cX3_keep 32 = .ok (.aload_n 0, 1) := by decide +kernel
theorem dX3_keep_33 : decode cX3_keep 33 = .ok (.getfield 44, 3) := by decide +kernel
theorem dX3_keep_36 : decode cX3_keep 36 = .ok (.ifCond .le 5, 3) := by decide +kernel
theorem dX3_keep_39 : decode cX3_keep 39 = .ok (.iconst 0, 1) := by decide +kernel
theorem dX3_keep_40 : decode cX3_keep 40 = .ok (.ireturn, 1) := by decide +kernel
theorem dX3_keep_41 : decode cX3_keep 41 = .ok (.iconst 0, 1) := by decide +kernel
theorem dX3_keep_42 : decode cX3_keep 42 = .ok (.istore_n 2, 1) := by decide +kernel
theorem dX3_keep_43 : decode cX3_keep 43 = .ok (.iload_n 2, 1) := by decide +kernel
theorem dX3_keep_44 : decode cX3_keep 44 = .ok (.aload_n 0, 1) := by decide +kernel
theorem dX3_keep_45 : decode cX3_keep 45 = .ok (.getfield 7, 3) := by decide +kernel
theorem dX3_keep_48 : decode cX3_keep 48 = .ok (.if_icmp .ge 29, 3) := by decide +kernel
theorem dX3_keep_51 : decode cX3_keep 51 = .ok (.aload_n 0, 1) := by decide +kernel
theorem dX3_keep_52 : decode cX3_keep 52 = .ok (.getfield 17, 3) := by decide +kernel
theorem dX3_keep_55 : decode cX3_keep 55 = .ok (.bipush 16, 2) := by decide +kernel
theorem dX3_keep_57 : decode cX3_keep 57 = .ok (.aload_n 0, 1) := by decide +kernel
theorem dX3_keep_58 : decode cX3_keep 58 = .ok (.getfield 51, 3) := by decide +kernel
theorem dX3_keep_61 : decode cX3_keep 61 = .ok (.imul, 1) := by decide +kernel
theorem dX3_keep_62 : decode cX3_keep 62 = .ok (.iload_n 2, 1) := by decide +kernel
theorem dX3_keep_63 : decode cX3_keep 63 = .ok (.iadd, 1) := by decide +kernel
theorem dX3_keep_64 : decode cX3_keep 64 = .ok (.aload_n 0, 1) := by decide +kernel
theorem dX3_keep_65 : decode cX3_keep 65 = .ok (.getfield 13, 3) := by decide +kernel
theorem dX3_keep_68 : decode cX3_keep 68 = .ok (.iload_n 2, 1) := by decide +kernel
theorem dX3_keep_69 : decode cX3_keep 69 = .ok (.iaload, 1) := by decide +kernel
theorem dX3_keep_70 : decode cX3_keep 70 = .ok (.iastore, 1) := by decide +kernel
theorem dX3_keep_71 : decode cX3_keep 71 = .ok (.iinc 2 1, 3) := by decide +kernel
theorem dX3_keep_74 : decode cX3_keep 74 = .ok (.goto (-31), 3) := by decide +kernel
theorem dX3_keep_77 : decode cX3_keep 77 = .ok (.aload_n 0, 1) := by decide +kernel
theorem dX3_keep_78 : decode cX3_keep 78 = .ok (.getfield 20, 3) := by decide +kernel
theorem dX3_keep_81 : decode cX3_keep 81 = .ok (.aload_n 0, 1) := by decide +kernel
theorem dX3_keep_82 : decode cX3_keep 82 = .ok (.getfield 51, 3) := by decide +kernel
theorem dX3_keep_85 : decode cX3_keep 85 = .ok (.iload_n 1, 1) := by decide +kernel
theorem dX3_keep_86 : decode cX3_keep 86 = .ok (.iastore, 1) := by decide +kernel
theorem dX3_keep_87 : decode cX3_keep 87 = .ok (.aload_n 0, 1) := by decide +kernel
theorem dX3_keep_88 : decode cX3_keep 88 = .ok (.dup, 1) := by decide +kernel
theorem dX3_keep_89 : decode cX3_keep 89 = .ok (.getfield 51, 3) := by decide +kernel
theorem dX3_keep_92 : decode cX3_keep 92 = .ok (.iconst 1, 1) := by decide +kernel
theorem dX3_keep_93 : decode cX3_keep 93 = .ok (.iadd, 1) := by decide +kernel
theorem dX3_keep_94 : decode cX3_keep 94 = .ok (.putfield 51, 3) := by decide +kernel
theorem dX3_keep_97 : decode cX3_keep 97 = .ok (.aload_n 0, 1) := by decide +kernel
theorem dX3_keep_98 : decode cX3_keep 98 = .ok (.getfield 51, 3) := by decide +kernel
theorem dX3_keep_101 : decode cX3_keep 101 = .ok (.iconst 1, 1) := by decide +kernel
theorem dX3_keep_102 : decode cX3_keep 102 = .ok (.isub, 1) := by decide +kernel
theorem dX3_keep_103 : decode cX3_keep 103 = .ok (.ireturn, 1) := by decide +kernel
theorem dX3_recall_0 : decode cX3_recall 0 = .ok (.aload_n 0, 1) := by decide +kernel
theorem dX3_recall_1 : decode cX3_recall 1 = .ok (.iload_n 1, 1) := by decide +kernel
theorem dX3_recall_2 : decode cX3_recall 2 = .ok (.invokevirtual 57, 3) := by decide +kernel
theorem dX3_recall_5 : decode cX3_recall 5 = .ok (.ifCond .eq 36, 3) := by decide +kernel
theorem dX3_recall_8 : decode cX3_recall 8 = .ok (.iconst 0, 1) := by decide +kernel
theorem dX3_recall_9 : decode cX3_recall 9 = .ok (.istore_n 2, 1) := by decide +kernel
theorem dX3_recall_10 : decode cX3_recall 10 = .ok (.iload_n 2, 1) := by decide +kernel
theorem dX3_recall_11 : decode cX3_recall 11 = .ok (.aload_n 0, 1) := by decide +kernel
theorem dX3_recall_12 : decode cX3_recall 12 = .ok (.getfield 7, 3) := by decide +kernel
theorem dX3_recall_15 : decode cX3_recall 15 = .ok (.if_icmp .ge 26, 3) := by decide +kernel
theorem dX3_recall_18 : decode cX3_recall 18 = .ok (.aload_n 0, 1) := by decide +kernel
theorem dX3_recall_19 : decode cX3_recall 19 = .ok (.getfield 13, 3) := by decide +kernel
theorem dX3_recall_22 : decode cX3_recall 22 = .ok (.iload_n 2, 1) := by decide +kernel
theorem dX3_recall_23 : decode cX3_recall 23 = .ok (.aload_n 0, 1) := by decide +kernel
theorem dX3_recall_24 : decode cX3_recall 24 = .ok (.getfield 17, 3) := by decide +kernel
theorem dX3_recall_27 : decode cX3_recall 27 = .ok (.bipush 16, 2) := by decide +kernel
theorem dX3_recall_29 : decode cX3_recall 29 = .ok (.iload_n 1, 1) := by decide +kernel
theorem dX3_recall_30 : decode cX3_recall 30 = .ok (.imul, 1) := by decide +kernel
theorem dX3_recall_31 : decode cX3_recall 31 = .ok (.iload_n 2, 1) := by decide +kernel
theorem dX3_recall_32 : decode cX3_recall 32 = .ok (.iadd, 1) := by decide +kernel
theorem dX3_recall_33 : decode cX3_recall 33 = .ok (.iaload, 1) := by decide +kernel
theorem dX3_recall_34 : decode cX3_recall 34 = .ok (.iastore, 1) := by decide +kernel
theorem dX3_recall_35 : decode cX3_recall 35 = .ok (.iinc 2 1, 3) := by decide +kernel
theorem dX3_recall_38 : decode cX3_recall 38 = .ok (.goto (-28), 3) := by decide +kernel
theorem dX3_recall_41 : decode cX3_recall 41 = .ok (.return_, 1) := by decide +kernel
theorem dX3_isRow_0 : decode cX3_isRow 0 = .ok (.aload_n 0, 1) := by decide +kernel
theorem dX3_isRow_1 : decode cX3_isRow 1 = .ok (.iload_n 1, 1) := by decide +kernel
theorem dX3_isRow_2 : decode cX3_isRow 2 = .ok (.iconst 0, 1) := by decide +kernel
theorem dX3_isRow_3 : decode cX3_isRow 3 = .ok (.aload_n 0, 1) := by decide +kernel
theorem dX3_isRow_4 : decode cX3_isRow 4 = .ok (.getfield 51, 3) := by decide +kernel
theorem dX3_isRow_7 : decode cX3_isRow 7 = .ok (.iconst 1, 1) := by decide +kernel
theorem dX3_isRow_8 : decode cX3_isRow 8 = .ok (.isub, 1) := by decide +kernel
theorem dX3_isRow_9 : decode cX3_isRow 9 = .ok (.invokestatic 47, 3) := by decide +kernel
theorem dX3_isRow_12 : decode cX3_isRow 12 = .ok (.ifCond .eq 7, 3) := by decide +kernel
theorem dX3_isRow_15 : decode cX3_isRow 15 = .ok (.iconst 0, 1) := by decide +kernel
theorem dX3_isRow_16 : decode cX3_isRow 16 = .ok (.goto 4, 3) := by decide +kernel
theorem dX3_isRow_19 : decode cX3_isRow 19 = .ok (.iconst 1, 1) := by decide +kernel
theorem dX3_isRow_20 : decode cX3_isRow 20 = .ok (.putfield 44, 3) := by decide +kernel
theorem dX3_isRow_23 : decode cX3_isRow 23 = .ok (.aload_n 0, 1) := by decide +kernel
theorem dX3_isRow_24 : decode cX3_isRow 24 = .ok (.getfield 44, 3) := by decide +kernel
theorem dX3_isRow_27 : decode cX3_isRow 27 = .ok (.ifCond .ne 7, 3) := by decide +kernel
theorem dX3_isRow_30 : decode cX3_isRow 30 = .ok (.iconst 1, 1) := by decide +kernel
theorem dX3_isRow_31 : decode cX3_isRow 31 = .ok (.goto 4, 3) := by decide +kernel
theorem dX3_isRow_34 : decode cX3_isRow 34 = .ok (.iconst 0, 1) := by decide +kernel
theorem dX3_isRow_35 : decode cX3_isRow 35 = .ok (.ireturn, 1) := by decide +kernel
theorem dX3_band_0 : decode cX3_band 0 = .ok (.aload_n 0, 1) := by decide +kernel
theorem dX3_band_1 : decode cX3_band 1 = .ok (.iload_n 1, 1) := by decide +kernel
theorem dX3_band_2 : decode cX3_band 2 = .ok (.iconst 0, 1) := by decide +kernel
theorem dX3_band_3 : decode cX3_band 3 = .ok (.bipush 15, 2) := by decide +kernel
theorem dX3_band_5 : decode cX3_band 5 = .ok (.invokestatic 47, 3) := by decide +kernel
theorem dX3_band_8 : decode cX3_band 8 = .ok (.ifCond .eq 7, 3) := by decide +kernel
theorem dX3_band_11 : decode cX3_band 11 = .ok (.iconst 0, 1) := by decide +kernel
theorem dX3_band_12 : decode cX3_band 12 = .ok (.goto 4, 3) := by decide +kernel
theorem dX3_band_15 : decode cX3_band 15 = .ok (.iconst 1, 1) := by decide +kernel
theorem dX3_band_16 : decode cX3_band 16 = .ok (.putfield 44, 3) := by decide +kernel
theorem dX3_band_19 : decode cX3_band 19 = .ok (.aload_n 0, 1) := by decide +kernel
theorem dX3_band_20 : decode cX3_band 20 = .ok (.getfield 44, 3) := by decide +kernel
theorem dX3_band_23 : decode cX3_band 23 = .ok (.ifCond .le 5, 3) := by decide +kernel
theorem dX3_band_26 : decode cX3_band 26 = .ok (.iconst 0, 1) := by decide +kernel
theorem dX3_band_27 : decode cX3_band 27 = .ok (.ireturn, 1) := by decide +kernel
theorem dX3_band_28 : decode cX3_band 28 = .ok (.aload_n 0, 1) := by decide +kernel
theorem dX3_band_29 : decode cX3_band 29 = .ok (.getfield 61, 3) := by decide +kernel
theorem dX3_band_32 : decode cX3_band 32 = .ok (.istore_n 2, 1) := by decide +kernel
theorem dX3_band_33 : decode cX3_band 33 = .ok (.aload_n 0, 1) := by decide +kernel
theorem dX3_band_34 : decode cX3_band 34 = .ok (.iload_n 1, 1) := by decide +kernel
theorem dX3_band_35 : decode cX3_band 35 = .ok (.putfield 61, 3) := by decide +kernel
theorem dX3_band_38 : decode cX3_band 38 = .ok (.iload_n 2, 1) := by decide +kernel
theorem dX3_band_39 : decode cX3_band 39 = .ok (.ireturn, 1) := by decide +kernel
theorem dX3_distance_0 : decode cX3_distance 0 = .ok (.aload_n 0, 1) := by decide +kernel
theorem dX3_distance_1 : decode cX3_distance 1 = .ok (.iload_n 1, 1) := by decide +kernel
theorem dX3_distance_2 : decode cX3_distance 2 = .ok (.invokevirtual 57, 3) := by decide +kernel
theorem dX3_distance_5 : decode cX3_distance 5 = .ok (.ifCond .ne 5, 3) := by decide +kernel
theorem dX3_distance_8 : decode cX3_distance 8 = .ok (.iconst 0, 1) := by decide +kernel
theorem dX3_distance_9 : decode cX3_distance 9 = .ok (.ireturn, 1) := by decide +kernel
theorem dX3_distance_10 : decode cX3_distance 10 = .ok (.aload_n 0, 1) := by decide +kernel
theorem dX3_distance_11 : decode cX3_distance 11 = .ok (.iload_n 1, 1) := by decide +kernel
theorem dX3_distance_12 : decode cX3_distance 12 = .ok (.invokevirtual 75, 3) := by decide +kernel
theorem dX3_distance_15 : decode cX3_distance 15 = .ok (.aload_n 0, 1) := by decide +kernel
theorem dX3_distance_16 : decode cX3_distance 16 = .ok (.invokevirtual 79, 3) := by decide +kernel
theorem dX3_distance_19 : decode cX3_distance 19 = .ok (.aload_n 0, 1) := by decide +kernel
theorem dX3_distance_20 : decode cX3_distance 20 = .ok (.aload_n 0, 1) := by decide +kernel
theorem dX3_distance_21 : decode cX3_distance 21 = .ok (.getfield 7, 3) := by decide +kernel
theorem dX3_distance_24 : decode cX3_distance 24 = .ok (.iconst 1, 1) := by decide +kernel
theorem dX3_distance_25 : decode cX3_distance 25 = .ok (.isub, 1) := by decide +kernel
theorem dX3_distance_26 : decode cX3_distance 26 = .ok (.aload_n 0, 1) := by decide +kernel
theorem dX3_distance_27 : decode cX3_distance 27 = .ok (.getfield 7, 3) := by decide +kernel
theorem dX3_distance_30 : decode cX3_distance 30 = .ok (.iconst 1, 1) := by decide +kernel
theorem dX3_distance_31 : decode cX3_distance 31 = .ok (.isub, 1) := by decide +kernel
theorem dX3_distance_32 : decode cX3_distance 32 = .ok (.invokevirtual 68, 3) := by decide +kernel
theorem dX3_distance_35 : decode cX3_distance 35 = .ok (.ireturn, 1) := by decide +kernel
theorem dX3_takeRow_0 : decode cX3_takeRow 0 = .ok (.iconst 0, 1) := by decide +kernel
theorem dX3_takeRow_1 : decode cX3_takeRow 1 = .ok (.istore_n 2, 1) := by decide +kernel
theorem dX3_takeRow_2 : decode cX3_takeRow 2 = .ok (.iload_n 2, 1) := by decide +kernel
theorem dX3_takeRow_3 : decode cX3_takeRow 3 = .ok (.aload_n 0, 1) := by decide +kernel
theorem dX3_takeRow_4 : decode cX3_takeRow 4 = .ok (.getfield 7, 3) := by decide +kernel
theorem dX3_takeRow_7 : decode cX3_takeRow 7 = .ok (.if_icmp .ge 26, 3) := by decide +kernel
theorem dX3_takeRow_10 : decode cX3_takeRow 10 = .ok (.aload_n 0, 1) := by decide +kernel
theorem dX3_takeRow_11 : decode cX3_takeRow 11 = .ok (.getfield 26, 3) := by decide +kernel
theorem dX3_takeRow_14 : decode cX3_takeRow 14 = .ok (.iload_n 2, 1) := by decide +kernel
theorem dX3_takeRow_15 : decode cX3_takeRow 15 = .ok (.aload_n 0, 1) := by decide +kernel
theorem dX3_takeRow_16 : decode cX3_takeRow 16 = .ok (.getfield 17, 3) := by decide +kernel
theorem dX3_takeRow_19 : decode cX3_takeRow 19 = .ok (.bipush 16, 2) := by decide +kernel
theorem dX3_takeRow_21 : decode cX3_takeRow 21 = .ok (.iload_n 1, 1) := by decide +kernel
theorem dX3_takeRow_22 : decode cX3_takeRow 22 = .ok (.imul, 1) := by decide +kernel
theorem dX3_takeRow_23 : decode cX3_takeRow 23 = .ok (.iload_n 2, 1) := by decide +kernel
theorem dX3_takeRow_24 : decode cX3_takeRow 24 = .ok (.iadd, 1) := by decide +kernel
theorem dX3_takeRow_25 : decode cX3_takeRow 25 = .ok (.iaload, 1) := by decide +kernel
theorem dX3_takeRow_26 : decode cX3_takeRow 26 = .ok (.iastore, 1) := by decide +kernel
theorem dX3_takeRow_27 : decode cX3_takeRow 27 = .ok (.iinc 2 1, 3) := by decide +kernel
theorem dX3_takeRow_30 : decode cX3_takeRow 30 = .ok (.goto (-28), 3) := by decide +kernel
theorem dX3_takeRow_33 : decode cX3_takeRow 33 = .ok (.return_, 1) := by decide +kernel
theorem dX3_fill_0 : decode cX3_fill 0 = .ok (.iconst 0, 1) := by decide +kernel
theorem dX3_fill_1 : decode cX3_fill 1 = .ok (.istore_n 1, 1) := by decide +kernel
theorem dX3_fill_2 : decode cX3_fill 2 = .ok (.iload_n 1, 1) := by decide +kernel
theorem dX3_fill_3 : decode cX3_fill 3 = .ok (.aload_n 0, 1) := by decide +kernel
theorem dX3_fill_4 : decode cX3_fill 4 = .ok (.getfield 7, 3) := by decide +kernel
theorem dX3_fill_7 : decode cX3_fill 7 = .ok (.if_icmp .ge 109, 3) := by decide +kernel
theorem dX3_fill_10 : decode cX3_fill 10 = .ok (.iconst 0, 1) := by decide +kernel
theorem dX3_fill_11 : decode cX3_fill 11 = .ok (.istore_n 2, 1) := by decide +kernel
theorem dX3_fill_12 : decode cX3_fill 12 = .ok (.iload_n 2, 1) := by decide +kernel
theorem dX3_fill_13 : decode cX3_fill 13 = .ok (.aload_n 0, 1) := by decide +kernel
theorem dX3_fill_14 : decode cX3_fill 14 = .ok (.getfield 7, 3) := by decide +kernel
theorem dX3_fill_17 : decode cX3_fill 17 = .ok (.if_icmp .ge 93, 3) := by decide +kernel
theorem dX3_fill_20 : decode cX3_fill 20 = .ok (.aload_n 0, 1) := by decide +kernel
theorem dX3_fill_21 : decode cX3_fill 21 = .ok (.iload_n 2, 1) := by decide +kernel
theorem dX3_fill_22 : decode cX3_fill 22 = .ok (.iload_n 1, 1) := by decide +kernel
theorem dX3_fill_23 : decode cX3_fill 23 = .ok (.invokevirtual 64, 3) := by decide +kernel
theorem dX3_fill_26 : decode cX3_fill 26 = .ok (.ifCond .eq 78, 3) := by decide +kernel
theorem dX3_fill_29 : decode cX3_fill 29 = .ok (.aload_n 0, 1) := by decide +kernel
theorem dX3_fill_30 : decode cX3_fill 30 = .ok (.getfield 13, 3) := by decide +kernel
theorem dX3_fill_33 : decode cX3_fill 33 = .ok (.iload_n 2, 1) := by decide +kernel
theorem dX3_fill_34 : decode cX3_fill 34 = .ok (.iaload, 1) := by decide +kernel
theorem dX3_fill_35 : decode cX3_fill 35 = .ok (.aload_n 0, 1) := by decide +kernel
theorem dX3_fill_36 : decode cX3_fill 36 = .ok (.getfield 26, 3) := by decide +kernel
theorem dX3_fill_39 : decode cX3_fill 39 = .ok (.iload_n 1, 1) := by decide +kernel
theorem dX3_fill_40 : decode cX3_fill 40 = .ok (.iaload, 1) := by decide +kernel
theorem dX3_fill_41 : decode cX3_fill 41 = .ok (.isub, 1) := by decide +kernel
theorem dX3_fill_42 : decode cX3_fill 42 = .ok (.istore_n 3, 1) := by decide +kernel
theorem dX3_fill_43 : decode cX3_fill 43 = .ok (.aload_n 0, 1) := by decide +kernel
theorem dX3_fill_44 : decode cX3_fill 44 = .ok (.iload_n 2, 1) := by decide +kernel
theorem dX3_fill_45 : decode cX3_fill 45 = .ok (.iconst 1, 1) := by decide +kernel
theorem dX3_fill_46 : decode cX3_fill 46 = .ok (.isub, 1) := by decide +kernel
theorem dX3_fill_47 : decode cX3_fill 47 = .ok (.iload_n 1, 1) := by decide +kernel
theorem dX3_fill_48 : decode cX3_fill 48 = .ok (.iconst 1, 1) := by decide +kernel
theorem dX3_fill_49 : decode cX3_fill 49 = .ok (.isub, 1) := by decide +kernel
theorem dX3_fill_50 : decode cX3_fill 50 = .ok (.invokevirtual 68, 3) := by decide +kernel
theorem dX3_fill_53 : decode cX3_fill 53 = .ok (.aload_n 0, 1) := by decide +kernel
theorem dX3_fill_54 : decode cX3_fill 54 = .ok (.iload_n 2, 1) := by decide +kernel
theorem dX3_fill_55 : decode cX3_fill 55 = .ok (.iconst 1, 1) := by decide +kernel
theorem dX3_fill_56 : decode cX3_fill 56 = .ok (.isub, 1) := by decide +kernel
theorem dX3_fill_57 : decode cX3_fill 57 = .ok (.iload_n 1, 1) := by decide +kernel
theorem dX3_fill_58 : decode cX3_fill 58 = .ok (.invokevirtual 68, 3) := by decide +kernel
theorem dX3_fill_61 : decode cX3_fill 61 = .ok (.aload_n 0, 1) := by decide +kernel
theorem dX3_fill_62 : decode cX3_fill 62 = .ok (.iload_n 2, 1) := by decide +kernel
theorem dX3_fill_63 : decode cX3_fill 63 = .ok (.iload_n 1, 1) := by decide +kernel
theorem dX3_fill_64 : decode cX3_fill 64 = .ok (.iconst 1, 1) := by decide +kernel
theorem dX3_fill_65 : decode cX3_fill 65 = .ok (.isub, 1) := by decide +kernel
theorem dX3_fill_66 : decode cX3_fill 66 = .ok (.invokevirtual 68, 3) := by decide +kernel
theorem dX3_fill_69 : decode cX3_fill 69 = .ok (.invokestatic 72, 3) := by decide +kernel
theorem dX3_fill_72 : decode cX3_fill 72 = .ok (.invokestatic 72, 3) := by decide +kernel
theorem dX3_fill_75 : decode cX3_fill 75 = .ok (.istore 4, 2) := by decide +kernel
theorem dX3_fill_77 : decode cX3_fill 77 = .ok (.aload_n 0, 1) := by decide +kernel
theorem dX3_fill_78 : decode cX3_fill 78 = .ok (.getfield 29, 3) := by decide +kernel
theorem dX3_fill_81 : decode cX3_fill 81 = .ok (.bipush 16, 2) := by decide +kernel
theorem dX3_fill_83 : decode cX3_fill 83 = .ok (.iload_n 2, 1) := by decide +kernel
theorem dX3_fill_84 : decode cX3_fill 84 = .ok (.imul, 1) := by decide +kernel
theorem dX3_fill_85 : decode cX3_fill 85 = .ok (.iload_n 1, 1) := by decide +kernel
theorem dX3_fill_86 : decode cX3_fill 86 = .ok (.iadd, 1) := by decide +kernel
theorem dX3_fill_87 : decode cX3_fill 87 = .ok (.iload_n 3, 1) := by decide +kernel
theorem dX3_fill_88 : decode cX3_fill 88 = .ok (.iload_n 3, 1) := by decide +kernel
theorem dX3_fill_89 : decode cX3_fill 89 = .ok (.imul, 1) := by decide +kernel
theorem dX3_fill_90 : decode cX3_fill 90 = .ok (.iload_n 2, 1) := by decide +kernel
theorem dX3_fill_91 : decode cX3_fill 91 = .ok (.iload_n 1, 1) := by decide +kernel
theorem dX3_fill_92 : decode cX3_fill 92 = .ok (.iadd, 1) := by decide +kernel
theorem dX3_fill_93 : decode cX3_fill 93 = .ok (.ifCond .ne 7, 3) := by decide +kernel
theorem dX3_fill_96 : decode cX3_fill 96 = .ok (.iconst 0, 1) := by decide +kernel
theorem dX3_fill_97 : decode cX3_fill 97 = .ok (.goto 5, 3) := by decide +kernel
theorem dX3_fill_100 : decode cX3_fill 100 = .ok (.iload 4, 2) := by decide +kernel
theorem dX3_fill_102 : decode cX3_fill 102 = .ok (.iadd, 1) := by decide +kernel
theorem dX3_fill_103 : decode cX3_fill 103 = .ok (.iastore, 1) := by decide +kernel
theorem dX3_fill_104 : decode cX3_fill 104 = .ok (.iinc 2 1, 3) := by decide +kernel
theorem dX3_fill_107 : decode cX3_fill 107 = .ok (.goto (-95), 3) := by decide +kernel
theorem dX3_fill_110 : decode cX3_fill 110 = .ok (.iinc 1 1, 3) := by decide +kernel
theorem dX3_fill_113 : decode cX3_fill 113 = .ok (.goto (-111), 3) := by decide +kernel
theorem dX3_fill_116 : decode cX3_fill 116 = .ok (.return_, 1) := by decide +kernel
theorem dX3_inBand_0 : decode cX3_inBand 0 = .ok (.iload_n 1, 1) := by decide +kernel
theorem dX3_inBand_1 : decode cX3_inBand 1 = .ok (.iconst 0, 1) := by decide +kernel
theorem dX3_inBand_2 : decode cX3_inBand 2 = .ok (.aload_n 0, 1) := by decide +kernel
theorem dX3_inBand_3 : decode cX3_inBand 3 = .ok (.getfield 7, 3) := by decide +kernel
theorem dX3_inBand_6 : decode cX3_inBand 6 = .ok (.iconst 1, 1) := by decide +kernel
theorem dX3_inBand_7 : decode cX3_inBand 7 = .ok (.isub, 1) := by decide +kernel
theorem dX3_inBand_8 : decode cX3_inBand 8 = .ok (.invokestatic 47, 3) := by decide +kernel
theorem dX3_inBand_11 : decode cX3_inBand 11 = .ok (.ifCond .eq 39, 3) := by decide +kernel
theorem dX3_inBand_14 : decode cX3_inBand 14 = .ok (.iload_n 2, 1) := by decide +kernel
theorem dX3_inBand_15 : decode cX3_inBand 15 = .ok (.iconst 0, 1) := by decide +kernel
theorem dX3_inBand_16 : decode cX3_inBand 16 = .ok (.aload_n 0, 1) := by decide +kernel
theorem dX3_inBand_17 : decode cX3_inBand 17 = .ok (.getfield 7, 3) := by decide +kernel
theorem dX3_inBand_20 : decode cX3_inBand 20 = .ok (.iconst 1, 1) := by decide +kernel
theorem dX3_inBand_21 : decode cX3_inBand 21 = .ok (.isub, 1) := by decide +kernel
theorem dX3_inBand_22 : decode cX3_inBand 22 = .ok (.invokestatic 47, 3) := by decide +kernel
theorem dX3_inBand_25 : decode cX3_inBand 25 = .ok (.ifCond .eq 25, 3) := by decide +kernel
theorem dX3_inBand_28 : decode cX3_inBand 28 = .ok (.iload_n 1, 1) := by decide +kernel
theorem dX3_inBand_29 : decode cX3_inBand 29 = .ok (.iload_n 2, 1) := by decide +kernel
theorem dX3_inBand_30 : decode cX3_inBand 30 = .ok (.isub, 1) := by decide +kernel
theorem dX3_inBand_31 : decode cX3_inBand 31 = .ok (.aload_n 0, 1) := by decide +kernel
theorem dX3_inBand_32 : decode cX3_inBand 32 = .ok (.getfield 61, 3) := by decide +kernel
theorem dX3_inBand_35 : decode cX3_inBand 35 = .ok (.ineg, 1) := by decide +kernel
theorem dX3_inBand_36 : decode cX3_inBand 36 = .ok (.aload_n 0, 1) := by decide +kernel
theorem dX3_inBand_37 : decode cX3_inBand 37 = .ok (.getfield 61, 3) := by decide +kernel
theorem dX3_inBand_40 : decode cX3_inBand 40 = .ok (.invokestatic 47, 3) := by decide +kernel
theorem dX3_inBand_43 : decode cX3_inBand 43 = .ok (.ifCond .eq 7, 3) := by decide +kernel
theorem dX3_inBand_46 : decode cX3_inBand 46 = .ok (.iconst 1, 1) := by decide +kernel
theorem dX3_inBand_47 : decode cX3_inBand 47 = .ok (.goto 4, 3) := by decide +kernel
theorem dX3_inBand_50 : decode cX3_inBand 50 = .ok (.iconst 0, 1) := by decide +kernel
theorem dX3_inBand_51 : decode cX3_inBand 51 = .ok (.ireturn, 1) := by decide +kernel
theorem dX3_costAt_0 : decode cX3_costAt 0 = .ok (.aload_n 0, 1) := by decide +kernel
theorem dX3_costAt_1 : decode cX3_costAt 1 = .ok (.iload_n 1, 1) := by decide +kernel
theorem dX3_costAt_2 : decode cX3_costAt 2 = .ok (.iload_n 2, 1) := by decide +kernel
theorem dX3_costAt_3 : decode cX3_costAt 3 = .ok (.invokevirtual 64, 3) := by decide +kernel
theorem dX3_costAt_6 : decode cX3_costAt 6 = .ok (.ifCond .eq 17, 3) := by decide +kernel
theorem dX3_costAt_9 : decode cX3_costAt 9 = .ok (.aload_n 0, 1) := by decide +kernel
theorem dX3_costAt_10 : decode cX3_costAt 10 = .ok (.getfield 29, 3) := by decide +kernel
theorem dX3_costAt_13 : decode cX3_costAt 13 = .ok (.bipush 16, 2) := by decide +kernel
theorem dX3_costAt_15 : decode cX3_costAt 15 = .ok (.iload_n 1, 1) := by decide +kernel
theorem dX3_costAt_16 : decode cX3_costAt 16 = .ok (.imul, 1) := by decide +kernel
theorem dX3_costAt_17 : decode cX3_costAt 17 = .ok (.iload_n 2, 1) := by decide +kernel
theorem dX3_costAt_18 : decode cX3_costAt 18 = .ok (.iadd, 1) := by decide +kernel
theorem dX3_costAt_19 : decode cX3_costAt 19 = .ok (.iaload, 1) := by decide +kernel
theorem dX3_costAt_20 : decode cX3_costAt 20 = .ok (.goto 4, 3) := by decide +kernel
theorem dX3_costAt_23 : decode cX3_costAt 23 = .ok (.iconst (-1), 1) := by decide +kernel
theorem dX3_costAt_24 : decode cX3_costAt 24 = .ok (.ireturn, 1) := by decide +kernel
theorem dX3_lesser_0 : decode cX3_lesser 0 = .ok (.iload_n 0, 1) := by decide +kernel
theorem dX3_lesser_1 : decode cX3_lesser 1 = .ok (.ifCond .ge 7, 3) := by decide +kernel
theorem dX3_lesser_4 : decode cX3_lesser 4 = .ok (.iload_n 1, 1) := by decide +kernel
theorem dX3_lesser_5 : decode cX3_lesser 5 = .ok (.goto 17, 3) := by decide +kernel
theorem dX3_lesser_8 : decode cX3_lesser 8 = .ok (.iload_n 1, 1) := by decide +kernel
theorem dX3_lesser_9 : decode cX3_lesser 9 = .ok (.ifCond .lt 8, 3) := by decide +kernel
theorem dX3_lesser_12 : decode cX3_lesser 12 = .ok (.iload_n 0, 1) := by decide +kernel
theorem dX3_lesser_13 : decode cX3_lesser 13 = .ok (.iload_n 1, 1) := by decide +kernel
theorem dX3_lesser_14 : decode cX3_lesser 14 = .ok (.if_icmp .ge 7, 3) := by decide +kernel
theorem dX3_lesser_17 : decode cX3_lesser 17 = .ok (.iload_n 0, 1) := by decide +kernel
theorem dX3_lesser_18 : decode cX3_lesser 18 = .ok (.goto 4, 3) := by decide +kernel
theorem dX3_lesser_21 : decode cX3_lesser 21 = .ok (.iload_n 1, 1) := by decide +kernel
theorem dX3_lesser_22 : decode cX3_lesser 22 = .ok (.ireturn, 1) := by decide +kernel
theorem dX3_bound_0 : decode cX3_bound 0 = .ok (.aload_n 0, 1) := by decide +kernel
theorem dX3_bound_1 : decode cX3_bound 1 = .ok (.iload_n 1, 1) := by decide +kernel
theorem dX3_bound_2 : decode cX3_bound 2 = .ok (.invokevirtual 57, 3) := by decide +kernel
theorem dX3_bound_5 : decode cX3_bound 5 = .ok (.ifCond .ne 5, 3) := by decide +kernel
theorem dX3_bound_8 : decode cX3_bound 8 = .ok (.iconst 0, 1) := by decide +kernel
theorem dX3_bound_9 : decode cX3_bound 9 = .ok (.ireturn, 1) := by decide +kernel
theorem dX3_bound_10 : decode cX3_bound 10 = .ok (.aload_n 0, 1) := by decide +kernel
theorem dX3_bound_11 : decode cX3_bound 11 = .ok (.iload_n 2, 1) := by decide +kernel
theorem dX3_bound_12 : decode cX3_bound 12 = .ok (.iconst 0, 1) := by decide +kernel
theorem dX3_bound_13 : decode cX3_bound 13 = .ok (.iconst 2, 1) := by decide +kernel
theorem dX3_bound_14 : decode cX3_bound 14 = .ok (.invokestatic 47, 3) := by decide +kernel
theorem dX3_bound_17 : decode cX3_bound 17 = .ok (.ifCond .eq 7, 3) := by decide +kernel
theorem dX3_bound_20 : decode cX3_bound 20 = .ok (.iconst 0, 1) := by decide +kernel
theorem dX3_bound_21 : decode cX3_bound 21 = .ok (.goto 4, 3) := by decide +kernel
theorem dX3_bound_24 : decode cX3_bound 24 = .ok (.iconst 2, 1) := by decide +kernel
theorem dX3_bound_25 : decode cX3_bound 25 = .ok (.putfield 44, 3) := by decide +kernel
theorem dX3_bound_28 : decode cX3_bound 28 = .ok (.aload_n 0, 1) := by decide +kernel
theorem dX3_bound_29 : decode cX3_bound 29 = .ok (.getfield 44, 3) := by decide +kernel
theorem dX3_bound_32 : decode cX3_bound 32 = .ok (.ifCond .le 5, 3) := by decide +kernel
theorem dX3_bound_35 : decode cX3_bound 35 = .ok (.iconst 0, 1) := by decide +kernel
theorem dX3_bound_36 : decode cX3_bound 36 = .ok (.ireturn, 1) := by decide +kernel
theorem dX3_bound_37 : decode cX3_bound 37 = .ok (.aload_n 0, 1) := by decide +kernel
theorem dX3_bound_38 : decode cX3_bound 38 = .ok (.iload_n 1, 1) := by decide +kernel
theorem dX3_bound_39 : decode cX3_bound 39 = .ok (.invokevirtual 75, 3) := by decide +kernel
theorem dX3_bound_42 : decode cX3_bound 42 = .ok (.aload_n 0, 1) := by decide +kernel
theorem dX3_bound_43 : decode cX3_bound 43 = .ok (.iload_n 2, 1) := by decide +kernel
theorem dX3_bound_44 : decode cX3_bound 44 = .ok (.invokevirtual 86, 3) := by decide +kernel
theorem dX3_bound_47 : decode cX3_bound 47 = .ok (.ireturn, 1) := by decide +kernel
theorem dX3_boundOf_0 : decode cX3_boundOf 0 = .ok (.iload_n 1, 1) := by decide +kernel
theorem dX3_boundOf_1 : decode cX3_boundOf 1 = .ok (.ifCond .ne 49, 3) := by decide +kernel
theorem dX3_boundOf_4 : decode cX3_boundOf 4 = .ok (.aload_n 0, 1) := by decide +kernel
theorem dX3_boundOf_5 : decode cX3_boundOf 5 = .ok (.getfield 13, 3) := by decide +kernel
theorem dX3_boundOf_8 : decode cX3_boundOf 8 = .ok (.iconst 0, 1) := by decide +kernel
theorem dX3_boundOf_9 : decode cX3_boundOf 9 = .ok (.iaload, 1) := by decide +kernel
theorem dX3_boundOf_10 : decode cX3_boundOf 10 = .ok (.aload_n 0, 1) := by decide +kernel
theorem dX3_boundOf_11 : decode cX3_boundOf 11 = .ok (.getfield 26, 3) := by decide +kernel
theorem dX3_boundOf_14 : decode cX3_boundOf 14 = .ok (.iconst 0, 1) := by decide +kernel
theorem dX3_boundOf_15 : decode cX3_boundOf 15 = .ok (.iaload, 1) := by decide +kernel
theorem dX3_boundOf_16 : decode cX3_boundOf 16 = .ok (.isub, 1) := by decide +kernel
theorem dX3_boundOf_17 : decode cX3_boundOf 17 = .ok (.istore_n 2, 1) := by decide +kernel
theorem dX3_boundOf_18 : decode cX3_boundOf 18 = .ok (.aload_n 0, 1) := by decide +kernel
theorem dX3_boundOf_19 : decode cX3_boundOf 19 = .ok (.getfield 13, 3) := by decide +kernel
theorem dX3_boundOf_22 : decode cX3_boundOf 22 = .ok (.aload_n 0, 1) := by decide +kernel
theorem dX3_boundOf_23 : decode cX3_boundOf 23 = .ok (.getfield 7, 3) := by decide +kernel
theorem dX3_boundOf_26 : decode cX3_boundOf 26 = .ok (.iconst 1, 1) := by decide +kernel
theorem dX3_boundOf_27 : decode cX3_boundOf 27 = .ok (.isub, 1) := by decide +kernel
theorem dX3_boundOf_28 : decode cX3_boundOf 28 = .ok (.iaload, 1) := by decide +kernel
theorem dX3_boundOf_29 : decode cX3_boundOf 29 = .ok (.aload_n 0, 1) := by decide +kernel
theorem dX3_boundOf_30 : decode cX3_boundOf 30 = .ok (.getfield 26, 3) := by decide +kernel
theorem dX3_boundOf_33 : decode cX3_boundOf 33 = .ok (.aload_n 0, 1) := by decide +kernel
theorem dX3_boundOf_34 : decode cX3_boundOf 34 = .ok (.getfield 7, 3) := by decide +kernel
theorem dX3_boundOf_37 : decode cX3_boundOf 37 = .ok (.iconst 1, 1) := by decide +kernel
theorem dX3_boundOf_38 : decode cX3_boundOf 38 = .ok (.isub, 1) := by decide +kernel
theorem dX3_boundOf_39 : decode cX3_boundOf 39 = .ok (.iaload, 1) := by decide +kernel
theorem dX3_boundOf_40 : decode cX3_boundOf 40 = .ok (.isub, 1) := by decide +kernel
theorem dX3_boundOf_41 : decode cX3_boundOf 41 = .ok (.istore_n 3, 1) := by decide +kernel
theorem dX3_boundOf_42 : decode cX3_boundOf 42 = .ok (.iload_n 2, 1) := by decide +kernel
theorem dX3_boundOf_43 : decode cX3_boundOf 43 = .ok (.iload_n 2, 1) := by decide +kernel
theorem dX3_boundOf_44 : decode cX3_boundOf 44 = .ok (.imul, 1) := by decide +kernel
theorem dX3_boundOf_45 : decode cX3_boundOf 45 = .ok (.iload_n 3, 1) := by decide +kernel
theorem dX3_boundOf_46 : decode cX3_boundOf 46 = .ok (.iload_n 3, 1) := by decide +kernel
theorem dX3_boundOf_47 : decode cX3_boundOf 47 = .ok (.imul, 1) := by decide +kernel
theorem dX3_boundOf_48 : decode cX3_boundOf 48 = .ok (.iadd, 1) := by decide +kernel
theorem dX3_boundOf_49 : decode cX3_boundOf 49 = .ok (.ireturn, 1) := by decide +kernel
theorem dX3_boundOf_50 : decode cX3_boundOf 50 = .ok (.iconst 0, 1) := by decide +kernel
theorem dX3_boundOf_51 : decode cX3_boundOf 51 = .ok (.istore_n 2, 1) := by decide +kernel
theorem dX3_boundOf_52 : decode cX3_boundOf 52 = .ok (.iconst 0, 1) := by decide +kernel
theorem dX3_boundOf_53 : decode cX3_boundOf 53 = .ok (.istore_n 3, 1) := by decide +kernel
theorem dX3_boundOf_54 : decode cX3_boundOf 54 = .ok (.iload_n 3, 1) := by decide +kernel
theorem dX3_boundOf_55 : decode cX3_boundOf 55 = .ok (.aload_n 0, 1) := by decide +kernel
theorem dX3_boundOf_56 : decode cX3_boundOf 56 = .ok (.getfield 7, 3) := by decide +kernel
theorem dX3_boundOf_59 : decode cX3_boundOf 59 = .ok (.if_icmp .ge 47, 3) := by decide +kernel
theorem dX3_boundOf_62 : decode cX3_boundOf 62 = .ok (.iload_n 2, 1) := by decide +kernel
theorem dX3_boundOf_63 : decode cX3_boundOf 63 = .ok (.aload_n 0, 1) := by decide +kernel
theorem dX3_boundOf_64 : decode cX3_boundOf 64 = .ok (.iload_n 1, 1) := by decide +kernel
theorem dX3_boundOf_65 : decode cX3_boundOf 65 = .ok (.iconst 1, 1) := by decide +kernel
theorem dX3_boundOf_66 : decode cX3_boundOf 66 = .ok (.if_icmp .ne 12, 3) := by decide +kernel
theorem dX3_boundOf_69 : decode cX3_boundOf 69 = .ok (.aload_n 0, 1) := by decide +kernel
theorem dX3_boundOf_70 : decode cX3_boundOf 70 = .ok (.getfield 26, 3) := by decide +kernel
theorem dX3_boundOf_73 : decode cX3_boundOf 73 = .ok (.iload_n 3, 1) := by decide +kernel
theorem dX3_boundOf_74 : decode cX3_boundOf 74 = .ok (.iaload, 1) := by decide +kernel
theorem dX3_boundOf_75 : decode cX3_boundOf 75 = .ok (.goto 9, 3) := by decide +kernel
theorem dX3_boundOf_78 : decode cX3_boundOf 78 = .ok (.aload_n 0, 1) := by decide +kernel
theorem dX3_boundOf_79 : decode cX3_boundOf 79 = .ok (.getfield 13, 3) := by decide +kernel
theorem dX3_boundOf_82 : decode cX3_boundOf 82 = .ok (.iload_n 3, 1) := by decide +kernel
theorem dX3_boundOf_83 : decode cX3_boundOf 83 = .ok (.iaload, 1) := by decide +kernel
theorem dX3_boundOf_84 : decode cX3_boundOf 84 = .ok (.iload_n 3, 1) := by decide +kernel
theorem dX3_boundOf_85 : decode cX3_boundOf 85 = .ok (.iload_n 1, 1) := by decide +kernel
theorem dX3_boundOf_86 : decode cX3_boundOf 86 = .ok (.iconst 1, 1) := by decide +kernel
theorem dX3_boundOf_87 : decode cX3_boundOf 87 = .ok (.if_icmp .ne 7, 3) := by decide +kernel
theorem dX3_boundOf_90 : decode cX3_boundOf 90 = .ok (.iconst 1, 1) := by decide +kernel
theorem dX3_boundOf_91 : decode cX3_boundOf 91 = .ok (.goto 4, 3) := by decide +kernel
theorem dX3_boundOf_94 : decode cX3_boundOf 94 = .ok (.iconst 0, 1) := by decide +kernel
theorem dX3_boundOf_95 : decode cX3_boundOf 95 = .ok (.invokevirtual 82, 3) := by decide +kernel
theorem dX3_boundOf_98 : decode cX3_boundOf 98 = .ok (.iadd, 1) := by decide +kernel
theorem dX3_boundOf_99 : decode cX3_boundOf 99 = .ok (.istore_n 2, 1) := by decide +kernel
theorem dX3_boundOf_100 : decode cX3_boundOf 100 = .ok (.iinc 3 1, 3) := by decide +kernel
theorem dX3_boundOf_103 : decode cX3_boundOf 103 = .ok (.goto (-49), 3) := by decide +kernel
theorem dX3_boundOf_106 : decode cX3_boundOf 106 = .ok (.iload_n 2, 1) := by decide +kernel
theorem dX3_boundOf_107 : decode cX3_boundOf 107 = .ok (.ireturn, 1) := by decide +kernel
theorem dX3_beyond_0 : decode cX3_beyond 0 = .ok (.sipush 1000, 3) := by decide +kernel
theorem dX3_beyond_3 : decode cX3_beyond 3 = .ok (.istore 4, 2) := by decide +kernel
theorem dX3_beyond_5 : decode cX3_beyond 5 = .ok (.sipush (-1000), 3) := by decide +kernel
theorem dX3_beyond_8 : decode cX3_beyond 8 = .ok (.istore 5, 2) := by decide +kernel
theorem dX3_beyond_10 : decode cX3_beyond 10 = .ok (.iconst 0, 1) := by decide +kernel
theorem dX3_beyond_11 : decode cX3_beyond 11 = .ok (.istore 6, 2) := by decide +kernel
theorem dX3_beyond_13 : decode cX3_beyond 13 = .ok (.iload 6, 2) := by decide +kernel
theorem dX3_beyond_15 : decode cX3_beyond 15 = .ok (.aload_n 0, 1) := by decide +kernel
theorem dX3_beyond_16 : decode cX3_beyond 16 = .ok (.getfield 7, 3) := by decide +kernel
theorem dX3_beyond_19 : decode cX3_beyond 19 = .ok (.if_icmp .ge 92, 3) := by decide +kernel
theorem dX3_beyond_22 : decode cX3_beyond 22 = .ok (.iload_n 3, 1) := by decide +kernel
theorem dX3_beyond_23 : decode cX3_beyond 23 = .ok (.ifCond .eq 13, 3) := by decide +kernel
theorem dX3_beyond_26 : decode cX3_beyond 26 = .ok (.aload_n 0, 1) := by decide +kernel
theorem dX3_beyond_27 : decode cX3_beyond 27 = .ok (.getfield 13, 3) := by decide +kernel
theorem dX3_beyond_30 : decode cX3_beyond 30 = .ok (.iload 6, 2) := by decide +kernel
theorem dX3_beyond_32 : decode cX3_beyond 32 = .ok (.iaload, 1) := by decide +kernel
theorem dX3_beyond_33 : decode cX3_beyond 33 = .ok (.goto 10, 3) := by decide +kernel
theorem dX3_beyond_36 : decode cX3_beyond 36 = .ok (.aload_n 0, 1) := by decide +kernel
theorem dX3_beyond_37 : decode cX3_beyond 37 = .ok (.getfield 26, 3) := by decide +kernel
theorem dX3_beyond_40 : decode cX3_beyond 40 = .ok (.iload 6, 2) := by decide +kernel
theorem dX3_beyond_42 : decode cX3_beyond 42 = .ok (.iaload, 1) := by decide +kernel
theorem dX3_beyond_43 : decode cX3_beyond 43 = .ok (.istore 7, 2) := by decide +kernel
theorem dX3_beyond_45 : decode cX3_beyond 45 = .ok (.iload 6, 2) := by decide +kernel
theorem dX3_beyond_47 : decode cX3_beyond 47 = .ok (.iload_n 2, 1) := by decide +kernel
theorem dX3_beyond_48 : decode cX3_beyond 48 = .ok (.isub, 1) := by decide +kernel
theorem dX3_beyond_49 : decode cX3_beyond 49 = .ok (.aload_n 0, 1) := by decide +kernel
theorem dX3_beyond_50 : decode cX3_beyond 50 = .ok (.getfield 61, 3) := by decide +kernel
theorem dX3_beyond_53 : decode cX3_beyond 53 = .ok (.ineg, 1) := by decide +kernel
theorem dX3_beyond_54 : decode cX3_beyond 54 = .ok (.aload_n 0, 1) := by decide +kernel
theorem dX3_beyond_55 : decode cX3_beyond 55 = .ok (.getfield 61, 3) := by decide +kernel
theorem dX3_beyond_58 : decode cX3_beyond 58 = .ok (.invokestatic 47, 3) := by decide +kernel
theorem dX3_beyond_61 : decode cX3_beyond 61 = .ok (.istore 8, 2) := by decide +kernel
theorem dX3_beyond_63 : decode cX3_beyond 63 = .ok (.iload 8, 2) := by decide +kernel
theorem dX3_beyond_65 : decode cX3_beyond 65 = .ok (.ifCond .eq 15, 3) := by decide +kernel
theorem dX3_beyond_68 : decode cX3_beyond 68 = .ok (.iload 7, 2) := by decide +kernel
theorem dX3_beyond_70 : decode cX3_beyond 70 = .ok (.iload 4, 2) := by decide +kernel
theorem dX3_beyond_72 : decode cX3_beyond 72 = .ok (.if_icmp .ge 8, 3) := by decide +kernel
theorem dX3_beyond_75 : decode cX3_beyond 75 = .ok (.iload 7, 2) := by decide +kernel
theorem dX3_beyond_77 : decode cX3_beyond 77 = .ok (.goto 5, 3) := by decide +kernel
theorem dX3_beyond_80 : decode cX3_beyond 80 = .ok (.iload 4, 2) := by decide +kernel
theorem dX3_beyond_82 : decode cX3_beyond 82 = .ok (.istore 4, 2) := by decide +kernel
theorem dX3_beyond_84 : decode cX3_beyond 84 = .ok (.iload 8, 2) := by decide +kernel
theorem dX3_beyond_86 : decode cX3_beyond 86 = .ok (.ifCond .eq 15, 3) := by decide +kernel
theorem dX3_beyond_89 : decode cX3_beyond 89 = .ok (.iload 7, 2) := by decide +kernel
theorem dX3_beyond_91 : decode cX3_beyond 91 = .ok (.iload 5, 2) := by decide +kernel
theorem dX3_beyond_93 : decode cX3_beyond 93 = .ok (.if_icmp .le 8, 3) := by decide +kernel
theorem dX3_beyond_96 : decode cX3_beyond 96 = .ok (.iload 7, 2) := by decide +kernel
theorem dX3_beyond_98 : decode cX3_beyond 98 = .ok (.goto 5, 3) := by decide +kernel
theorem dX3_beyond_101 : decode cX3_beyond 101 = .ok (.iload 5, 2) := by decide +kernel
theorem dX3_beyond_103 : decode cX3_beyond 103 = .ok (.istore 5, 2) := by decide +kernel
theorem dX3_beyond_105 : decode cX3_beyond 105 = .ok (.iinc 6 1, 3) := by decide +kernel
theorem dX3_beyond_108 : decode cX3_beyond 108 = .ok (.goto (-95), 3) := by decide +kernel
theorem dX3_beyond_111 : decode cX3_beyond 111 = .ok (.iload_n 1, 1) := by decide +kernel
theorem dX3_beyond_112 : decode cX3_beyond 112 = .ok (.iload 4, 2) := by decide +kernel
theorem dX3_beyond_114 : decode cX3_beyond 114 = .ok (.if_icmp .ge 10, 3) := by decide +kernel
theorem dX3_beyond_117 : decode cX3_beyond 117 = .ok (.iload 4, 2) := by decide +kernel
theorem dX3_beyond_119 : decode cX3_beyond 119 = .ok (.iload_n 1, 1) := by decide +kernel
theorem dX3_beyond_120 : decode cX3_beyond 120 = .ok (.isub, 1) := by decide +kernel
theorem dX3_beyond_121 : decode cX3_beyond 121 = .ok (.goto 17, 3) := by decide +kernel
theorem dX3_beyond_124 : decode cX3_beyond 124 = .ok (.iload_n 1, 1) := by decide +kernel
theorem dX3_beyond_125 : decode cX3_beyond 125 = .ok (.iload 5, 2) := by decide +kernel
theorem dX3_beyond_127 : decode cX3_beyond 127 = .ok (.if_icmp .le 10, 3) := by decide +kernel
theorem dX3_beyond_130 : decode cX3_beyond 130 = .ok (.iload_n 1, 1) := by decide +kernel
theorem dX3_beyond_131 : decode cX3_beyond 131 = .ok (.iload 5, 2) := by decide +kernel
theorem dX3_beyond_133 : decode cX3_beyond 133 = .ok (.isub, 1) := by decide +kernel
theorem dX3_beyond_134 : decode cX3_beyond 134 = .ok (.goto 4, 3) := by decide +kernel
theorem dX3_beyond_137 : decode cX3_beyond 137 = .ok (.iconst 0, 1) := by decide +kernel
theorem dX3_beyond_138 : decode cX3_beyond 138 = .ok (.istore 6, 2) := by decide +kernel
theorem dX3_beyond_140 : decode cX3_beyond 140 = .ok (.iload 6, 2) := by decide +kernel
theorem dX3_beyond_142 : decode cX3_beyond 142 = .ok (.iload 6, 2) := by decide +kernel
theorem dX3_beyond_144 : decode cX3_beyond 144 = .ok (.imul, 1) := by decide +kernel
theorem dX3_beyond_145 : decode cX3_beyond 145 = .ok (.ireturn, 1) := by decide +kernel
theorem dX3_steps_0 : decode cX3_steps 0 = .ok (.aload_n 0, 1) := by decide +kernel
theorem dX3_steps_1 : decode cX3_steps 1 = .ok (.iload_n 1, 1) := by decide +kernel
theorem dX3_steps_2 : decode cX3_steps 2 = .ok (.invokevirtual 57, 3) := by decide +kernel
theorem dX3_steps_5 : decode cX3_steps 5 = .ok (.ifCond .ne 5, 3) := by decide +kernel
theorem dX3_steps_8 : decode cX3_steps 8 = .ok (.iconst 0, 1) := by decide +kernel
theorem dX3_steps_9 : decode cX3_steps 9 = .ok (.ireturn, 1) := by decide +kernel
theorem dX3_steps_10 : decode cX3_steps 10 = .ok (.aload_n 0, 1) := by decide +kernel
theorem dX3_steps_11 : decode cX3_steps 11 = .ok (.iload_n 1, 1) := by decide +kernel
theorem dX3_steps_12 : decode cX3_steps 12 = .ok (.invokevirtual 75, 3) := by decide +kernel
theorem dX3_steps_15 : decode cX3_steps 15 = .ok (.aload_n 0, 1) := by decide +kernel
theorem dX3_steps_16 : decode cX3_steps 16 = .ok (.invokevirtual 79, 3) := by decide +kernel
theorem dX3_steps_19 : decode cX3_steps 19 = .ok (.aload_n 0, 1) := by decide +kernel
theorem dX3_steps_20 : decode cX3_steps 20 = .ok (.invokevirtual 90, 3) := by decide +kernel
theorem dX3_steps_23 : decode cX3_steps 23 = .ok (.ireturn, 1) := by decide +kernel
theorem dX3_walk_0 : decode cX3_walk 0 = .ok (.aload_n 0, 1) := by decide +kernel
theorem dX3_walk_1 : decode cX3_walk 1 = .ok (.getfield 7, 3) := by decide +kernel
theorem dX3_walk_4 : decode cX3_walk 4 = .ok (.iconst 1, 1) := by decide +kernel
theorem dX3_walk_5 : decode cX3_walk 5 = .ok (.isub, 1) := by decide +kernel
theorem dX3_walk_6 : decode cX3_walk 6 = .ok (.istore_n 1, 1) := by decide +kernel
theorem dX3_walk_7 : decode cX3_walk 7 = .ok (.aload_n 0, 1) := by decide +kernel
theorem dX3_walk_8 : decode cX3_walk 8 = .ok (.getfield 7, 3) := by decide +kernel
theorem dX3_walk_11 : decode cX3_walk 11 = .ok (.iconst 1, 1) := by decide +kernel
theorem dX3_walk_12 : decode cX3_walk 12 = .ok (.isub, 1) := by decide +kernel
theorem dX3_walk_13 : decode cX3_walk 13 = .ok (.istore_n 2, 1) := by decide +kernel
theorem dX3_walk_14 : decode cX3_walk 14 = .ok (.iconst 0, 1) := by decide +kernel
theorem dX3_walk_15 : decode cX3_walk 15 = .ok (.istore_n 3, 1) := by decide +kernel
theorem dX3_walk_16 : decode cX3_walk 16 = .ok (.aload_n 0, 1) := by decide +kernel
theorem dX3_walk_17 : decode cX3_walk 17 = .ok (.getfield 32, 3) := by decide +kernel
theorem dX3_walk_20 : decode cX3_walk 20 = .ok (.iconst 0, 1) := by decide +kernel
theorem dX3_walk_21 : decode cX3_walk 21 = .ok (.bipush 16, 2) := by decide +kernel
theorem dX3_walk_23 : decode cX3_walk 23 = .ok (.iload_n 1, 1) := by decide +kernel
theorem dX3_walk_24 : decode cX3_walk 24 = .ok (.imul, 1) := by decide +kernel
theorem dX3_walk_25 : decode cX3_walk 25 = .ok (.iload_n 2, 1) := by decide +kernel
theorem dX3_walk_26 : decode cX3_walk 26 = .ok (.iadd, 1) := by decide +kernel
theorem dX3_walk_27 : decode cX3_walk 27 = .ok (.iastore, 1) := by decide +kernel
theorem dX3_walk_28 : decode cX3_walk 28 = .ok (.iconst 1, 1) := by decide +kernel
theorem dX3_walk_29 : decode cX3_walk 29 = .ok (.istore_n 3, 1) := by decide +kernel
theorem dX3_walk_30 : decode cX3_walk 30 = .ok (.iload_n 1, 1) := by decide +kernel
theorem dX3_walk_31 : decode cX3_walk 31 = .ok (.iload_n 2, 1) := by decide +kernel
theorem dX3_walk_32 : decode cX3_walk 32 = .ok (.iadd, 1) := by decide +kernel
theorem dX3_walk_33 : decode cX3_walk 33 = .ok (.ifCond .le 146, 3) := by decide +kernel
theorem dX3_walk_36 : decode cX3_walk 36 = .ok (.aload_n 0, 1) := by decide +kernel
theorem dX3_walk_37 : decode cX3_walk 37 = .ok (.iload_n 1, 1) := by decide +kernel
theorem dX3_walk_38 : decode cX3_walk 38 = .ok (.iconst 1, 1) := by decide +kernel
theorem dX3_walk_39 : decode cX3_walk 39 = .ok (.isub, 1) := by decide +kernel
theorem dX3_walk_40 : decode cX3_walk 40 = .ok (.iload_n 2, 1) := by decide +kernel
theorem dX3_walk_41 : decode cX3_walk 41 = .ok (.iconst 1, 1) := by decide +kernel
theorem dX3_walk_42 : decode cX3_walk 42 = .ok (.isub, 1) := by decide +kernel
theorem dX3_walk_43 : decode cX3_walk 43 = .ok (.invokevirtual 68, 3) := by decide +kernel
theorem dX3_walk_46 : decode cX3_walk 46 = .ok (.istore 4, 2) := by decide +kernel
theorem dX3_walk_48 : decode cX3_walk 48 = .ok (.aload_n 0, 1) := by decide +kernel
theorem dX3_walk_49 : decode cX3_walk 49 = .ok (.iload_n 1, 1) := by decide +kernel
theorem dX3_walk_50 : decode cX3_walk 50 = .ok (.iconst 1, 1) := by decide +kernel
theorem dX3_walk_51 : decode cX3_walk 51 = .ok (.isub, 1) := by decide +kernel
theorem dX3_walk_52 : decode cX3_walk 52 = .ok (.iload_n 2, 1) := by decide +kernel
theorem dX3_walk_53 : decode cX3_walk 53 = .ok (.invokevirtual 68, 3) := by decide +kernel
theorem dX3_walk_56 : decode cX3_walk 56 = .ok (.istore 5, 2) := by decide +kernel
theorem dX3_walk_58 : decode cX3_walk 58 = .ok (.aload_n 0, 1) := by decide +kernel
theorem dX3_walk_59 : decode cX3_walk 59 = .ok (.iload_n 1, 1) := by decide +kernel
theorem dX3_walk_60 : decode cX3_walk 60 = .ok (.iload_n 2, 1) := by decide +kernel
theorem dX3_walk_61 : decode cX3_walk 61 = .ok (.iconst 1, 1) := by decide +kernel
theorem dX3_walk_62 : decode cX3_walk 62 = .ok (.isub, 1) := by decide +kernel
theorem dX3_walk_63 : decode cX3_walk 63 = .ok (.invokevirtual 68, 3) := by decide +kernel
theorem dX3_walk_66 : decode cX3_walk 66 = .ok (.istore 6, 2) := by decide +kernel
theorem dX3_walk_68 : decode cX3_walk 68 = .ok (.iload 4, 2) := by decide +kernel
theorem dX3_walk_70 : decode cX3_walk 70 = .ok (.iload 5, 2) := by decide +kernel
theorem dX3_walk_72 : decode cX3_walk 72 = .ok (.iload 6, 2) := by decide +kernel
theorem dX3_walk_74 : decode cX3_walk 74 = .ok (.invokestatic 72, 3) := by decide +kernel
theorem dX3_walk_77 : decode cX3_walk 77 = .ok (.invokestatic 72, 3) := by decide +kernel
theorem dX3_walk_80 : decode cX3_walk 80 = .ok (.istore 7, 2) := by decide +kernel
theorem dX3_walk_82 : decode cX3_walk 82 = .ok (.iload 4, 2) := by decide +kernel
theorem dX3_walk_84 : decode cX3_walk 84 = .ok (.iload 7, 2) := by decide +kernel
theorem dX3_walk_86 : decode cX3_walk 86 = .ok (.if_icmp .ne 12, 3) := by decide +kernel
theorem dX3_walk_89 : decode cX3_walk 89 = .ok (.iload 4, 2) := by decide +kernel
theorem dX3_walk_91 : decode cX3_walk 91 = .ok (.ifCond .lt 7, 3) := by decide +kernel
theorem dX3_walk_94 : decode cX3_walk 94 = .ok (.iconst 1, 1) := by decide +kernel
theorem dX3_walk_95 : decode cX3_walk 95 = .ok (.goto 4, 3) := by decide +kernel
theorem dX3_walk_98 : decode cX3_walk 98 = .ok (.iconst 0, 1) := by decide +kernel
theorem dX3_walk_99 : decode cX3_walk 99 = .ok (.istore 8, 2) := by decide +kernel
theorem dX3_walk_101 : decode cX3_walk 101 = .ok (.iload 8, 2) := by decide +kernel
theorem dX3_walk_103 : decode cX3_walk 103 = .ok (.ifCond .ne 19, 3) := by decide +kernel
theorem dX3_walk_106 : decode cX3_walk 106 = .ok (.iload 5, 2) := by decide +kernel
theorem dX3_walk_108 : decode cX3_walk 108 = .ok (.iload 7, 2) := by decide +kernel
theorem dX3_walk_110 : decode cX3_walk 110 = .ok (.if_icmp .ne 12, 3) := by decide +kernel
theorem dX3_walk_113 : decode cX3_walk 113 = .ok (.iload 5, 2) := by decide +kernel
theorem dX3_walk_115 : decode cX3_walk 115 = .ok (.ifCond .lt 7, 3) := by decide +kernel
theorem dX3_walk_118 : decode cX3_walk 118 = .ok (.iconst 1, 1) := by decide +kernel
theorem dX3_walk_119 : decode cX3_walk 119 = .ok (.goto 4, 3) := by decide +kernel
theorem dX3_walk_122 : decode cX3_walk 122 = .ok (.iconst 0, 1) := by decide +kernel
theorem dX3_walk_123 : decode cX3_walk 123 = .ok (.istore 9, 2) := by decide +kernel
theorem dX3_walk_125 : decode cX3_walk 125 = .ok (.iload 8, 2) := by decide +kernel
theorem dX3_walk_127 : decode cX3_walk 127 = .ok (.ifCond .ne 8, 3) := by decide +kernel
theorem dX3_walk_130 : decode cX3_walk 130 = .ok (.iload 9, 2) := by decide +kernel
theorem dX3_walk_132 : decode cX3_walk 132 = .ok (.ifCond .eq 9, 3) := by decide +kernel
theorem dX3_walk_135 : decode cX3_walk 135 = .ok (.iload_n 1, 1) := by decide +kernel
theorem dX3_walk_136 : decode cX3_walk 136 = .ok (.iconst 1, 1) := by decide +kernel
theorem dX3_walk_137 : decode cX3_walk 137 = .ok (.isub, 1) := by decide +kernel
theorem dX3_walk_138 : decode cX3_walk 138 = .ok (.goto 4, 3) := by decide +kernel
theorem dX3_walk_141 : decode cX3_walk 141 = .ok (.iload_n 1, 1) := by decide +kernel
theorem dX3_walk_142 : decode cX3_walk 142 = .ok (.istore_n 1, 1) := by decide +kernel
theorem dX3_walk_143 : decode cX3_walk 143 = .ok (.iload 8, 2) := by decide +kernel
theorem dX3_walk_145 : decode cX3_walk 145 = .ok (.ifCond .ne 8, 3) := by decide +kernel
theorem dX3_walk_148 : decode cX3_walk 148 = .ok (.iload 9, 2) := by decide +kernel
theorem dX3_walk_150 : decode cX3_walk 150 = .ok (.ifCond .ne 9, 3) := by decide +kernel
theorem dX3_walk_153 : decode cX3_walk 153 = .ok (.iload_n 2, 1) := by decide +kernel
theorem dX3_walk_154 : decode cX3_walk 154 = .ok (.iconst 1, 1) := by decide +kernel
theorem dX3_walk_155 : decode cX3_walk 155 = .ok (.isub, 1) := by decide +kernel
theorem dX3_walk_156 : decode cX3_walk 156 = .ok (.goto 4, 3) := by decide +kernel
theorem dX3_walk_159 : decode cX3_walk 159 = .ok (.iload_n 2, 1) := by decide +kernel
theorem dX3_walk_160 : decode cX3_walk 160 = .ok (.istore_n 2, 1) := by decide +kernel
theorem dX3_walk_161 : decode cX3_walk 161 = .ok (.aload_n 0, 1) := by decide +kernel
theorem dX3_walk_162 : decode cX3_walk 162 = .ok (.getfield 32, 3) := by decide +kernel
theorem dX3_walk_165 : decode cX3_walk 165 = .ok (.iload_n 3, 1) := by decide +kernel
theorem dX3_walk_166 : decode cX3_walk 166 = .ok (.bipush 16, 2) := by decide +kernel
theorem dX3_walk_168 : decode cX3_walk 168 = .ok (.iload_n 1, 1) := by decide +kernel
theorem dX3_walk_169 : decode cX3_walk 169 = .ok (.imul, 1) := by decide +kernel
theorem dX3_walk_170 : decode cX3_walk 170 = .ok (.iload_n 2, 1) := by decide +kernel
theorem dX3_walk_171 : decode cX3_walk 171 = .ok (.iadd, 1) := by decide +kernel
theorem dX3_walk_172 : decode cX3_walk 172 = .ok (.iastore, 1) := by decide +kernel
theorem dX3_walk_173 : decode cX3_walk 173 = .ok (.iinc 3 1, 3) := by decide +kernel
theorem dX3_walk_176 : decode cX3_walk 176 = .ok (.goto (-146), 3) := by decide +kernel
theorem dX3_walk_179 : decode cX3_walk 179 = .ok (.iload_n 3, 1) := by decide +kernel
theorem dX3_walk_180 : decode cX3_walk 180 = .ok (.ireturn, 1) := by decide +kernel
theorem dX3_pair_0 : decode cX3_pair 0 = .ok (.aload_n 0, 1) := by decide +kernel
theorem dX3_pair_1 : decode cX3_pair 1 = .ok (.iload_n 1, 1) := by decide +kernel
theorem dX3_pair_2 : decode cX3_pair 2 = .ok (.invokevirtual 57, 3) := by decide +kernel
theorem dX3_pair_5 : decode cX3_pair 5 = .ok (.ifCond .ne 5, 3) := by decide +kernel
theorem dX3_pair_8 : decode cX3_pair 8 = .ok (.iconst 0, 1) := by decide +kernel
theorem dX3_pair_9 : decode cX3_pair 9 = .ok (.ireturn, 1) := by decide +kernel
theorem dX3_pair_10 : decode cX3_pair 10 = .ok (.aload_n 0, 1) := by decide +kernel
theorem dX3_pair_11 : decode cX3_pair 11 = .ok (.iload_n 1, 1) := by decide +kernel
theorem dX3_pair_12 : decode cX3_pair 12 = .ok (.invokevirtual 75, 3) := by decide +kernel
theorem dX3_pair_15 : decode cX3_pair 15 = .ok (.aload_n 0, 1) := by decide +kernel
theorem dX3_pair_16 : decode cX3_pair 16 = .ok (.invokevirtual 79, 3) := by decide +kernel
theorem dX3_pair_19 : decode cX3_pair 19 = .ok (.aload_n 0, 1) := by decide +kernel
theorem dX3_pair_20 : decode cX3_pair 20 = .ok (.invokevirtual 90, 3) := by decide +kernel
theorem dX3_pair_23 : decode cX3_pair 23 = .ok (.istore_n 3, 1) := by decide +kernel
theorem dX3_pair_24 : decode cX3_pair 24 = .ok (.aload_n 0, 1) := by decide +kernel
theorem dX3_pair_25 : decode cX3_pair 25 = .ok (.iload_n 2, 1) := by decide +kernel
theorem dX3_pair_26 : decode cX3_pair 26 = .ok (.iconst 0, 1) := by decide +kernel
theorem dX3_pair_27 : decode cX3_pair 27 = .ok (.iload_n 3, 1) := by decide +kernel
theorem dX3_pair_28 : decode cX3_pair 28 = .ok (.iconst 1, 1) := by decide +kernel
theorem dX3_pair_29 : decode cX3_pair 29 = .ok (.isub, 1) := by decide +kernel
theorem dX3_pair_30 : decode cX3_pair 30 = .ok (.invokestatic 47, 3) := by decide +kernel
theorem dX3_pair_33 : decode cX3_pair 33 = .ok (.ifCond .eq 7, 3) := by decide +kernel
theorem dX3_pair_36 : decode cX3_pair 36 = .ok (.iconst 0, 1) := by decide +kernel
theorem dX3_pair_37 : decode cX3_pair 37 = .ok (.goto 4, 3) := by decide +kernel
theorem dX3_pair_40 : decode cX3_pair 40 = .ok (.iconst 1, 1) := by decide +kernel
theorem dX3_pair_41 : decode cX3_pair 41 = .ok (.putfield 44, 3) := by decide +kernel
theorem dX3_pair_44 : decode cX3_pair 44 = .ok (.aload_n 0, 1) := by decide +kernel
theorem dX3_pair_45 : decode cX3_pair 45 = .ok (.getfield 44, 3) := by decide +kernel
theorem dX3_pair_48 : decode cX3_pair 48 = .ok (.ifCond .le 7, 3) := by decide +kernel
theorem dX3_pair_51 : decode cX3_pair 51 = .ok (.iconst 0, 1) := by decide +kernel
theorem dX3_pair_52 : decode cX3_pair 52 = .ok (.goto 13, 3) := by decide +kernel
theorem dX3_pair_55 : decode cX3_pair 55 = .ok (.aload_n 0, 1) := by decide +kernel
theorem dX3_pair_56 : decode cX3_pair 56 = .ok (.getfield 32, 3) := by decide +kernel
theorem dX3_pair_59 : decode cX3_pair 59 = .ok (.iload_n 3, 1) := by decide +kernel
theorem dX3_pair_60 : decode cX3_pair 60 = .ok (.iconst 1, 1) := by decide +kernel
theorem dX3_pair_61 : decode cX3_pair 61 = .ok (.isub, 1) := by decide +kernel
theorem dX3_pair_62 : decode cX3_pair 62 = .ok (.iload_n 2, 1) := by decide +kernel
theorem dX3_pair_63 : decode cX3_pair 63 = .ok (.isub, 1) := by decide +kernel
theorem dX3_pair_64 : decode cX3_pair 64 = .ok (.iaload, 1) := by decide +kernel
theorem dX3_pair_65 : decode cX3_pair 65 = .ok (.ireturn, 1) := by decide +kernel
theorem dX3_search_0 : decode cX3_search 0 = .ok (.aload_n 0, 1) := by decide +kernel
theorem dX3_search_1 : decode cX3_search 1 = .ok (.iload_n 1, 1) := by decide +kernel
theorem dX3_search_2 : decode cX3_search 2 = .ok (.iconst 1, 1) := by decide +kernel
theorem dX3_search_3 : decode cX3_search 3 = .ok (.bipush 12, 2) := by decide +kernel
theorem dX3_search_5 : decode cX3_search 5 = .ok (.invokestatic 47, 3) := by decide +kernel
theorem dX3_search_8 : decode cX3_search 8 = .ok (.ifCond .ne 7, 3) := by decide +kernel
theorem dX3_search_11 : decode cX3_search 11 = .ok (.iconst 1, 1) := by decide +kernel
theorem dX3_search_12 : decode cX3_search 12 = .ok (.goto 15, 3) := by decide +kernel
theorem dX3_search_15 : decode cX3_search 15 = .ok (.aload_n 0, 1) := by decide +kernel
theorem dX3_search_16 : decode cX3_search 16 = .ok (.getfield 51, 3) := by decide +kernel
theorem dX3_search_19 : decode cX3_search 19 = .ok (.ifCond .ne 7, 3) := by decide +kernel
theorem dX3_search_22 : decode cX3_search 22 = .ok (.iconst 2, 1) := by decide +kernel
theorem dX3_search_23 : decode cX3_search 23 = .ok (.goto 4, 3) := by decide +kernel
theorem dX3_search_26 : decode cX3_search 26 = .ok (.iconst 0, 1) := by decide +kernel
theorem dX3_search_27 : decode cX3_search 27 = .ok (.putfield 44, 3) := by decide +kernel
theorem dX3_search_30 : decode cX3_search 30 = .ok (.aload_n 0, 1) := by decide +kernel
theorem dX3_search_31 : decode cX3_search 31 = .ok (.getfield 44, 3) := by decide +kernel
theorem dX3_search_34 : decode cX3_search 34 = .ok (.ifCond .le 5, 3) := by decide +kernel
theorem dX3_search_37 : decode cX3_search 37 = .ok (.iconst 0, 1) := by decide +kernel
theorem dX3_search_38 : decode cX3_search 38 = .ok (.ireturn, 1) := by decide +kernel
theorem dX3_search_39 : decode cX3_search 39 = .ok (.aload_n 0, 1) := by decide +kernel
theorem dX3_search_40 : decode cX3_search 40 = .ok (.iload_n 1, 1) := by decide +kernel
theorem dX3_search_41 : decode cX3_search 41 = .ok (.invokevirtual 103, 3) := by decide +kernel
theorem dX3_search_44 : decode cX3_search 44 = .ok (.iconst 0, 1) := by decide +kernel
theorem dX3_search_45 : decode cX3_search 45 = .ok (.istore_n 2, 1) := by decide +kernel
theorem dX3_search_46 : decode cX3_search 46 = .ok (.iload_n 2, 1) := by decide +kernel
theorem dX3_search_47 : decode cX3_search 47 = .ok (.aload_n 0, 1) := by decide +kernel
theorem dX3_search_48 : decode cX3_search 48 = .ok (.getfield 51, 3) := by decide +kernel
theorem dX3_search_51 : decode cX3_search 51 = .ok (.if_icmp .ge 19, 3) := by decide +kernel
theorem dX3_search_54 : decode cX3_search 54 = .ok (.aload_n 0, 1) := by decide +kernel
theorem dX3_search_55 : decode cX3_search 55 = .ok (.iload_n 2, 1) := by decide +kernel
theorem dX3_search_56 : decode cX3_search 56 = .ok (.invokevirtual 75, 3) := by decide +kernel
theorem dX3_search_59 : decode cX3_search 59 = .ok (.aload_n 0, 1) := by decide +kernel
theorem dX3_search_60 : decode cX3_search 60 = .ok (.iload_n 2, 1) := by decide +kernel
theorem dX3_search_61 : decode cX3_search 61 = .ok (.invokevirtual 106, 3) := by decide +kernel
theorem dX3_search_64 : decode cX3_search 64 = .ok (.iinc 2 1, 3) := by decide +kernel
theorem dX3_search_67 : decode cX3_search 67 = .ok (.goto (-21), 3) := by decide +kernel
theorem dX3_search_70 : decode cX3_search 70 = .ok (.aload_n 0, 1) := by decide +kernel
theorem dX3_search_71 : decode cX3_search 71 = .ok (.getfield 54, 3) := by decide +kernel
theorem dX3_search_74 : decode cX3_search 74 = .ok (.ireturn, 1) := by decide +kernel
theorem dX3_start_0 : decode cX3_start 0 = .ok (.aload_n 0, 1) := by decide +kernel
theorem dX3_start_1 : decode cX3_start 1 = .ok (.iload_n 1, 1) := by decide +kernel
theorem dX3_start_2 : decode cX3_start 2 = .ok (.putfield 94, 3) := by decide +kernel
theorem dX3_start_5 : decode cX3_start 5 = .ok (.aload_n 0, 1) := by decide +kernel
theorem dX3_start_6 : decode cX3_start 6 = .ok (.iconst 0, 1) := by decide +kernel
theorem dX3_start_7 : decode cX3_start 7 = .ok (.putfield 54, 3) := by decide +kernel
theorem dX3_start_10 : decode cX3_start 10 = .ok (.iconst 0, 1) := by decide +kernel
theorem dX3_start_11 : decode cX3_start 11 = .ok (.istore_n 2, 1) := by decide +kernel
theorem dX3_start_12 : decode cX3_start 12 = .ok (.iload_n 2, 1) := by decide +kernel
theorem dX3_start_13 : decode cX3_start 13 = .ok (.iconst 5, 1) := by decide +kernel
theorem dX3_start_14 : decode cX3_start 14 = .ok (.if_icmp .ge 16, 3) := by decide +kernel
theorem dX3_start_17 : decode cX3_start 17 = .ok (.aload_n 0, 1) := by decide +kernel
theorem dX3_start_18 : decode cX3_start 18 = .ok (.getfield 41, 3) := by decide +kernel
theorem dX3_start_21 : decode cX3_start 21 = .ok (.iload_n 2, 1) := by decide +kernel
theorem dX3_start_22 : decode cX3_start 22 = .ok (.iconst 0, 1) := by decide +kernel
theorem dX3_start_23 : decode cX3_start 23 = .ok (.iastore, 1) := by decide +kernel
theorem dX3_start_24 : decode cX3_start 24 = .ok (.iinc 2 1, 3) := by decide +kernel
theorem dX3_start_27 : decode cX3_start 27 = .ok (.goto (-15), 3) := by decide +kernel
theorem dX3_start_30 : decode cX3_start 30 = .ok (.return_, 1) := by decide +kernel
theorem dX3_turn_0 : decode cX3_turn 0 = .ok (.aload_n 0, 1) := by decide +kernel
theorem dX3_turn_1 : decode cX3_turn 1 = .ok (.getfield 54, 3) := by decide +kernel
theorem dX3_turn_4 : decode cX3_turn 4 = .ok (.aload_n 0, 1) := by decide +kernel
theorem dX3_turn_5 : decode cX3_turn 5 = .ok (.getfield 94, 3) := by decide +kernel
theorem dX3_turn_8 : decode cX3_turn 8 = .ok (.if_icmp .ne 7, 3) := by decide +kernel
theorem dX3_turn_11 : decode cX3_turn 11 = .ok (.iconst 1, 1) := by decide +kernel
theorem dX3_turn_12 : decode cX3_turn 12 = .ok (.goto 4, 3) := by decide +kernel
theorem dX3_turn_15 : decode cX3_turn 15 = .ok (.iconst 0, 1) := by decide +kernel
theorem dX3_turn_16 : decode cX3_turn 16 = .ok (.istore_n 2, 1) := by decide +kernel
theorem dX3_turn_17 : decode cX3_turn 17 = .ok (.iload_n 2, 1) := by decide +kernel
theorem dX3_turn_18 : decode cX3_turn 18 = .ok (.ifCond .eq 17, 3) := by decide +kernel
theorem dX3_turn_21 : decode cX3_turn 21 = .ok (.aload_n 0, 1) := by decide +kernel
theorem dX3_turn_22 : decode cX3_turn 22 = .ok (.getfield 38, 3) := by decide +kernel
theorem dX3_turn_25 : decode cX3_turn 25 = .ok (.aload_n 0, 1) := by decide +kernel
theorem dX3_turn_26 : decode cX3_turn 26 = .ok (.getfield 94, 3) := by decide +kernel
theorem dX3_turn_29 : decode cX3_turn 29 = .ok (.iconst 1, 1) := by decide +kernel
theorem dX3_turn_30 : decode cX3_turn 30 = .ok (.isub, 1) := by decide +kernel
theorem dX3_turn_31 : decode cX3_turn 31 = .ok (.iaload, 1) := by decide +kernel
theorem dX3_turn_32 : decode cX3_turn 32 = .ok (.goto 4, 3) := by decide +kernel
theorem dX3_turn_35 : decode cX3_turn 35 = .ok (.iconst 0, 1) := by decide +kernel
theorem dX3_turn_36 : decode cX3_turn 36 = .ok (.istore_n 3, 1) := by decide +kernel
theorem dX3_turn_37 : decode cX3_turn 37 = .ok (.iconst 0, 1) := by decide +kernel
theorem dX3_turn_38 : decode cX3_turn 38 = .ok (.istore 4, 2) := by decide +kernel
theorem dX3_turn_40 : decode cX3_turn 40 = .ok (.iload 4, 2) := by decide +kernel
theorem dX3_turn_42 : decode cX3_turn 42 = .ok (.iconst 3, 1) := by decide +kernel
theorem dX3_turn_43 : decode cX3_turn 43 = .ok (.if_icmp .ge 30, 3) := by decide +kernel
theorem dX3_turn_46 : decode cX3_turn 46 = .ok (.iload_n 2, 1) := by decide +kernel
theorem dX3_turn_47 : decode cX3_turn 47 = .ok (.ifCond .eq 26, 3) := by decide +kernel
theorem dX3_turn_50 : decode cX3_turn 50 = .ok (.aload_n 0, 1) := by decide +kernel
theorem dX3_turn_51 : decode cX3_turn 51 = .ok (.iload 4, 2) := by decide +kernel
theorem dX3_turn_53 : decode cX3_turn 53 = .ok (.invokevirtual 86, 3) := by decide +kernel
theorem dX3_turn_56 : decode cX3_turn 56 = .ok (.iload_n 3, 1) := by decide +kernel
theorem dX3_turn_57 : decode cX3_turn 57 = .ok (.if_icmp .lt 10, 3) := by decide +kernel
theorem dX3_turn_60 : decode cX3_turn 60 = .ok (.aload_n 0, 1) := by decide +kernel
theorem dX3_turn_61 : decode cX3_turn 61 = .ok (.iload 4, 2) := by decide +kernel
theorem dX3_turn_63 : decode cX3_turn 63 = .ok (.invokevirtual 97, 3) := by decide +kernel
theorem dX3_turn_66 : decode cX3_turn 66 = .ok (.return_, 1) := by decide +kernel
theorem dX3_turn_67 : decode cX3_turn 67 = .ok (.iinc 4 1, 3) := by decide +kernel
theorem dX3_turn_70 : decode cX3_turn 70 = .ok (.goto (-30), 3) := by decide +kernel
theorem dX3_turn_73 : decode cX3_turn 73 = .ok (.aload_n 0, 1) := by decide +kernel
theorem dX3_turn_74 : decode cX3_turn 74 = .ok (.iconst 3, 1) := by decide +kernel
theorem dX3_turn_75 : decode cX3_turn 75 = .ok (.invokevirtual 97, 3) := by decide +kernel
theorem dX3_turn_78 : decode cX3_turn 78 = .ok (.aload_n 0, 1) := by decide +kernel
theorem dX3_turn_79 : decode cX3_turn 79 = .ok (.invokevirtual 79, 3) := by decide +kernel
theorem dX3_turn_82 : decode cX3_turn 82 = .ok (.iload_n 2, 1) := by decide +kernel
theorem dX3_turn_83 : decode cX3_turn 83 = .ok (.ifCond .eq 17, 3) := by decide +kernel
theorem dX3_turn_86 : decode cX3_turn 86 = .ok (.aload_n 0, 1) := by decide +kernel
theorem dX3_turn_87 : decode cX3_turn 87 = .ok (.iload_n 3, 1) := by decide +kernel
theorem dX3_turn_88 : decode cX3_turn 88 = .ok (.invokevirtual 100, 3) := by decide +kernel
theorem dX3_turn_91 : decode cX3_turn 91 = .ok (.ifCond .eq 9, 3) := by decide +kernel
theorem dX3_turn_94 : decode cX3_turn 94 = .ok (.aload_n 0, 1) := by decide +kernel
theorem dX3_turn_95 : decode cX3_turn 95 = .ok (.iconst 4, 1) := by decide +kernel
theorem dX3_turn_96 : decode cX3_turn 96 = .ok (.invokevirtual 97, 3) := by decide +kernel
theorem dX3_turn_99 : decode cX3_turn 99 = .ok (.return_, 1) := by decide +kernel
theorem dX3_turn_100 : decode cX3_turn 100 = .ok (.aload_n 0, 1) := by decide +kernel
theorem dX3_turn_101 : decode cX3_turn 101 = .ok (.aload_n 0, 1) := by decide +kernel
theorem dX3_turn_102 : decode cX3_turn 102 = .ok (.getfield 7, 3) := by decide +kernel
theorem dX3_turn_105 : decode cX3_turn 105 = .ok (.iconst 1, 1) := by decide +kernel
theorem dX3_turn_106 : decode cX3_turn 106 = .ok (.isub, 1) := by decide +kernel
theorem dX3_turn_107 : decode cX3_turn 107 = .ok (.aload_n 0, 1) := by decide +kernel
theorem dX3_turn_108 : decode cX3_turn 108 = .ok (.getfield 7, 3) := by decide +kernel
theorem dX3_turn_111 : decode cX3_turn 111 = .ok (.iconst 1, 1) := by decide +kernel
theorem dX3_turn_112 : decode cX3_turn 112 = .ok (.isub, 1) := by decide +kernel
theorem dX3_turn_113 : decode cX3_turn 113 = .ok (.invokevirtual 68, 3) := by decide +kernel
theorem dX3_turn_116 : decode cX3_turn 116 = .ok (.istore 4, 2) := by decide +kernel
theorem dX3_turn_118 : decode cX3_turn 118 = .ok (.iload_n 2, 1) := by decide +kernel
theorem dX3_turn_119 : decode cX3_turn 119 = .ok (.ifCond .eq 10, 3) := by decide +kernel
theorem dX3_turn_122 : decode cX3_turn 122 = .ok (.iload 4, 2) := by decide +kernel
theorem dX3_turn_124 : decode cX3_turn 124 = .ok (.iload_n 3, 1) := by decide +kernel
theorem dX3_turn_125 : decode cX3_turn 125 = .ok (.if_icmp .lt 4, 3) := by decide +kernel
theorem dX3_turn_128 : decode cX3_turn 128 = .ok (.return_, 1) := by decide +kernel
theorem dX3_turn_129 : decode cX3_turn 129 = .ok (.aload_n 0, 1) := by decide +kernel
theorem dX3_turn_130 : decode cX3_turn 130 = .ok (.getfield 54, 3) := by decide +kernel
theorem dX3_turn_133 : decode cX3_turn 133 = .ok (.istore 5, 2) := by decide +kernel
theorem dX3_turn_135 : decode cX3_turn 135 = .ok (.iload 5, 2) := by decide +kernel
theorem dX3_turn_137 : decode cX3_turn 137 = .ok (.ifCond .le 55, 3) := by decide +kernel
theorem dX3_turn_140 : decode cX3_turn 140 = .ok (.aload_n 0, 1) := by decide +kernel
theorem dX3_turn_141 : decode cX3_turn 141 = .ok (.getfield 38, 3) := by decide +kernel
theorem dX3_turn_144 : decode cX3_turn 144 = .ok (.iload 5, 2) := by decide +kernel
theorem dX3_turn_146 : decode cX3_turn 146 = .ok (.iconst 1, 1) := by decide +kernel
theorem dX3_turn_147 : decode cX3_turn 147 = .ok (.isub, 1) := by decide +kernel
theorem dX3_turn_148 : decode cX3_turn 148 = .ok (.iaload, 1) := by decide +kernel
theorem dX3_turn_149 : decode cX3_turn 149 = .ok (.iload 4, 2) := by decide +kernel
theorem dX3_turn_151 : decode cX3_turn 151 = .ok (.if_icmp .le 41, 3) := by decide +kernel
theorem dX3_turn_154 : decode cX3_turn 154 = .ok (.aload_n 0, 1) := by decide +kernel
theorem dX3_turn_155 : decode cX3_turn 155 = .ok (.getfield 38, 3) := by decide +kernel
theorem dX3_turn_158 : decode cX3_turn 158 = .ok (.iload 5, 2) := by decide +kernel
theorem dX3_turn_160 : decode cX3_turn 160 = .ok (.aload_n 0, 1) := by decide +kernel
theorem dX3_turn_161 : decode cX3_turn 161 = .ok (.getfield 38, 3) := by decide +kernel
theorem dX3_turn_164 : decode cX3_turn 164 = .ok (.iload 5, 2) := by decide +kernel
theorem dX3_turn_166 : decode cX3_turn 166 = .ok (.iconst 1, 1) := by decide +kernel
theorem dX3_turn_167 : decode cX3_turn 167 = .ok (.isub, 1) := by decide +kernel
theorem dX3_turn_168 : decode cX3_turn 168 = .ok (.iaload, 1) := by decide +kernel
theorem dX3_turn_169 : decode cX3_turn 169 = .ok (.iastore, 1) := by decide +kernel
theorem dX3_turn_170 : decode cX3_turn 170 = .ok (.aload_n 0, 1) := by decide +kernel
theorem dX3_turn_171 : decode cX3_turn 171 = .ok (.getfield 35, 3) := by decide +kernel
theorem dX3_turn_174 : decode cX3_turn 174 = .ok (.iload 5, 2) := by decide +kernel
theorem dX3_turn_176 : decode cX3_turn 176 = .ok (.aload_n 0, 1) := by decide +kernel
theorem dX3_turn_177 : decode cX3_turn 177 = .ok (.getfield 35, 3) := by decide +kernel
theorem dX3_turn_180 : decode cX3_turn 180 = .ok (.iload 5, 2) := by decide +kernel
theorem dX3_turn_182 : decode cX3_turn 182 = .ok (.iconst 1, 1) := by decide +kernel
theorem dX3_turn_183 : decode cX3_turn 183 = .ok (.isub, 1) := by decide +kernel
theorem dX3_turn_184 : decode cX3_turn 184 = .ok (.iaload, 1) := by decide +kernel
theorem dX3_turn_185 : decode cX3_turn 185 = .ok (.iastore, 1) := by decide +kernel
theorem dX3_turn_186 : decode cX3_turn 186 = .ok (.iinc 5 (-1), 3) := by decide +kernel
theorem dX3_turn_189 : decode cX3_turn 189 = .ok (.goto (-54), 3) := by decide +kernel
theorem dX3_turn_192 : decode cX3_turn 192 = .ok (.aload_n 0, 1) := by decide +kernel
theorem dX3_turn_193 : decode cX3_turn 193 = .ok (.getfield 38, 3) := by decide +kernel
theorem dX3_turn_196 : decode cX3_turn 196 = .ok (.iload 5, 2) := by decide +kernel
theorem dX3_turn_198 : decode cX3_turn 198 = .ok (.iload 4, 2) := by decide +kernel
theorem dX3_turn_200 : decode cX3_turn 200 = .ok (.iastore, 1) := by decide +kernel
theorem dX3_turn_201 : decode cX3_turn 201 = .ok (.aload_n 0, 1) := by decide +kernel
theorem dX3_turn_202 : decode cX3_turn 202 = .ok (.getfield 35, 3) := by decide +kernel
theorem dX3_turn_205 : decode cX3_turn 205 = .ok (.iload 5, 2) := by decide +kernel
theorem dX3_turn_207 : decode cX3_turn 207 = .ok (.iload_n 1, 1) := by decide +kernel
theorem dX3_turn_208 : decode cX3_turn 208 = .ok (.iastore, 1) := by decide +kernel
theorem dX3_turn_209 : decode cX3_turn 209 = .ok (.aload_n 0, 1) := by decide +kernel
theorem dX3_turn_210 : decode cX3_turn 210 = .ok (.aload_n 0, 1) := by decide +kernel
theorem dX3_turn_211 : decode cX3_turn 211 = .ok (.getfield 54, 3) := by decide +kernel
theorem dX3_turn_214 : decode cX3_turn 214 = .ok (.aload_n 0, 1) := by decide +kernel
theorem dX3_turn_215 : decode cX3_turn 215 = .ok (.getfield 94, 3) := by decide +kernel
theorem dX3_turn_218 : decode cX3_turn 218 = .ok (.if_icmp .ge 12, 3) := by decide +kernel
theorem dX3_turn_221 : decode cX3_turn 221 = .ok (.aload_n 0, 1) := by decide +kernel
theorem dX3_turn_222 : decode cX3_turn 222 = .ok (.getfield 54, 3) := by decide +kernel
theorem dX3_turn_225 : decode cX3_turn 225 = .ok (.iconst 1, 1) := by decide +kernel
theorem dX3_turn_226 : decode cX3_turn 226 = .ok (.iadd, 1) := by decide +kernel
theorem dX3_turn_227 : decode cX3_turn 227 = .ok (.goto 7, 3) := by decide +kernel
theorem dX3_turn_230 : decode cX3_turn 230 = .ok (.aload_n 0, 1) := by decide +kernel
theorem dX3_turn_231 : decode cX3_turn 231 = .ok (.getfield 94, 3) := by decide +kernel
theorem dX3_turn_234 : decode cX3_turn 234 = .ok (.putfield 54, 3) := by decide +kernel
theorem dX3_turn_237 : decode cX3_turn 237 = .ok (.return_, 1) := by decide +kernel
theorem dX3_tally_0 : decode cX3_tally 0 = .ok (.aload_n 0, 1) := by decide +kernel
theorem dX3_tally_1 : decode cX3_tally 1 = .ok (.getfield 41, 3) := by decide +kernel
theorem dX3_tally_4 : decode cX3_tally 4 = .ok (.iload_n 1, 1) := by decide +kernel
theorem dX3_tally_5 : decode cX3_tally 5 = .ok (.aload_n 0, 1) := by decide +kernel
theorem dX3_tally_6 : decode cX3_tally 6 = .ok (.getfield 41, 3) := by decide +kernel
theorem dX3_tally_9 : decode cX3_tally 9 = .ok (.iload_n 1, 1) := by decide +kernel
theorem dX3_tally_10 : decode cX3_tally 10 = .ok (.iaload, 1) := by decide +kernel
theorem dX3_tally_11 : decode cX3_tally 11 = .ok (.iconst 1, 1) := by decide +kernel
theorem dX3_tally_12 : decode cX3_tally 12 = .ok (.iadd, 1) := by decide +kernel
theorem dX3_tally_13 : decode cX3_tally 13 = .ok (.iastore, 1) := by decide +kernel
theorem dX3_tally_14 : decode cX3_tally 14 = .ok (.return_, 1) := by decide +kernel
theorem dX3_givesUp_0 : decode cX3_givesUp 0 = .ok (.iconst 0, 1) := by decide +kernel
theorem dX3_givesUp_1 : decode cX3_givesUp 1 = .ok (.istore_n 2, 1) := by decide +kernel
theorem dX3_givesUp_2 : decode cX3_givesUp 2 = .ok (.iload_n 2, 1) := by decide +kernel
theorem dX3_givesUp_3 : decode cX3_givesUp 3 = .ok (.aload_n 0, 1) := by decide +kernel
theorem dX3_givesUp_4 : decode cX3_givesUp 4 = .ok (.getfield 7, 3) := by decide +kernel
theorem dX3_givesUp_7 : decode cX3_givesUp 7 = .ok (.if_icmp .ge 71, 3) := by decide +kernel
theorem dX3_givesUp_10 : decode cX3_givesUp 10 = .ok (.iconst 1, 1) := by decide +kernel
theorem dX3_givesUp_11 : decode cX3_givesUp 11 = .ok (.istore_n 3, 1) := by decide +kernel
theorem dX3_givesUp_12 : decode cX3_givesUp 12 = .ok (.iconst 0, 1) := by decide +kernel
theorem dX3_givesUp_13 : decode cX3_givesUp 13 = .ok (.istore 4, 2) := by decide +kernel
theorem dX3_givesUp_15 : decode cX3_givesUp 15 = .ok (.iload 4, 2) := by decide +kernel
theorem dX3_givesUp_17 : decode cX3_givesUp 17 = .ok (.aload_n 0, 1) := by decide +kernel
theorem dX3_givesUp_18 : decode cX3_givesUp 18 = .ok (.getfield 7, 3) := by decide +kernel
theorem dX3_givesUp_21 : decode cX3_givesUp 21 = .ok (.if_icmp .ge 45, 3) := by decide +kernel
theorem dX3_givesUp_24 : decode cX3_givesUp 24 = .ok (.iload_n 3, 1) := by decide +kernel
theorem dX3_givesUp_25 : decode cX3_givesUp 25 = .ok (.ifCond .eq 33, 3) := by decide +kernel
theorem dX3_givesUp_28 : decode cX3_givesUp 28 = .ok (.aload_n 0, 1) := by decide +kernel
theorem dX3_givesUp_29 : decode cX3_givesUp 29 = .ok (.iload_n 2, 1) := by decide +kernel
theorem dX3_givesUp_30 : decode cX3_givesUp 30 = .ok (.iload 4, 2) := by decide +kernel
theorem dX3_givesUp_32 : decode cX3_givesUp 32 = .ok (.invokevirtual 64, 3) := by decide +kernel
theorem dX3_givesUp_35 : decode cX3_givesUp 35 = .ok (.ifCond .eq 19, 3) := by decide +kernel
theorem dX3_givesUp_38 : decode cX3_givesUp 38 = .ok (.aload_n 0, 1) := by decide +kernel
theorem dX3_givesUp_39 : decode cX3_givesUp 39 = .ok (.getfield 29, 3) := by decide +kernel
theorem dX3_givesUp_42 : decode cX3_givesUp 42 = .ok (.bipush 16, 2) := by decide +kernel
theorem dX3_givesUp_44 : decode cX3_givesUp 44 = .ok (.iload_n 2, 1) := by decide +kernel
theorem dX3_givesUp_45 : decode cX3_givesUp 45 = .ok (.imul, 1) := by decide +kernel
theorem dX3_givesUp_46 : decode cX3_givesUp 46 = .ok (.iload 4, 2) := by decide +kernel
theorem dX3_givesUp_48 : decode cX3_givesUp 48 = .ok (.iadd, 1) := by decide +kernel
theorem dX3_givesUp_49 : decode cX3_givesUp 49 = .ok (.iaload, 1) := by decide +kernel
theorem dX3_givesUp_50 : decode cX3_givesUp 50 = .ok (.iload_n 1, 1) := by decide +kernel
theorem dX3_givesUp_51 : decode cX3_givesUp 51 = .ok (.if_icmp .lt 7, 3) := by decide +kernel
theorem dX3_givesUp_54 : decode cX3_givesUp 54 = .ok (.iconst 1, 1) := by decide +kernel
theorem dX3_givesUp_55 : decode cX3_givesUp 55 = .ok (.goto 4, 3) := by decide +kernel
theorem dX3_givesUp_58 : decode cX3_givesUp 58 = .ok (.iconst 0, 1) := by decide +kernel
theorem dX3_givesUp_59 : decode cX3_givesUp 59 = .ok (.istore_n 3, 1) := by decide +kernel
theorem dX3_givesUp_60 : decode cX3_givesUp 60 = .ok (.iinc 4 1, 3) := by decide +kernel
theorem dX3_givesUp_63 : decode cX3_givesUp 63 = .ok (.goto (-48), 3) := by decide +kernel
theorem dX3_givesUp_66 : decode cX3_givesUp 66 = .ok (.iload_n 3, 1) := by decide +kernel
theorem dX3_givesUp_67 : decode cX3_givesUp 67 = .ok (.ifCond .eq 5, 3) := by decide +kernel
theorem dX3_givesUp_70 : decode cX3_givesUp 70 = .ok (.iconst 1, 1) := by decide +kernel
theorem dX3_givesUp_71 : decode cX3_givesUp 71 = .ok (.ireturn, 1) := by decide +kernel
theorem dX3_givesUp_72 : decode cX3_givesUp 72 = .ok (.iinc 2 1, 3) := by decide +kernel
theorem dX3_givesUp_75 : decode cX3_givesUp 75 = .ok (.goto (-73), 3) := by decide +kernel
theorem dX3_givesUp_78 : decode cX3_givesUp 78 = .ok (.iconst 0, 1) := by decide +kernel
theorem dX3_givesUp_79 : decode cX3_givesUp 79 = .ok (.ireturn, 1) := by decide +kernel
theorem dX3_scan_0 : decode cX3_scan 0 = .ok (.aload_n 0, 1) := by decide +kernel
theorem dX3_scan_1 : decode cX3_scan 1 = .ok (.iload_n 1, 1) := by decide +kernel
theorem dX3_scan_2 : decode cX3_scan 2 = .ok (.iconst 1, 1) := by decide +kernel
theorem dX3_scan_3 : decode cX3_scan 3 = .ok (.bipush 12, 2) := by decide +kernel
theorem dX3_scan_5 : decode cX3_scan 5 = .ok (.invokestatic 47, 3) := by decide +kernel
theorem dX3_scan_8 : decode cX3_scan 8 = .ok (.ifCond .ne 7, 3) := by decide +kernel
theorem dX3_scan_11 : decode cX3_scan 11 = .ok (.iconst 1, 1) := by decide +kernel
theorem dX3_scan_12 : decode cX3_scan 12 = .ok (.goto 19, 3) := by decide +kernel
theorem dX3_scan_15 : decode cX3_scan 15 = .ok (.aload_n 0, 1) := by decide +kernel
theorem dX3_scan_16 : decode cX3_scan 16 = .ok (.getfield 109, 3) := by decide +kernel
theorem dX3_scan_19 : decode cX3_scan 19 = .ok (.aload_n 0, 1) := by decide +kernel
theorem dX3_scan_20 : decode cX3_scan 20 = .ok (.getfield 7, 3) := by decide +kernel
theorem dX3_scan_23 : decode cX3_scan 23 = .ok (.if_icmp .ge 7, 3) := by decide +kernel
theorem dX3_scan_26 : decode cX3_scan 26 = .ok (.iconst 2, 1) := by decide +kernel
theorem dX3_scan_27 : decode cX3_scan 27 = .ok (.goto 4, 3) := by decide +kernel
theorem dX3_scan_30 : decode cX3_scan 30 = .ok (.iconst 0, 1) := by decide +kernel
theorem dX3_scan_31 : decode cX3_scan 31 = .ok (.putfield 44, 3) := by decide +kernel
theorem dX3_scan_34 : decode cX3_scan 34 = .ok (.aload_n 0, 1) := by decide +kernel
theorem dX3_scan_35 : decode cX3_scan 35 = .ok (.getfield 44, 3) := by decide +kernel
theorem dX3_scan_38 : decode cX3_scan 38 = .ok (.ifCond .le 5, 3) := by decide +kernel
theorem dX3_scan_41 : decode cX3_scan 41 = .ok (.iconst 0, 1) := by decide +kernel
theorem dX3_scan_42 : decode cX3_scan 42 = .ok (.ireturn, 1) := by decide +kernel
theorem dX3_scan_43 : decode cX3_scan 43 = .ok (.aload_n 0, 1) := by decide +kernel
theorem dX3_scan_44 : decode cX3_scan 44 = .ok (.iload_n 1, 1) := by decide +kernel
theorem dX3_scan_45 : decode cX3_scan 45 = .ok (.invokevirtual 103, 3) := by decide +kernel
theorem dX3_scan_48 : decode cX3_scan 48 = .ok (.iconst 0, 1) := by decide +kernel
theorem dX3_scan_49 : decode cX3_scan 49 = .ok (.istore_n 2, 1) := by decide +kernel
theorem dX3_scan_50 : decode cX3_scan 50 = .ok (.iload_n 2, 1) := by decide +kernel
theorem dX3_scan_51 : decode cX3_scan 51 = .ok (.aload_n 0, 1) := by decide +kernel
theorem dX3_scan_52 : decode cX3_scan 52 = .ok (.getfield 7, 3) := by decide +kernel
theorem dX3_scan_55 : decode cX3_scan 55 = .ok (.iadd, 1) := by decide +kernel
theorem dX3_scan_56 : decode cX3_scan 56 = .ok (.aload_n 0, 1) := by decide +kernel
theorem dX3_scan_57 : decode cX3_scan 57 = .ok (.getfield 109, 3) := by decide +kernel
theorem dX3_scan_60 : decode cX3_scan 60 = .ok (.if_icmp .gt 19, 3) := by decide +kernel
theorem dX3_scan_63 : decode cX3_scan 63 = .ok (.aload_n 0, 1) := by decide +kernel
theorem dX3_scan_64 : decode cX3_scan 64 = .ok (.iload_n 2, 1) := by decide +kernel
theorem dX3_scan_65 : decode cX3_scan 65 = .ok (.invokevirtual 112, 3) := by decide +kernel
theorem dX3_scan_68 : decode cX3_scan 68 = .ok (.aload_n 0, 1) := by decide +kernel
theorem dX3_scan_69 : decode cX3_scan 69 = .ok (.iload_n 2, 1) := by decide +kernel
theorem dX3_scan_70 : decode cX3_scan 70 = .ok (.invokevirtual 106, 3) := by decide +kernel
theorem dX3_scan_73 : decode cX3_scan 73 = .ok (.iinc 2 1, 3) := by decide +kernel
theorem dX3_scan_76 : decode cX3_scan 76 = .ok (.goto (-26), 3) := by decide +kernel
theorem dX3_scan_79 : decode cX3_scan 79 = .ok (.aload_n 0, 1) := by decide +kernel
theorem dX3_scan_80 : decode cX3_scan 80 = .ok (.getfield 54, 3) := by decide +kernel
theorem dX3_scan_83 : decode cX3_scan 83 = .ok (.ireturn, 1) := by decide +kernel
theorem dX3_takeWindow_0 : decode cX3_takeWindow 0 = .ok (.iconst 0, 1) := by decide +kernel
theorem dX3_takeWindow_1 : decode cX3_takeWindow 1 = .ok (.istore_n 2, 1) := by decide +kernel
theorem dX3_takeWindow_2 : decode cX3_takeWindow 2 = .ok (.iload_n 2, 1) := by decide +kernel
theorem dX3_takeWindow_3 : decode cX3_takeWindow 3 = .ok (.aload_n 0, 1) := by decide +kernel
theorem dX3_takeWindow_4 : decode cX3_takeWindow 4 = .ok (.getfield 7, 3) := by decide +kernel
theorem dX3_takeWindow_7 : decode cX3_takeWindow 7 = .ok (.if_icmp .ge 23, 3) := by decide +kernel
theorem dX3_takeWindow_10 : decode cX3_takeWindow 10 = .ok (.aload_n 0, 1) := by decide +kernel
theorem dX3_takeWindow_11 : decode cX3_takeWindow 11 = .ok (.getfield 26, 3) := by decide +kernel
theorem dX3_takeWindow_14 : decode cX3_takeWindow 14 = .ok (.iload_n 2, 1) := by decide +kernel
theorem dX3_takeWindow_15 : decode cX3_takeWindow 15 = .ok (.aload_n 0, 1) := by decide +kernel
theorem dX3_takeWindow_16 : decode cX3_takeWindow 16 = .ok (.getfield 23, 3) := by decide +kernel
theorem dX3_takeWindow_19 : decode cX3_takeWindow 19 = .ok (.iload_n 1, 1) := by decide +kernel
theorem dX3_takeWindow_20 : decode cX3_takeWindow 20 = .ok (.iload_n 2, 1) := by decide +kernel
theorem dX3_takeWindow_21 : decode cX3_takeWindow 21 = .ok (.iadd, 1) := by decide +kernel
theorem dX3_takeWindow_22 : decode cX3_takeWindow 22 = .ok (.iaload, 1) := by decide +kernel
theorem dX3_takeWindow_23 : decode cX3_takeWindow 23 = .ok (.iastore, 1) := by decide +kernel
theorem dX3_takeWindow_24 : decode cX3_takeWindow 24 = .ok (.iinc 2 1, 3) := by decide +kernel
theorem dX3_takeWindow_27 : decode cX3_takeWindow 27 = .ok (.goto (-25), 3) := by decide +kernel
theorem dX3_takeWindow_30 : decode cX3_takeWindow 30 = .ok (.return_, 1) := by decide +kernel
theorem dX3_found_0 : decode cX3_found 0 = .ok (.aload_n 0, 1) := by decide +kernel
theorem dX3_found_1 : decode cX3_found 1 = .ok (.iload_n 1, 1) := by decide +kernel
theorem dX3_found_2 : decode cX3_found 2 = .ok (.iconst 0, 1) := by decide +kernel
theorem dX3_found_3 : decode cX3_found 3 = .ok (.aload_n 0, 1) := by decide +kernel
theorem dX3_found_4 : decode cX3_found 4 = .ok (.getfield 54, 3) := by decide +kernel
theorem dX3_found_7 : decode cX3_found 7 = .ok (.iconst 1, 1) := by decide +kernel
theorem dX3_found_8 : decode cX3_found 8 = .ok (.isub, 1) := by decide +kernel
theorem dX3_found_9 : decode cX3_found 9 = .ok (.invokestatic 47, 3) := by decide +kernel
theorem dX3_found_12 : decode cX3_found 12 = .ok (.ifCond .eq 7, 3) := by decide +kernel
theorem dX3_found_15 : decode cX3_found 15 = .ok (.iconst 0, 1) := by decide +kernel
theorem dX3_found_16 : decode cX3_found 16 = .ok (.goto 4, 3) := by decide +kernel
theorem dX3_found_19 : decode cX3_found 19 = .ok (.iconst 1, 1) := by decide +kernel
theorem dX3_found_20 : decode cX3_found 20 = .ok (.putfield 44, 3) := by decide +kernel
theorem dX3_found_23 : decode cX3_found 23 = .ok (.aload_n 0, 1) := by decide +kernel
theorem dX3_found_24 : decode cX3_found 24 = .ok (.getfield 44, 3) := by decide +kernel
theorem dX3_found_27 : decode cX3_found 27 = .ok (.ifCond .le 7, 3) := by decide +kernel
theorem dX3_found_30 : decode cX3_found 30 = .ok (.iconst 0, 1) := by decide +kernel
theorem dX3_found_31 : decode cX3_found 31 = .ok (.goto 22, 3) := by decide +kernel
theorem dX3_found_34 : decode cX3_found 34 = .ok (.iload_n 2, 1) := by decide +kernel
theorem dX3_found_35 : decode cX3_found 35 = .ok (.ifCond .eq 12, 3) := by decide +kernel
theorem dX3_found_38 : decode cX3_found 38 = .ok (.aload_n 0, 1) := by decide +kernel
theorem dX3_found_39 : decode cX3_found 39 = .ok (.getfield 38, 3) := by decide +kernel
theorem dX3_found_42 : decode cX3_found 42 = .ok (.iload_n 1, 1) := by decide +kernel
theorem dX3_found_43 : decode cX3_found 43 = .ok (.iaload, 1) := by decide +kernel
theorem dX3_found_44 : decode cX3_found 44 = .ok (.goto 9, 3) := by decide +kernel
theorem dX3_found_47 : decode cX3_found 47 = .ok (.aload_n 0, 1) := by decide +kernel
theorem dX3_found_48 : decode cX3_found 48 = .ok (.getfield 35, 3) := by decide +kernel
theorem dX3_found_51 : decode cX3_found 51 = .ok (.iload_n 1, 1) := by decide +kernel
theorem dX3_found_52 : decode cX3_found 52 = .ok (.iaload, 1) := by decide +kernel
theorem dX3_found_53 : decode cX3_found 53 = .ok (.ireturn, 1) := by decide +kernel
theorem dX3_guess_0 : decode cX3_guess 0 = .ok (.aload_n 0, 1) := by decide +kernel
theorem dX3_guess_1 : decode cX3_guess 1 = .ok (.iload_n 1, 1) := by decide +kernel
theorem dX3_guess_2 : decode cX3_guess 2 = .ok (.invokevirtual 115, 3) := by decide +kernel
theorem dX3_guess_5 : decode cX3_guess 5 = .ok (.istore_n 2, 1) := by decide +kernel
theorem dX3_guess_6 : decode cX3_guess 6 = .ok (.iconst 0, 1) := by decide +kernel
theorem dX3_guess_7 : decode cX3_guess 7 = .ok (.istore_n 3, 1) := by decide +kernel
theorem dX3_guess_8 : decode cX3_guess 8 = .ok (.iconst 0, 1) := by decide +kernel
theorem dX3_guess_9 : decode cX3_guess 9 = .ok (.istore 4, 2) := by decide +kernel
theorem dX3_guess_11 : decode cX3_guess 11 = .ok (.iconst 0, 1) := by decide +kernel
theorem dX3_guess_12 : decode cX3_guess 12 = .ok (.istore 5, 2) := by decide +kernel
theorem dX3_guess_14 : decode cX3_guess 14 = .ok (.iload 5, 2) := by decide +kernel
theorem dX3_guess_16 : decode cX3_guess 16 = .ok (.iload_n 2, 1) := by decide +kernel
theorem dX3_guess_17 : decode cX3_guess 17 = .ok (.if_icmp .ge 112, 3) := by decide +kernel
theorem dX3_guess_20 : decode cX3_guess 20 = .ok (.aload_n 0, 1) := by decide +kernel
theorem dX3_guess_21 : decode cX3_guess 21 = .ok (.getfield 44, 3) := by decide +kernel
theorem dX3_guess_24 : decode cX3_guess 24 = .ok (.ifCond .ne 105, 3) := by decide +kernel
theorem dX3_guess_27 : decode cX3_guess 27 = .ok (.iconst 0, 1) := by decide +kernel
theorem dX3_guess_28 : decode cX3_guess 28 = .ok (.istore 6, 2) := by decide +kernel
theorem dX3_guess_30 : decode cX3_guess 30 = .ok (.iconst 0, 1) := by decide +kernel
theorem dX3_guess_31 : decode cX3_guess 31 = .ok (.istore 7, 2) := by decide +kernel
theorem dX3_guess_33 : decode cX3_guess 33 = .ok (.iload 7, 2) := by decide +kernel
theorem dX3_guess_35 : decode cX3_guess 35 = .ok (.iload_n 2, 1) := by decide +kernel
theorem dX3_guess_36 : decode cX3_guess 36 = .ok (.if_icmp .ge 47, 3) := by decide +kernel
theorem dX3_guess_39 : decode cX3_guess 39 = .ok (.aload_n 0, 1) := by decide +kernel
theorem dX3_guess_40 : decode cX3_guess 40 = .ok (.getfield 20, 3) := by decide +kernel
theorem dX3_guess_43 : decode cX3_guess 43 = .ok (.aload_n 0, 1) := by decide +kernel
theorem dX3_guess_44 : decode cX3_guess 44 = .ok (.getfield 35, 3) := by decide +kernel
theorem dX3_guess_47 : decode cX3_guess 47 = .ok (.iload 7, 2) := by decide +kernel
theorem dX3_guess_49 : decode cX3_guess 49 = .ok (.iaload, 1) := by decide +kernel
theorem dX3_guess_50 : decode cX3_guess 50 = .ok (.iaload, 1) := by decide +kernel
theorem dX3_guess_51 : decode cX3_guess 51 = .ok (.aload_n 0, 1) := by decide +kernel
theorem dX3_guess_52 : decode cX3_guess 52 = .ok (.getfield 20, 3) := by decide +kernel
theorem dX3_guess_55 : decode cX3_guess 55 = .ok (.aload_n 0, 1) := by decide +kernel
theorem dX3_guess_56 : decode cX3_guess 56 = .ok (.getfield 35, 3) := by decide +kernel
theorem dX3_guess_59 : decode cX3_guess 59 = .ok (.iload 5, 2) := by decide +kernel
theorem dX3_guess_61 : decode cX3_guess 61 = .ok (.iaload, 1) := by decide +kernel
theorem dX3_guess_62 : decode cX3_guess 62 = .ok (.iaload, 1) := by decide +kernel
theorem dX3_guess_63 : decode cX3_guess 63 = .ok (.if_icmp .ne 10, 3) := by decide +kernel
theorem dX3_guess_66 : decode cX3_guess 66 = .ok (.iload 6, 2) := by decide +kernel
theorem dX3_guess_68 : decode cX3_guess 68 = .ok (.iconst 1, 1) := by decide +kernel
theorem dX3_guess_69 : decode cX3_guess 69 = .ok (.iadd, 1) := by decide +kernel
theorem dX3_guess_70 : decode cX3_guess 70 = .ok (.goto 5, 3) := by decide +kernel
theorem dX3_guess_73 : decode cX3_guess 73 = .ok (.iload 6, 2) := by decide +kernel
theorem dX3_guess_75 : decode cX3_guess 75 = .ok (.istore 6, 2) := by decide +kernel
theorem dX3_guess_77 : decode cX3_guess 77 = .ok (.iinc 7 1, 3) := by decide +kernel
theorem dX3_guess_80 : decode cX3_guess 80 = .ok (.goto (-47), 3) := by decide +kernel
theorem dX3_guess_83 : decode cX3_guess 83 = .ok (.iload 6, 2) := by decide +kernel
theorem dX3_guess_85 : decode cX3_guess 85 = .ok (.iload 4, 2) := by decide +kernel
theorem dX3_guess_87 : decode cX3_guess 87 = .ok (.if_icmp .le 18, 3) := by decide +kernel
theorem dX3_guess_90 : decode cX3_guess 90 = .ok (.aload_n 0, 1) := by decide +kernel
theorem dX3_guess_91 : decode cX3_guess 91 = .ok (.getfield 20, 3) := by decide +kernel
theorem dX3_guess_94 : decode cX3_guess 94 = .ok (.aload_n 0, 1) := by decide +kernel
theorem dX3_guess_95 : decode cX3_guess 95 = .ok (.getfield 35, 3) := by decide +kernel
theorem dX3_guess_98 : decode cX3_guess 98 = .ok (.iload 5, 2) := by decide +kernel
theorem dX3_guess_100 : decode cX3_guess 100 = .ok (.iaload, 1) := by decide +kernel
theorem dX3_guess_101 : decode cX3_guess 101 = .ok (.iaload, 1) := by decide +kernel
theorem dX3_guess_102 : decode cX3_guess 102 = .ok (.goto 4, 3) := by decide +kernel
theorem dX3_guess_105 : decode cX3_guess 105 = .ok (.iload_n 3, 1) := by decide +kernel
theorem dX3_guess_106 : decode cX3_guess 106 = .ok (.istore_n 3, 1) := by decide +kernel
theorem dX3_guess_107 : decode cX3_guess 107 = .ok (.iload 6, 2) := by decide +kernel
theorem dX3_guess_109 : decode cX3_guess 109 = .ok (.iload 4, 2) := by decide +kernel
theorem dX3_guess_111 : decode cX3_guess 111 = .ok (.if_icmp .le 8, 3) := by decide +kernel
theorem dX3_guess_114 : decode cX3_guess 114 = .ok (.iload 6, 2) := by decide +kernel
theorem dX3_guess_116 : decode cX3_guess 116 = .ok (.goto 5, 3) := by decide +kernel
theorem dX3_guess_119 : decode cX3_guess 119 = .ok (.iload 4, 2) := by decide +kernel
theorem dX3_guess_121 : decode cX3_guess 121 = .ok (.istore 4, 2) := by decide +kernel
theorem dX3_guess_123 : decode cX3_guess 123 = .ok (.iinc 5 1, 3) := by decide +kernel
theorem dX3_guess_126 : decode cX3_guess 126 = .ok (.goto (-112), 3) := by decide +kernel
theorem dX3_guess_129 : decode cX3_guess 129 = .ok (.iload_n 3, 1) := by decide +kernel
theorem dX3_guess_130 : decode cX3_guess 130 = .ok (.ireturn, 1) := by decide +kernel
theorem dX3_count_0 : decode cX3_count 0 = .ok (.aload_n 0, 1) := by decide +kernel
theorem dX3_count_1 : decode cX3_count 1 = .ok (.iload_n 1, 1) := by decide +kernel
theorem dX3_count_2 : decode cX3_count 2 = .ok (.iconst 0, 1) := by decide +kernel
theorem dX3_count_3 : decode cX3_count 3 = .ok (.iconst 4, 1) := by decide +kernel
theorem dX3_count_4 : decode cX3_count 4 = .ok (.invokestatic 47, 3) := by decide +kernel
theorem dX3_count_7 : decode cX3_count 7 = .ok (.ifCond .eq 7, 3) := by decide +kernel
theorem dX3_count_10 : decode cX3_count 10 = .ok (.iconst 0, 1) := by decide +kernel
theorem dX3_count_11 : decode cX3_count 11 = .ok (.goto 4, 3) := by decide +kernel
theorem dX3_count_14 : decode cX3_count 14 = .ok (.iconst 1, 1) := by decide +kernel
theorem dX3_count_15 : decode cX3_count 15 = .ok (.putfield 44, 3) := by decide +kernel
theorem dX3_count_18 : decode cX3_count 18 = .ok (.aload_n 0, 1) := by decide +kernel
theorem dX3_count_19 : decode cX3_count 19 = .ok (.getfield 44, 3) := by decide +kernel
theorem dX3_count_22 : decode cX3_count 22 = .ok (.ifCond .le 7, 3) := by decide +kernel
theorem dX3_count_25 : decode cX3_count 25 = .ok (.iconst 0, 1) := by decide +kernel
theorem dX3_count_26 : decode cX3_count 26 = .ok (.goto 9, 3) := by decide +kernel
theorem dX3_count_29 : decode cX3_count 29 = .ok (.aload_n 0, 1) := by decide +kernel
theorem dX3_count_30 : decode cX3_count 30 = .ok (.getfield 41, 3) := by decide +kernel
theorem dX3_count_33 : decode cX3_count 33 = .ok (.iload_n 1, 1) := by decide +kernel
theorem dX3_count_34 : decode cX3_count 34 = .ok (.iaload, 1) := by decide +kernel
theorem dX3_count_35 : decode cX3_count 35 = .ok (.ireturn, 1) := by decide +kernel
theorem dX3_push_0 : decode cX3_push 0 = .ok (.aload_n 0, 1) := by decide +kernel
theorem dX3_push_1 : decode cX3_push 1 = .ok (.iload_n 1, 1) := by decide +kernel
theorem dX3_push_2 : decode cX3_push 2 = .ok (.sipush (-1000), 3) := by decide +kernel
theorem dX3_push_5 : decode cX3_push 5 = .ok (.sipush 1000, 3) := by decide +kernel
theorem dX3_push_8 : decode cX3_push 8 = .ok (.invokestatic 47, 3) := by decide +kernel
theorem dX3_push_11 : decode cX3_push 11 = .ok (.ifCond .ne 7, 3) := by decide +kernel
theorem dX3_push_14 : decode cX3_push 14 = .ok (.iconst 1, 1) := by decide +kernel
theorem dX3_push_15 : decode cX3_push 15 = .ok (.goto 17, 3) := by decide +kernel
theorem dX3_push_18 : decode cX3_push 18 = .ok (.aload_n 0, 1) := by decide +kernel
theorem dX3_push_19 : decode cX3_push 19 = .ok (.getfield 109, 3) := by decide +kernel
theorem dX3_push_22 : decode cX3_push 22 = .ok (.bipush 64, 2) := by decide +kernel
theorem dX3_push_24 : decode cX3_push 24 = .ok (.if_icmp .ne 7, 3) := by decide +kernel
theorem dX3_push_27 : decode cX3_push 27 = .ok (.iconst 2, 1) := by decide +kernel
theorem dX3_push_28 : decode cX3_push 28 = .ok (.goto 4, 3) := by decide +kernel
theorem dX3_push_31 : decode cX3_push 31 = .ok (.iconst 0, 1) := by decide +kernel
theorem dX3_push_32 : decode cX3_push 32 = .ok (.putfield 44, 3) := by decide +kernel
theorem dX3_push_35 : decode cX3_push 35 = .ok (.aload_n 0, 1) := by decide +kernel
theorem dX3_push_36 : decode cX3_push 36 = .ok (.getfield 44, 3) := by decide +kernel
theorem dX3_push_39 : decode cX3_push 39 = .ok (.ifCond .le 5, 3) := by decide +kernel
theorem dX3_push_42 : decode cX3_push 42 = .ok (.iconst 0, 1) := by decide +kernel
theorem dX3_push_43 : decode cX3_push 43 = .ok (.ireturn, 1) := by decide +kernel
theorem dX3_push_44 : decode cX3_push 44 = .ok (.aload_n 0, 1) := by decide +kernel
theorem dX3_push_45 : decode cX3_push 45 = .ok (.getfield 23, 3) := by decide +kernel
theorem dX3_push_48 : decode cX3_push 48 = .ok (.aload_n 0, 1) := by decide +kernel
theorem dX3_push_49 : decode cX3_push 49 = .ok (.getfield 109, 3) := by decide +kernel
theorem dX3_push_52 : decode cX3_push 52 = .ok (.iload_n 1, 1) := by decide +kernel
theorem dX3_push_53 : decode cX3_push 53 = .ok (.iastore, 1) := by decide +kernel
theorem dX3_push_54 : decode cX3_push 54 = .ok (.aload_n 0, 1) := by decide +kernel
theorem dX3_push_55 : decode cX3_push 55 = .ok (.dup, 1) := by decide +kernel
theorem dX3_push_56 : decode cX3_push 56 = .ok (.getfield 109, 3) := by decide +kernel
theorem dX3_push_59 : decode cX3_push 59 = .ok (.iconst 1, 1) := by decide +kernel
theorem dX3_push_60 : decode cX3_push 60 = .ok (.iadd, 1) := by decide +kernel
theorem dX3_push_61 : decode cX3_push 61 = .ok (.putfield 109, 3) := by decide +kernel
theorem dX3_push_64 : decode cX3_push 64 = .ok (.aload_n 0, 1) := by decide +kernel
theorem dX3_push_65 : decode cX3_push 65 = .ok (.getfield 109, 3) := by decide +kernel
theorem dX3_push_68 : decode cX3_push 68 = .ok (.ireturn, 1) := by decide +kernel
theorem dX3_shift_0 : decode cX3_shift 0 = .ok (.aload_n 0, 1) := by decide +kernel
theorem dX3_shift_1 : decode cX3_shift 1 = .ok (.iload_n 1, 1) := by decide +kernel
theorem dX3_shift_2 : decode cX3_shift 2 = .ok (.iconst 0, 1) := by decide +kernel
theorem dX3_shift_3 : decode cX3_shift 3 = .ok (.aload_n 0, 1) := by decide +kernel
theorem dX3_shift_4 : decode cX3_shift 4 = .ok (.getfield 109, 3) := by decide +kernel
theorem dX3_shift_7 : decode cX3_shift 7 = .ok (.invokestatic 47, 3) := by decide +kernel
theorem dX3_shift_10 : decode cX3_shift 10 = .ok (.ifCond .eq 7, 3) := by decide +kernel
theorem dX3_shift_13 : decode cX3_shift 13 = .ok (.iconst 0, 1) := by decide +kernel
theorem dX3_shift_14 : decode cX3_shift 14 = .ok (.goto 4, 3) := by decide +kernel
theorem dX3_shift_17 : decode cX3_shift 17 = .ok (.iconst 1, 1) := by decide +kernel
theorem dX3_shift_18 : decode cX3_shift 18 = .ok (.putfield 44, 3) := by decide +kernel
theorem dX3_shift_21 : decode cX3_shift 21 = .ok (.aload_n 0, 1) := by decide +kernel
theorem dX3_shift_22 : decode cX3_shift 22 = .ok (.getfield 44, 3) := by decide +kernel
theorem dX3_shift_25 : decode cX3_shift 25 = .ok (.ifCond .ne 43, 3) := by decide +kernel
theorem dX3_shift_28 : decode cX3_shift 28 = .ok (.aload_n 0, 1) := by decide +kernel
theorem dX3_shift_29 : decode cX3_shift 29 = .ok (.aload_n 0, 1) := by decide +kernel
theorem dX3_shift_30 : decode cX3_shift 30 = .ok (.getfield 109, 3) := by decide +kernel
theorem dX3_shift_33 : decode cX3_shift 33 = .ok (.iload_n 1, 1) := by decide +kernel
theorem dX3_shift_34 : decode cX3_shift 34 = .ok (.isub, 1) := by decide +kernel
theorem dX3_shift_35 : decode cX3_shift 35 = .ok (.putfield 109, 3) := by decide +kernel
theorem dX3_shift_38 : decode cX3_shift 38 = .ok (.iconst 0, 1) := by decide +kernel
theorem dX3_shift_39 : decode cX3_shift 39 = .ok (.istore_n 2, 1) := by decide +kernel
theorem dX3_shift_40 : decode cX3_shift 40 = .ok (.iload_n 2, 1) := by decide +kernel
theorem dX3_shift_41 : decode cX3_shift 41 = .ok (.aload_n 0, 1) := by decide +kernel
theorem dX3_shift_42 : decode cX3_shift 42 = .ok (.getfield 109, 3) := by decide +kernel
theorem dX3_shift_45 : decode cX3_shift 45 = .ok (.if_icmp .ge 23, 3) := by decide +kernel
theorem dX3_shift_48 : decode cX3_shift 48 = .ok (.aload_n 0, 1) := by decide +kernel
theorem dX3_shift_49 : decode cX3_shift 49 = .ok (.getfield 23, 3) := by decide +kernel
theorem dX3_shift_52 : decode cX3_shift 52 = .ok (.iload_n 2, 1) := by decide +kernel
theorem dX3_shift_53 : decode cX3_shift 53 = .ok (.aload_n 0, 1) := by decide +kernel
theorem dX3_shift_54 : decode cX3_shift 54 = .ok (.getfield 23, 3) := by decide +kernel
theorem dX3_shift_57 : decode cX3_shift 57 = .ok (.iload_n 2, 1) := by decide +kernel
theorem dX3_shift_58 : decode cX3_shift 58 = .ok (.iload_n 1, 1) := by decide +kernel
theorem dX3_shift_59 : decode cX3_shift 59 = .ok (.iadd, 1) := by decide +kernel
theorem dX3_shift_60 : decode cX3_shift 60 = .ok (.iaload, 1) := by decide +kernel
theorem dX3_shift_61 : decode cX3_shift 61 = .ok (.iastore, 1) := by decide +kernel
theorem dX3_shift_62 : decode cX3_shift 62 = .ok (.iinc 2 1, 3) := by decide +kernel
theorem dX3_shift_65 : decode cX3_shift 65 = .ok (.goto (-25), 3) := by decide +kernel
theorem dX3_shift_68 : decode cX3_shift 68 = .ok (.return_, 1) := by decide +kernel
