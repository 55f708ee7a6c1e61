theorem dX2_init_0 : decode cX2_init 0 = .ok (.aload_n 0, 1) := by decide +kernel
theorem dX2_init_1 : decode cX2_init 1 = .ok (.invokespecial 3, 3) := by decide +kernel
theorem dX2_init_4 : decode cX2_init 4 = .ok (.aload_n 0, 1) := by decide +kernel
theorem dX2_init_5 : decode cX2_init 5 = .ok (.iconst 2, 1) := by decide +kernel
theorem dX2_init_6 : decode cX2_init 6 = .ok (.putfield 9, 3) := by decide +kernel
theorem dX2_init_9 : decode cX2_init 9 = .ok (.aload_n 0, 1) := by decide +kernel
theorem dX2_init_10 : decode cX2_init 10 = .ok (.iconst 0, 1) := by decide +kernel
theorem dX2_init_11 : decode cX2_init 11 = .ok (.putfield 13, 3) := by decide +kernel
theorem dX2_init_14 : decode cX2_init 14 = .ok (.aload_n 0, 1) := by decide +kernel
theorem dX2_init_15 : decode cX2_init 15 = .ok (.bipush 16, 2) := by decide +kernel
theorem dX2_init_17 : decode cX2_init 17 = .ok (.newarray .int, 2) := by decide +kernel
theorem dX2_init_19 : decode cX2_init 19 = .ok (.putfield 16, 3) := by decide +kernel
theorem dX2_init_22 : decode cX2_init 22 = .ok (.aload_n 0, 1) := by decide +kernel
theorem dX2_init_23 : decode cX2_init 23 = .ok (.sipush 192, 3) := by decide +kernel
theorem dX2_init_26 : decode cX2_init 26 = .ok (.newarray .int, 2) := by decide +kernel
theorem dX2_init_28 : decode cX2_init 28 = .ok (.putfield 20, 3) := by decide +kernel
theorem dX2_init_31 : decode cX2_init 31 = .ok (.aload_n 0, 1) := by decide +kernel
theorem dX2_init_32 : decode cX2_init 32 = .ok (.bipush 12, 2) := by decide +kernel
theorem dX2_init_34 : decode cX2_init 34 = .ok (.newarray .int, 2) := by decide +kernel
theorem dX2_init_36 : decode cX2_init 36 = .ok (.putfield 23, 3) := by decide +kernel
theorem dX2_init_39 : decode cX2_init 39 = .ok (.aload_n 0, 1) := by decide +kernel
theorem dX2_init_40 : decode cX2_init 40 = .ok (.iconst 0, 1) := by decide +kernel
theorem dX2_init_41 : decode cX2_init 41 = .ok (.putfield 26, 3) := by decide +kernel
theorem dX2_init_44 : decode cX2_init 44 = .ok (.aload_n 0, 1) := by decide +kernel
theorem dX2_init_45 : decode cX2_init 45 = .ok (.bipush 64, 2) := by decide +kernel
theorem dX2_init_47 : decode cX2_init 47 = .ok (.newarray .int, 2) := by decide +kernel
theorem dX2_init_49 : decode cX2_init 49 = .ok (.putfield 29, 3) := by decide +kernel
theorem dX2_init_52 : decode cX2_init 52 = .ok (.aload_n 0, 1) := by decide +kernel
theorem dX2_init_53 : decode cX2_init 53 = .ok (.iconst 0, 1) := by decide +kernel
theorem dX2_init_54 : decode cX2_init 54 = .ok (.putfield 32, 3) := by decide +kernel
theorem dX2_init_57 : decode cX2_init 57 = .ok (.aload_n 0, 1) := by decide +kernel
theorem dX2_init_58 : decode cX2_init 58 = .ok (.new 35, 3) := by decide +kernel
theorem dX2_init_61 : decode cX2_init 61 = .ok (.dup, 1) := by decide +kernel
theorem dX2_init_62 : decode cX2_init 62 = .ok (.invokespecial 37, 3) := by decide +kernel
theorem dX2_init_65 : decode cX2_init 65 = .ok (.putfield 38, 3) := by decide +kernel
theorem dX2_init_68 : decode cX2_init 68 = .ok (.aload_n 0, 1) := by decide +kernel
theorem dX2_init_69 : decode cX2_init 69 = .ok (.new 42, 3) := by decide +kernel
theorem dX2_init_72 : decode cX2_init 72 = .ok (.dup, 1) := by decide +kernel
theorem dX2_init_73 : decode cX2_init 73 = .ok (.invokespecial 44, 3) := by decide +kernel
theorem dX2_init_76 : decode cX2_init 76 = .ok (.putfield 45, 3) := by decide +kernel
theorem dX2_init_79 : decode cX2_init 79 = .ok (.aload_n 0, 1) := by decide +kernel
theorem dX2_init_80 : decode cX2_init 80 = .ok (.iconst 5, 1) := by decide +kernel
theorem dX2_init_81 : decode cX2_init 81 = .ok (.newarray .int, 2) := by decide +kernel
theorem dX2_init_83 : decode cX2_init 83 = .ok (.putfield 49, 3) := by decide +kernel
theorem dX2_init_86 : decode cX2_init 86 = .ok (.return_, 1) := by decide +kernel
theorem dX2_begin_0 : decode cX2_begin 0 = .ok (.iload_n 1, 1) := by decide +kernel
theorem dX2_begin_1 : decode cX2_begin 1 = .ok (.iconst 2, 1) := by decide +kernel
theorem dX2_begin_2 : decode cX2_begin 2 = .ok (.if_icmp .lt 9, 3) := by decide +kernel
theorem dX2_begin_5 : decode cX2_begin 5 = .ok (.iload_n 1, 1) := by decide +kernel
theorem dX2_begin_6 : decode cX2_begin 6 = .ok (.bipush 16, 2) := by decide +kernel
theorem dX2_begin_8 : decode cX2_begin 8 = .ok (.if_icmp .le 13, 3) := by decide +kernel
theorem dX2_begin_11 : decode cX2_begin 11 = .ok (.new 52, 3) := by decide +kernel
theorem dX2_begin_14 : decode cX2_begin 14 = .ok (.dup, 1) := by decide +kernel
theorem dX2_begin_15 : decode cX2_begin 15 = .ok (.ldc 54, 2) := by decide +kernel
theorem dX2_begin_17 : decode cX2_begin 17 = .ok (.invokespecial 56, 3) := by decide +kernel
theorem dX2_begin_20 : decode cX2_begin 20 = .ok (.athrow, 1) := by decide +kernel
theorem dX2_begin_21 : decode cX2_begin 21 = .ok (.aload_n 0, 1) := by decide +kernel
theorem dX2_begin_22 : decode cX2_begin 22 = .ok (.iload_n 1, 1) := by decide +kernel
theorem dX2_begin_23 : decode cX2_begin 23 = .ok (.putfield 9, 3) := by decide +kernel
theorem dX2_begin_26 : decode cX2_begin 26 = .ok (.aload_n 0, 1) := by decide +kernel
theorem dX2_begin_27 : decode cX2_begin 27 = .ok (.iconst 0, 1) := by decide +kernel
theorem dX2_begin_28 : decode cX2_begin 28 = .ok (.putfield 26, 3) := by decide +kernel
theorem dX2_begin_31 : decode cX2_begin 31 = .ok (.aload_n 0, 1) := by decide +kernel
theorem dX2_begin_32 : decode cX2_begin 32 = .ok (.getfield 16, 3) := by decide +kernel
theorem dX2_begin_35 : decode cX2_begin 35 = .ok (.iconst 0, 1) := by decide +kernel
theorem dX2_begin_36 : decode cX2_begin 36 = .ok (.invokestatic 59, 3) := by decide +kernel
theorem dX2_begin_39 : decode cX2_begin 39 = .ok (.aload_n 0, 1) := by decide +kernel
theorem dX2_begin_40 : decode cX2_begin 40 = .ok (.getfield 45, 3) := by decide +kernel
theorem dX2_begin_43 : decode cX2_begin 43 = .ok (.iconst 1, 1) := by decide +kernel
theorem dX2_begin_44 : decode cX2_begin 44 = .ok (.invokevirtual 65, 3) := by decide +kernel
theorem dX2_begin_47 : decode cX2_begin 47 = .ok (.return_, 1) := by decide +kernel
theorem dX2_ask_0 : decode cX2_ask 0 = .ok (.iload_n 1, 1) := by decide +kernel
theorem dX2_ask_1 : decode cX2_ask 1 = .ok (.ifCond .lt 11, 3) := by decide +kernel
theorem dX2_ask_4 : decode cX2_ask 4 = .ok (.iload_n 1, 1) := by decide +kernel
theorem dX2_ask_5 : decode cX2_ask 5 = .ok (.aload_n 0, 1) := by decide +kernel
theorem dX2_ask_6 : decode cX2_ask 6 = .ok (.getfield 9, 3) := by decide +kernel
theorem dX2_ask_9 : decode cX2_ask 9 = .ok (.if_icmp .lt 13, 3) := by decide +kernel
theorem dX2_ask_12 : decode cX2_ask 12 = .ok (.new 69, 3) := by decide +kernel
theorem dX2_ask_15 : decode cX2_ask 15 = .ok (.dup, 1) := by decide +kernel
theorem dX2_ask_16 : decode cX2_ask 16 = .ok (.ldc 71, 2) := by decide +kernel
theorem dX2_ask_18 : decode cX2_ask 18 = .ok (.invokespecial 73, 3) := by decide +kernel
theorem dX2_ask_21 : decode cX2_ask 21 = .ok (.athrow, 1) := by decide +kernel
theorem dX2_ask_22 : decode cX2_ask 22 = .ok (.iload_n 2, 1) := by decide +kernel
theorem dX2_ask_23 : decode cX2_ask 23 = .ok (.invokestatic 74, 3) := by decide +kernel
theorem dX2_ask_26 : decode cX2_ask 26 = .ok (.ifCond .ne 13, 3) := by decide +kernel
theorem dX2_ask_29 : decode cX2_ask 29 = .ok (.new 52, 3) := by decide +kernel
theorem dX2_ask_32 : decode cX2_ask 32 = .ok (.dup, 1) := by decide +kernel
theorem dX2_ask_33 : decode cX2_ask 33 = .ok (.ldc 78, 2) := by decide +kernel
theorem dX2_ask_35 : decode cX2_ask 35 = .ok (.invokespecial 56, 3) := by decide +kernel
theorem dX2_ask_38 : decode cX2_ask 38 = .ok (.athrow, 1) := by decide +kernel
theorem dX2_ask_39 : decode cX2_ask 39 = .ok (.aload_n 0, 1) := by decide +kernel
theorem dX2_ask_40 : decode cX2_ask 40 = .ok (.getfield 16, 3) := by decide +kernel
theorem dX2_ask_43 : decode cX2_ask 43 = .ok (.iload_n 1, 1) := by decide +kernel
theorem dX2_ask_44 : decode cX2_ask 44 = .ok (.iaload, 1) := by decide +kernel
theorem dX2_ask_45 : decode cX2_ask 45 = .ok (.istore_n 3, 1) := by decide +kernel
theorem dX2_ask_46 : decode cX2_ask 46 = .ok (.aload_n 0, 1) := by decide +kernel
theorem dX2_ask_47 : decode cX2_ask 47 = .ok (.getfield 16, 3) := by decide +kernel
theorem dX2_ask_50 : decode cX2_ask 50 = .ok (.iload_n 1, 1) := by decide +kernel
theorem dX2_ask_51 : decode cX2_ask 51 = .ok (.iload_n 2, 1) := by decide +kernel
theorem dX2_ask_52 : decode cX2_ask 52 = .ok (.iastore, 1) := by decide +kernel
theorem dX2_ask_53 : decode cX2_ask 53 = .ok (.iload_n 3, 1) := by decide +kernel
theorem dX2_ask_54 : decode cX2_ask 54 = .ok (.ireturn, 1) := by decide +kernel
theorem dX2_isValue_0 : decode cX2_isValue 0 = .ok (.iload_n 0, 1) := by decide +kernel
theorem dX2_isValue_1 : decode cX2_isValue 1 = .ok (.sipush (-1000), 3) := by decide +kernel
theorem dX2_isValue_4 : decode cX2_isValue 4 = .ok (.if_icmp .lt 14, 3) := by decide +kernel
theorem dX2_isValue_7 : decode cX2_isValue 7 = .ok (.iload_n 0, 1) := by decide +kernel
theorem dX2_isValue_8 : decode cX2_isValue 8 = .ok (.sipush 1000, 3) := by decide +kernel
theorem dX2_isValue_11 : decode cX2_isValue 11 = .ok (.if_icmp .gt 7, 3) := by decide +kernel
theorem dX2_isValue_14 : decode cX2_isValue 14 = .ok (.iconst 1, 1) := by decide +kernel
theorem dX2_isValue_15 : decode cX2_isValue 15 = .ok (.goto 4, 3) := by decide +kernel
theorem dX2_isValue_18 : decode cX2_isValue 18 = .ok (.iconst 0, 1) := by decide +kernel
theorem dX2_isValue_19 : decode cX2_isValue 19 = .ok (.ireturn, 1) := by decide +kernel
theorem dX2_keep_0 : decode cX2_keep 0 = .ok (.iload_n 1, 1) := by decide +kernel
theorem dX2_keep_1 : decode cX2_keep 1 = .ok (.ifCond .lt 9, 3) := by decide +kernel
theorem dX2_keep_4 : decode cX2_keep 4 = .ok (.iload_n 1, 1) := by decide +kernel
theorem dX2_keep_5 : decode cX2_keep 5 = .ok (.bipush 7, 2) := by decide +kernel
theorem dX2_keep_7 : decode cX2_keep 7 = .ok (.if_icmp .le 13, 3) := by decide +kernel
theorem dX2_keep_10 : decode cX2_keep 10 = .ok (.new 52, 3) := by decide +kernel
theorem dX2_keep_13 : decode cX2_keep 13 = .ok (.dup, 1) := by decide +kernel
theorem dX2_keep_14 : decode cX2_keep 14 = .ok (.ldc 80, 2) := by decide +kernel
theorem dX2_keep_16 : decode cX2_keep 16 = .ok (.invokespecial 56, 3) := by decide +kernel
theorem dX2_keep_19 : decode cX2_keep 19 = .ok (.athrow, 1) := by decide +kernel
theorem dX2_keep_20 : decode cX2_keep 20 = .ok (.aload_n 0, 1) := by decide +kernel
theorem dX2_keep_21 : decode cX2_keep 21 = .ok (.getfield 26, 3) := by decide +kernel
theorem dX2_keep_24 : decode cX2_keep 24 = .ok (.bipush 12, 2) := by decide +kernel
theorem dX2_keep_26 : decode cX2_keep 26 = .ok (.if_icmp .lt 13, 3) := by decide +kernel
theorem dX2_keep_29 : decode cX2_keep 29 = .ok (.new 82, 3) := by decide +kernel
theorem dX2_keep_32 : decode cX2_keep 32 = .ok (.dup, 1) := by decide +kernel
theorem dX2_keep_33 : decode cX2_keep 33 = .ok (.ldc 84, 2) := by decide +kernel
theorem dX2_keep_35 : decode cX2_keep 35 = .ok (.invokespecial 86, 3) := by decide +kernel
theorem dX2_keep_38 : decode cX2_keep 38 = .ok (.athrow, 1) := by decide +kernel
theorem dX2_keep_39 : decode cX2_keep 39 = .ok (.aload_n 0, 1) := by decide +kernel
theorem dX2_keep_40 : decode cX2_keep 40 = .ok (.getfield 26, 3) := by decide +kernel
theorem dX2_keep_43 : decode cX2_keep 43 = .ok (.istore_n 2, 1) := by decide +kernel
theorem dX2_keep_44 : decode cX2_keep 44 = .ok (.aload_n 0, 1) := by decide +kernel
theorem dX2_keep_45 : decode cX2_keep 45 = .ok (.getfield 16, 3) := by decide +kernel
theorem dX2_keep_48 : decode cX2_keep 48 = .ok (.iconst 0, 1) := by decide +kernel
theorem dX2_keep_49 : decode cX2_keep 49 = .ok (.aload_n 0, 1) := by decide +kernel
theorem dX2_keep_50 : decode cX2_keep 50 = .ok (.getfield 20, 3) := by decide +kernel
theorem dX2_keep_53 : decode cX2_keep 53 = .ok (.iload_n 2, 1) := by decide +kernel
theorem dX2_keep_54 : decode cX2_keep 54 = .ok (.bipush 16, 2) := by decide +kernel
theorem dX2_keep_56 : decode cX2_keep 56 = .ok (.imul, 1) := by decide +kernel
theorem dX2_keep_57 : decode cX2_keep 57 = .ok (.aload_n 0, 1) := by decide +kernel
theorem dX2_keep_58 : decode cX2_keep 58 = .ok (.getfield 9, 3) := by decide +kernel
theorem dX2_keep_61 : decode cX2_keep 61 = .ok (.invokestatic 87, 3) := by decide +kernel
theorem dX2_keep_64 : decode cX2_keep 64 = .ok (.aload_n 0, 1) := by decide +kernel
theorem dX2_keep_65 : decode cX2_keep 65 = .ok (.getfield 23, 3) := by decide +kernel
theorem dX2_keep_68 : decode cX2_keep 68 = .ok (.iload_n 2, 1) := by decide +kernel
theorem dX2_keep_69 : decode cX2_keep 69 = .ok (.iload_n 1, 1) := by decide +kernel
theorem dX2_keep_70 : decode cX2_keep 70 = .ok (.iastore, 1) := by decide +kernel
theorem dX2_keep_71 : decode cX2_keep 71 = .ok (.aload_n 0, 1) := by decide +kernel
theorem dX2_keep_72 : decode cX2_keep 72 = .ok (.iload_n 2, 1) := by decide +kernel
theorem dX2_keep_73 : decode cX2_keep 73 = .ok (.iconst 1, 1) := by decide +kernel
theorem dX2_keep_74 : decode cX2_keep 74 = .ok (.iadd, 1) := by decide +kernel
theorem dX2_keep_75 : decode cX2_keep 75 = .ok (.putfield 26, 3) := by decide +kernel
theorem dX2_keep_78 : decode cX2_keep 78 = .ok (.iload_n 2, 1) := by decide +kernel
theorem dX2_keep_79 : decode cX2_keep 79 = .ok (.ireturn, 1) := by decide +kernel
theorem dX2_recall_0 : decode cX2_recall 0 = .ok (.aload_n 0, 1) := by decide +kernel
theorem dX2_recall_1 : decode cX2_recall 1 = .ok (.iload_n 1, 1) := by decide +kernel
theorem dX2_recall_2 : decode cX2_recall 2 = .ok (.invokevirtual 93, 3) := by decide +kernel
theorem dX2_recall_5 : decode cX2_recall 5 = .ok (.aload_n 0, 1) := by decide +kernel
theorem dX2_recall_6 : decode cX2_recall 6 = .ok (.getfield 20, 3) := by decide +kernel
theorem dX2_recall_9 : decode cX2_recall 9 = .ok (.iload_n 1, 1) := by decide +kernel
theorem dX2_recall_10 : decode cX2_recall 10 = .ok (.bipush 16, 2) := by decide +kernel
theorem dX2_recall_12 : decode cX2_recall 12 = .ok (.imul, 1) := by decide +kernel
theorem dX2_recall_13 : decode cX2_recall 13 = .ok (.aload_n 0, 1) := by decide +kernel
theorem dX2_recall_14 : decode cX2_recall 14 = .ok (.getfield 16, 3) := by decide +kernel
theorem dX2_recall_17 : decode cX2_recall 17 = .ok (.iconst 0, 1) := by decide +kernel
theorem dX2_recall_18 : decode cX2_recall 18 = .ok (.aload_n 0, 1) := by decide +kernel
theorem dX2_recall_19 : decode cX2_recall 19 = .ok (.getfield 9, 3) := by decide +kernel
theorem dX2_recall_22 : decode cX2_recall 22 = .ok (.invokestatic 87, 3) := by decide +kernel
theorem dX2_recall_25 : decode cX2_recall 25 = .ok (.return_, 1) := by decide +kernel
theorem dX2_checkRow_0 : decode cX2_checkRow 0 = .ok (.iload_n 1, 1) := by decide +kernel
theorem dX2_checkRow_1 : decode cX2_checkRow 1 = .ok (.ifCond .lt 11, 3) := by decide +kernel
theorem dX2_checkRow_4 : decode cX2_checkRow 4 = .ok (.iload_n 1, 1) := by decide +kernel
theorem dX2_checkRow_5 : decode cX2_checkRow 5 = .ok (.aload_n 0, 1) := by decide +kernel
theorem dX2_checkRow_6 : decode cX2_checkRow 6 = .ok (.getfield 26, 3) := by decide +kernel
theorem dX2_checkRow_9 : decode cX2_checkRow 9 = .ok (.if_icmp .lt 13, 3) := by decide +kernel
theorem dX2_checkRow_12 : decode cX2_checkRow 12 = .ok (.new 69, 3) := by decide +kernel
theorem dX2_checkRow_15 : decode cX2_checkRow 15 = .ok (.dup, 1) := by decide +kernel
theorem dX2_checkRow_16 : decode cX2_checkRow 16 = .ok (.ldc 151, 2) := by decide +kernel
theorem dX2_checkRow_18 : decode cX2_checkRow 18 = .ok (.invokespecial 73, 3) := by decide +kernel
theorem dX2_checkRow_21 : decode cX2_checkRow 21 = .ok (.athrow, 1) := by decide +kernel
theorem dX2_checkRow_22 : decode cX2_checkRow 22 = .ok (.return_, 1) := by decide +kernel
theorem dX2_band_0 : decode cX2_band 0 = .ok (.iload_n 1, 1) := by decide +kernel
theorem dX2_band_1 : decode cX2_band 1 = .ok (.ifCond .lt 9, 3) := by decide +kernel
theorem dX2_band_4 : decode cX2_band 4 = .ok (.iload_n 1, 1) := by decide +kernel
theorem dX2_band_5 : decode cX2_band 5 = .ok (.bipush 15, 2) := by decide +kernel
theorem dX2_band_7 : decode cX2_band 7 = .ok (.if_icmp .le 13, 3) := by decide +kernel
theorem dX2_band_10 : decode cX2_band 10 = .ok (.new 52, 3) := by decide +kernel
theorem dX2_band_13 : decode cX2_band 13 = .ok (.dup, 1) := by decide +kernel
theorem dX2_band_14 : decode cX2_band 14 = .ok (.ldc 96, 2) := by decide +kernel
theorem dX2_band_16 : decode cX2_band 16 = .ok (.invokespecial 56, 3) := by decide +kernel
theorem dX2_band_19 : decode cX2_band 19 = .ok (.athrow, 1) := by decide +kernel
theorem dX2_band_20 : decode cX2_band 20 = .ok (.aload_n 0, 1) := by decide +kernel
theorem dX2_band_21 : decode cX2_band 21 = .ok (.getfield 13, 3) := by decide +kernel
theorem dX2_band_24 : decode cX2_band 24 = .ok (.istore_n 2, 1) := by decide +kernel
theorem dX2_band_25 : decode cX2_band 25 = .ok (.aload_n 0, 1) := by decide +kernel
theorem dX2_band_26 : decode cX2_band 26 = .ok (.iload_n 1, 1) := by decide +kernel
theorem dX2_band_27 : decode cX2_band 27 = .ok (.putfield 13, 3) := by decide +kernel
theorem dX2_band_30 : decode cX2_band 30 = .ok (.iload_n 2, 1) := by decide +kernel
theorem dX2_band_31 : decode cX2_band 31 = .ok (.ireturn, 1) := by decide +kernel
theorem dX2_distance_0 : decode cX2_distance 0 = .ok (.aload_n 0, 1) := by decide +kernel
theorem dX2_distance_1 : decode cX2_distance 1 = .ok (.iload_n 1, 1) := by decide +kernel
theorem dX2_distance_2 : decode cX2_distance 2 = .ok (.invokevirtual 93, 3) := by decide +kernel
theorem dX2_distance_5 : decode cX2_distance 5 = .ok (.aload_n 0, 1) := by decide +kernel
theorem dX2_distance_6 : decode cX2_distance 6 = .ok (.iload_n 1, 1) := by decide +kernel
theorem dX2_distance_7 : decode cX2_distance 7 = .ok (.invokevirtual 98, 3) := by decide +kernel
theorem dX2_distance_10 : decode cX2_distance 10 = .ok (.aload_n 0, 1) := by decide +kernel
theorem dX2_distance_11 : decode cX2_distance 11 = .ok (.getfield 38, 3) := by decide +kernel
theorem dX2_distance_14 : decode cX2_distance 14 = .ok (.iconst (-1), 1) := by decide +kernel
theorem dX2_distance_15 : decode cX2_distance 15 = .ok (.invokevirtual 101, 3) := by decide +kernel
theorem dX2_distance_18 : decode cX2_distance 18 = .ok (.ireturn, 1) := by decide +kernel
theorem dX2_placeRow_0 : decode cX2_placeRow 0 = .ok (.aload_n 0, 1) := by decide +kernel
theorem dX2_placeRow_1 : decode cX2_placeRow 1 = .ok (.getfield 38, 3) := by decide +kernel
theorem dX2_placeRow_4 : decode cX2_placeRow 4 = .ok (.aload_n 0, 1) := by decide +kernel
theorem dX2_placeRow_5 : decode cX2_placeRow 5 = .ok (.getfield 16, 3) := by decide +kernel
theorem dX2_placeRow_8 : decode cX2_placeRow 8 = .ok (.aload_n 0, 1) := by decide +kernel
theorem dX2_placeRow_9 : decode cX2_placeRow 9 = .ok (.getfield 9, 3) := by decide +kernel
theorem dX2_placeRow_12 : decode cX2_placeRow 12 = .ok (.aload_n 0, 1) := by decide +kernel
theorem dX2_placeRow_13 : decode cX2_placeRow 13 = .ok (.getfield 13, 3) := by decide +kernel
theorem dX2_placeRow_16 : decode cX2_placeRow 16 = .ok (.invokevirtual 157, 3) := by decide +kernel
theorem dX2_placeRow_19 : decode cX2_placeRow 19 = .ok (.aload_n 0, 1) := by decide +kernel
theorem dX2_placeRow_20 : decode cX2_placeRow 20 = .ok (.getfield 38, 3) := by decide +kernel
theorem dX2_placeRow_23 : decode cX2_placeRow 23 = .ok (.aload_n 0, 1) := by decide +kernel
theorem dX2_placeRow_24 : decode cX2_placeRow 24 = .ok (.getfield 20, 3) := by decide +kernel
theorem dX2_placeRow_27 : decode cX2_placeRow 27 = .ok (.iload_n 1, 1) := by decide +kernel
theorem dX2_placeRow_28 : decode cX2_placeRow 28 = .ok (.bipush 16, 2) := by decide +kernel
theorem dX2_placeRow_30 : decode cX2_placeRow 30 = .ok (.imul, 1) := by decide +kernel
theorem dX2_placeRow_31 : decode cX2_placeRow 31 = .ok (.invokevirtual 161, 3) := by decide +kernel
theorem dX2_placeRow_34 : decode cX2_placeRow 34 = .ok (.return_, 1) := by decide +kernel
theorem dX2_bound_0 : decode cX2_bound 0 = .ok (.aload_n 0, 1) := by decide +kernel
theorem dX2_bound_1 : decode cX2_bound 1 = .ok (.iload_n 1, 1) := by decide +kernel
theorem dX2_bound_2 : decode cX2_bound 2 = .ok (.invokevirtual 93, 3) := by decide +kernel
theorem dX2_bound_5 : decode cX2_bound 5 = .ok (.iload_n 2, 1) := by decide +kernel
theorem dX2_bound_6 : decode cX2_bound 6 = .ok (.ifCond .lt 8, 3) := by decide +kernel
theorem dX2_bound_9 : decode cX2_bound 9 = .ok (.iload_n 2, 1) := by decide +kernel
theorem dX2_bound_10 : decode cX2_bound 10 = .ok (.iconst 2, 1) := by decide +kernel
theorem dX2_bound_11 : decode cX2_bound 11 = .ok (.if_icmp .le 13, 3) := by decide +kernel
theorem dX2_bound_14 : decode cX2_bound 14 = .ok (.new 52, 3) := by decide +kernel
theorem dX2_bound_17 : decode cX2_bound 17 = .ok (.dup, 1) := by decide +kernel
theorem dX2_bound_18 : decode cX2_bound 18 = .ok (.ldc 105, 2) := by decide +kernel
theorem dX2_bound_20 : decode cX2_bound 20 = .ok (.invokespecial 56, 3) := by decide +kernel
theorem dX2_bound_23 : decode cX2_bound 23 = .ok (.athrow, 1) := by decide +kernel
theorem dX2_bound_24 : decode cX2_bound 24 = .ok (.aload_n 0, 1) := by decide +kernel
theorem dX2_bound_25 : decode cX2_bound 25 = .ok (.iload_n 1, 1) := by decide +kernel
theorem dX2_bound_26 : decode cX2_bound 26 = .ok (.invokevirtual 98, 3) := by decide +kernel
theorem dX2_bound_29 : decode cX2_bound 29 = .ok (.aload_n 0, 1) := by decide +kernel
theorem dX2_bound_30 : decode cX2_bound 30 = .ok (.getfield 38, 3) := by decide +kernel
theorem dX2_bound_33 : decode cX2_bound 33 = .ok (.iload_n 2, 1) := by decide +kernel
theorem dX2_bound_34 : decode cX2_bound 34 = .ok (.invokevirtual 107, 3) := by decide +kernel
theorem dX2_bound_37 : decode cX2_bound 37 = .ok (.ireturn, 1) := by decide +kernel
theorem dX2_steps_0 : decode cX2_steps 0 = .ok (.aload_n 0, 1) := by decide +kernel
theorem dX2_steps_1 : decode cX2_steps 1 = .ok (.iload_n 1, 1) := by decide +kernel
theorem dX2_steps_2 : decode cX2_steps 2 = .ok (.invokevirtual 93, 3) := by decide +kernel
theorem dX2_steps_5 : decode cX2_steps 5 = .ok (.aload_n 0, 1) := by decide +kernel
theorem dX2_steps_6 : decode cX2_steps 6 = .ok (.iload_n 1, 1) := by decide +kernel
theorem dX2_steps_7 : decode cX2_steps 7 = .ok (.invokevirtual 98, 3) := by decide +kernel
theorem dX2_steps_10 : decode cX2_steps 10 = .ok (.aload_n 0, 1) := by decide +kernel
theorem dX2_steps_11 : decode cX2_steps 11 = .ok (.getfield 38, 3) := by decide +kernel
theorem dX2_steps_14 : decode cX2_steps 14 = .ok (.invokevirtual 110, 3) := by decide +kernel
theorem dX2_steps_17 : decode cX2_steps 17 = .ok (.ireturn, 1) := by decide +kernel
theorem dX2_pair_0 : decode cX2_pair 0 = .ok (.aload_n 0, 1) := by decide +kernel
theorem dX2_pair_1 : decode cX2_pair 1 = .ok (.iload_n 1, 1) := by decide +kernel
theorem dX2_pair_2 : decode cX2_pair 2 = .ok (.invokevirtual 93, 3) := by decide +kernel
theorem dX2_pair_5 : decode cX2_pair 5 = .ok (.aload_n 0, 1) := by decide +kernel
theorem dX2_pair_6 : decode cX2_pair 6 = .ok (.iload_n 1, 1) := by decide +kernel
theorem dX2_pair_7 : decode cX2_pair 7 = .ok (.invokevirtual 98, 3) := by decide +kernel
theorem dX2_pair_10 : decode cX2_pair 10 = .ok (.aload_n 0, 1) := by decide +kernel
theorem dX2_pair_11 : decode cX2_pair 11 = .ok (.getfield 38, 3) := by decide +kernel
theorem dX2_pair_14 : decode cX2_pair 14 = .ok (.invokevirtual 110, 3) := by decide +kernel
theorem dX2_pair_17 : decode cX2_pair 17 = .ok (.istore_n 3, 1) := by decide +kernel
theorem dX2_pair_18 : decode cX2_pair 18 = .ok (.iload_n 2, 1) := by decide +kernel
theorem dX2_pair_19 : decode cX2_pair 19 = .ok (.ifCond .lt 8, 3) := by decide +kernel
theorem dX2_pair_22 : decode cX2_pair 22 = .ok (.iload_n 2, 1) := by decide +kernel
theorem dX2_pair_23 : decode cX2_pair 23 = .ok (.iload_n 3, 1) := by decide +kernel
theorem dX2_pair_24 : decode cX2_pair 24 = .ok (.if_icmp .lt 13, 3) := by decide +kernel
theorem dX2_pair_27 : decode cX2_pair 27 = .ok (.new 69, 3) := by decide +kernel
theorem dX2_pair_30 : decode cX2_pair 30 = .ok (.dup, 1) := by decide +kernel
theorem dX2_pair_31 : decode cX2_pair 31 = .ok (.ldc 114, 2) := by decide +kernel
theorem dX2_pair_33 : decode cX2_pair 33 = .ok (.invokespecial 73, 3) := by decide +kernel
theorem dX2_pair_36 : decode cX2_pair 36 = .ok (.athrow, 1) := by decide +kernel
theorem dX2_pair_37 : decode cX2_pair 37 = .ok (.aload_n 0, 1) := by decide +kernel
theorem dX2_pair_38 : decode cX2_pair 38 = .ok (.getfield 38, 3) := by decide +kernel
theorem dX2_pair_41 : decode cX2_pair 41 = .ok (.iload_n 2, 1) := by decide +kernel
theorem dX2_pair_42 : decode cX2_pair 42 = .ok (.invokevirtual 116, 3) := by decide +kernel
theorem dX2_pair_45 : decode cX2_pair 45 = .ok (.ireturn, 1) := by decide +kernel
theorem dX2_search_0 : decode cX2_search 0 = .ok (.iload_n 1, 1) := by decide +kernel
theorem dX2_search_1 : decode cX2_search 1 = .ok (.invokestatic 119, 3) := by decide +kernel
theorem dX2_search_4 : decode cX2_search 4 = .ok (.aload_n 0, 1) := by decide +kernel
theorem dX2_search_5 : decode cX2_search 5 = .ok (.invokevirtual 122, 3) := by decide +kernel
theorem dX2_search_8 : decode cX2_search 8 = .ok (.aload_n 0, 1) := by decide +kernel
theorem dX2_search_9 : decode cX2_search 9 = .ok (.aload_n 0, 1) := by decide +kernel
theorem dX2_search_10 : decode cX2_search 10 = .ok (.getfield 20, 3) := by decide +kernel
theorem dX2_search_13 : decode cX2_search 13 = .ok (.aload_n 0, 1) := by decide +kernel
theorem dX2_search_14 : decode cX2_search 14 = .ok (.getfield 26, 3) := by decide +kernel
theorem dX2_search_17 : decode cX2_search 17 = .ok (.bipush 16, 2) := by decide +kernel
theorem dX2_search_19 : decode cX2_search 19 = .ok (.iload_n 1, 1) := by decide +kernel
theorem dX2_search_20 : decode cX2_search 20 = .ok (.invokevirtual 125, 3) := by decide +kernel
theorem dX2_search_23 : decode cX2_search 23 = .ok (.ireturn, 1) := by decide +kernel
theorem dX2_checkWanted_0 : decode cX2_checkWanted 0 = .ok (.iload_n 0, 1) := by decide +kernel
theorem dX2_checkWanted_1 : decode cX2_checkWanted 1 = .ok (.iconst 1, 1) := by decide +kernel
theorem dX2_checkWanted_2 : decode cX2_checkWanted 2 = .ok (.if_icmp .lt 9, 3) := by decide +kernel
theorem dX2_checkWanted_5 : decode cX2_checkWanted 5 = .ok (.iload_n 0, 1) := by decide +kernel
theorem dX2_checkWanted_6 : decode cX2_checkWanted 6 = .ok (.bipush 12, 2) := by decide +kernel
theorem dX2_checkWanted_8 : decode cX2_checkWanted 8 = .ok (.if_icmp .le 13, 3) := by decide +kernel
theorem dX2_checkWanted_11 : decode cX2_checkWanted 11 = .ok (.new 52, 3) := by decide +kernel
theorem dX2_checkWanted_14 : decode cX2_checkWanted 14 = .ok (.dup, 1) := by decide +kernel
theorem dX2_checkWanted_15 : decode cX2_checkWanted 15 = .ok (.ldc 155, 2) := by decide +kernel
theorem dX2_checkWanted_17 : decode cX2_checkWanted 17 = .ok (.invokespecial 56, 3) := by decide +kernel
theorem dX2_checkWanted_20 : decode cX2_checkWanted 20 = .ok (.athrow, 1) := by decide +kernel
theorem dX2_checkWanted_21 : decode cX2_checkWanted 21 = .ok (.return_, 1) := by decide +kernel
theorem dX2_checkAnyRow_0 : decode cX2_checkAnyRow 0 = .ok (.aload_n 0, 1) := by decide +kernel
theorem dX2_checkAnyRow_1 : decode cX2_checkAnyRow 1 = .ok (.getfield 26, 3) := by decide +kernel
theorem dX2_checkAnyRow_4 : decode cX2_checkAnyRow 4 = .ok (.ifCond .ne 13, 3) := by decide +kernel
theorem dX2_checkAnyRow_7 : decode cX2_checkAnyRow 7 = .ok (.new 82, 3) := by decide +kernel
theorem dX2_checkAnyRow_10 : decode cX2_checkAnyRow 10 = .ok (.dup, 1) := by decide +kernel
theorem dX2_checkAnyRow_11 : decode cX2_checkAnyRow 11 = .ok (.ldc 153, 2) := by decide +kernel
theorem dX2_checkAnyRow_13 : decode cX2_checkAnyRow 13 = .ok (.invokespecial 86, 3) := by decide +kernel
theorem dX2_checkAnyRow_16 : decode cX2_checkAnyRow 16 = .ok (.athrow, 1) := by decide +kernel
theorem dX2_checkAnyRow_17 : decode cX2_checkAnyRow 17 = .ok (.return_, 1) := by decide +kernel
theorem dX2_searchAmong_0 : decode cX2_searchAmong 0 = .ok (.aload_n 0, 1) := by decide +kernel
theorem dX2_searchAmong_1 : decode cX2_searchAmong 1 = .ok (.getfield 45, 3) := by decide +kernel
theorem dX2_searchAmong_4 : decode cX2_searchAmong 4 = .ok (.iload 4, 2) := by decide +kernel
theorem dX2_searchAmong_6 : decode cX2_searchAmong 6 = .ok (.invokevirtual 65, 3) := by decide +kernel
theorem dX2_searchAmong_9 : decode cX2_searchAmong 9 = .ok (.aload_n 0, 1) := by decide +kernel
theorem dX2_searchAmong_10 : decode cX2_searchAmong 10 = .ok (.getfield 49, 3) := by decide +kernel
theorem dX2_searchAmong_13 : decode cX2_searchAmong 13 = .ok (.iconst 0, 1) := by decide +kernel
theorem dX2_searchAmong_14 : decode cX2_searchAmong 14 = .ok (.invokestatic 59, 3) := by decide +kernel
theorem dX2_searchAmong_17 : decode cX2_searchAmong 17 = .ok (.aload_n 0, 1) := by decide +kernel
theorem dX2_searchAmong_18 : decode cX2_searchAmong 18 = .ok (.getfield 38, 3) := by decide +kernel
theorem dX2_searchAmong_21 : decode cX2_searchAmong 21 = .ok (.aload_n 0, 1) := by decide +kernel
theorem dX2_searchAmong_22 : decode cX2_searchAmong 22 = .ok (.getfield 16, 3) := by decide +kernel
theorem dX2_searchAmong_25 : decode cX2_searchAmong 25 = .ok (.aload_n 0, 1) := by decide +kernel
theorem dX2_searchAmong_26 : decode cX2_searchAmong 26 = .ok (.getfield 9, 3) := by decide +kernel
theorem dX2_searchAmong_29 : decode cX2_searchAmong 29 = .ok (.aload_n 0, 1) := by decide +kernel
theorem dX2_searchAmong_30 : decode cX2_searchAmong 30 = .ok (.getfield 13, 3) := by decide +kernel
theorem dX2_searchAmong_33 : decode cX2_searchAmong 33 = .ok (.invokevirtual 157, 3) := by decide +kernel
theorem dX2_searchAmong_36 : decode cX2_searchAmong 36 = .ok (.iconst 0, 1) := by decide +kernel
theorem dX2_searchAmong_37 : decode cX2_searchAmong 37 = .ok (.istore 5, 2) := by decide +kernel
theorem dX2_searchAmong_39 : decode cX2_searchAmong 39 = .ok (.iload 5, 2) := by decide +kernel
theorem dX2_searchAmong_41 : decode cX2_searchAmong 41 = .ok (.iload_n 2, 1) := by decide +kernel
theorem dX2_searchAmong_42 : decode cX2_searchAmong 42 = .ok (.if_icmp .ge 27, 3) := by decide +kernel
theorem dX2_searchAmong_45 : decode cX2_searchAmong 45 = .ok (.aload_n 0, 1) := by decide +kernel
theorem dX2_searchAmong_46 : decode cX2_searchAmong 46 = .ok (.getfield 38, 3) := by decide +kernel
theorem dX2_searchAmong_49 : decode cX2_searchAmong 49 = .ok (.aload_n 1, 1) := by decide +kernel
theorem dX2_searchAmong_50 : decode cX2_searchAmong 50 = .ok (.iload 5, 2) := by decide +kernel
theorem dX2_searchAmong_52 : decode cX2_searchAmong 52 = .ok (.iload_n 3, 1) := by decide +kernel
theorem dX2_searchAmong_53 : decode cX2_searchAmong 53 = .ok (.imul, 1) := by decide +kernel
theorem dX2_searchAmong_54 : decode cX2_searchAmong 54 = .ok (.invokevirtual 161, 3) := by decide +kernel
theorem dX2_searchAmong_57 : decode cX2_searchAmong 57 = .ok (.aload_n 0, 1) := by decide +kernel
theorem dX2_searchAmong_58 : decode cX2_searchAmong 58 = .ok (.iload 5, 2) := by decide +kernel
theorem dX2_searchAmong_60 : decode cX2_searchAmong 60 = .ok (.invokevirtual 164, 3) := by decide +kernel
theorem dX2_searchAmong_63 : decode cX2_searchAmong 63 = .ok (.iinc 5 1, 3) := by decide +kernel
theorem dX2_searchAmong_66 : decode cX2_searchAmong 66 = .ok (.goto (-27), 3) := by decide +kernel
theorem dX2_searchAmong_69 : decode cX2_searchAmong 69 = .ok (.aload_n 0, 1) := by decide +kernel
theorem dX2_searchAmong_70 : decode cX2_searchAmong 70 = .ok (.getfield 45, 3) := by decide +kernel
theorem dX2_searchAmong_73 : decode cX2_searchAmong 73 = .ok (.getfield 129, 3) := by decide +kernel
theorem dX2_searchAmong_76 : decode cX2_searchAmong 76 = .ok (.ireturn, 1) := by decide +kernel
theorem dX2_weigh_0 : decode cX2_weigh 0 = .ok (.aload_n 0, 1) := by decide +kernel
theorem dX2_weigh_1 : decode cX2_weigh 1 = .ok (.getfield 45, 3) := by decide +kernel
theorem dX2_weigh_4 : decode cX2_weigh 4 = .ok (.invokevirtual 167, 3) := by decide +kernel
theorem dX2_weigh_7 : decode cX2_weigh 7 = .ok (.istore_n 2, 1) := by decide +kernel
theorem dX2_weigh_8 : decode cX2_weigh 8 = .ok (.iload_n 2, 1) := by decide +kernel
theorem dX2_weigh_9 : decode cX2_weigh 9 = .ok (.iconst (-1), 1) := by decide +kernel
theorem dX2_weigh_10 : decode cX2_weigh 10 = .ok (.if_icmp .ne 7, 3) := by decide +kernel
theorem dX2_weigh_13 : decode cX2_weigh 13 = .ok (.iconst (-1), 1) := by decide +kernel
theorem dX2_weigh_14 : decode cX2_weigh 14 = .ok (.goto 8, 3) := by decide +kernel
theorem dX2_weigh_17 : decode cX2_weigh 17 = .ok (.aload_n 0, 1) := by decide +kernel
theorem dX2_weigh_18 : decode cX2_weigh 18 = .ok (.iload_n 2, 1) := by decide +kernel
theorem dX2_weigh_19 : decode cX2_weigh 19 = .ok (.invokevirtual 170, 3) := by decide +kernel
theorem dX2_weigh_22 : decode cX2_weigh 22 = .ok (.istore_n 3, 1) := by decide +kernel
theorem dX2_weigh_23 : decode cX2_weigh 23 = .ok (.iload_n 3, 1) := by decide +kernel
theorem dX2_weigh_24 : decode cX2_weigh 24 = .ok (.iconst (-1), 1) := by decide +kernel
theorem dX2_weigh_25 : decode cX2_weigh 25 = .ok (.if_icmp .eq 14, 3) := by decide +kernel
theorem dX2_weigh_28 : decode cX2_weigh 28 = .ok (.aload_n 0, 1) := by decide +kernel
theorem dX2_weigh_29 : decode cX2_weigh 29 = .ok (.getfield 49, 3) := by decide +kernel
theorem dX2_weigh_32 : decode cX2_weigh 32 = .ok (.iload_n 3, 1) := by decide +kernel
theorem dX2_weigh_33 : decode cX2_weigh 33 = .ok (.dup2, 1) := by decide +kernel
theorem dX2_weigh_34 : decode cX2_weigh 34 = .ok (.iaload, 1) := by decide +kernel
theorem dX2_weigh_35 : decode cX2_weigh 35 = .ok (.iconst 1, 1) := by decide +kernel
theorem dX2_weigh_36 : decode cX2_weigh 36 = .ok (.iadd, 1) := by decide +kernel
theorem dX2_weigh_37 : decode cX2_weigh 37 = .ok (.iastore, 1) := by decide +kernel
theorem dX2_weigh_38 : decode cX2_weigh 38 = .ok (.return_, 1) := by decide +kernel
theorem dX2_weigh_39 : decode cX2_weigh 39 = .ok (.aload_n 0, 1) := by decide +kernel
theorem dX2_weigh_40 : decode cX2_weigh 40 = .ok (.getfield 49, 3) := by decide +kernel
theorem dX2_weigh_43 : decode cX2_weigh 43 = .ok (.iconst 3, 1) := by decide +kernel
theorem dX2_weigh_44 : decode cX2_weigh 44 = .ok (.dup2, 1) := by decide +kernel
theorem dX2_weigh_45 : decode cX2_weigh 45 = .ok (.iaload, 1) := by decide +kernel
theorem dX2_weigh_46 : decode cX2_weigh 46 = .ok (.iconst 1, 1) := by decide +kernel
theorem dX2_weigh_47 : decode cX2_weigh 47 = .ok (.iadd, 1) := by decide +kernel
theorem dX2_weigh_48 : decode cX2_weigh 48 = .ok (.iastore, 1) := by decide +kernel
theorem dX2_weigh_49 : decode cX2_weigh 49 = .ok (.aload_n 0, 1) := by decide +kernel
theorem dX2_weigh_50 : decode cX2_weigh 50 = .ok (.getfield 38, 3) := by decide +kernel
theorem dX2_weigh_53 : decode cX2_weigh 53 = .ok (.iload_n 2, 1) := by decide +kernel
theorem dX2_weigh_54 : decode cX2_weigh 54 = .ok (.invokevirtual 101, 3) := by decide +kernel
theorem dX2_weigh_57 : decode cX2_weigh 57 = .ok (.istore 4, 2) := by decide +kernel
theorem dX2_weigh_59 : decode cX2_weigh 59 = .ok (.iload 4, 2) := by decide +kernel
theorem dX2_weigh_61 : decode cX2_weigh 61 = .ok (.iconst (-1), 1) := by decide +kernel
theorem dX2_weigh_62 : decode cX2_weigh 62 = .ok (.if_icmp .ne 16, 3) := by decide +kernel
theorem dX2_weigh_65 : decode cX2_weigh 65 = .ok (.aload_n 0, 1) := by decide +kernel
theorem dX2_weigh_66 : decode cX2_weigh 66 = .ok (.getfield 49, 3) := by decide +kernel
theorem dX2_weigh_69 : decode cX2_weigh 69 = .ok (.iconst 4, 1) := by decide +kernel
theorem dX2_weigh_70 : decode cX2_weigh 70 = .ok (.dup2, 1) := by decide +kernel
theorem dX2_weigh_71 : decode cX2_weigh 71 = .ok (.iaload, 1) := by decide +kernel
theorem dX2_weigh_72 : decode cX2_weigh 72 = .ok (.iconst 1, 1) := by decide +kernel
theorem dX2_weigh_73 : decode cX2_weigh 73 = .ok (.iadd, 1) := by decide +kernel
theorem dX2_weigh_74 : decode cX2_weigh 74 = .ok (.iastore, 1) := by decide +kernel
theorem dX2_weigh_75 : decode cX2_weigh 75 = .ok (.goto 24, 3) := by decide +kernel
theorem dX2_weigh_78 : decode cX2_weigh 78 = .ok (.iload_n 2, 1) := by decide +kernel
theorem dX2_weigh_79 : decode cX2_weigh 79 = .ok (.iconst (-1), 1) := by decide +kernel
theorem dX2_weigh_80 : decode cX2_weigh 80 = .ok (.if_icmp .eq 9, 3) := by decide +kernel
theorem dX2_weigh_83 : decode cX2_weigh 83 = .ok (.iload 4, 2) := by decide +kernel
theorem dX2_weigh_85 : decode cX2_weigh 85 = .ok (.iload_n 2, 1) := by decide +kernel
theorem dX2_weigh_86 : decode cX2_weigh 86 = .ok (.if_icmp .ge 13, 3) := by decide +kernel
theorem dX2_weigh_89 : decode cX2_weigh 89 = .ok (.aload_n 0, 1) := by decide +kernel
theorem dX2_weigh_90 : decode cX2_weigh 90 = .ok (.getfield 45, 3) := by decide +kernel
theorem dX2_weigh_93 : decode cX2_weigh 93 = .ok (.iload_n 1, 1) := by decide +kernel
theorem dX2_weigh_94 : decode cX2_weigh 94 = .ok (.iload 4, 2) := by decide +kernel
theorem dX2_weigh_96 : decode cX2_weigh 96 = .ok (.invokevirtual 173, 3) := by decide +kernel
theorem dX2_weigh_99 : decode cX2_weigh 99 = .ok (.return_, 1) := by decide +kernel
theorem dX2_passingBound_0 : decode cX2_passingBound 0 = .ok (.iconst 0, 1) := by decide +kernel
theorem dX2_passingBound_1 : decode cX2_passingBound 1 = .ok (.istore_n 2, 1) := by decide +kernel
theorem dX2_passingBound_2 : decode cX2_passingBound 2 = .ok (.iload_n 2, 1) := by decide +kernel
theorem dX2_passingBound_3 : decode cX2_passingBound 3 = .ok (.iconst 2, 1) := by decide +kernel
theorem dX2_passingBound_4 : decode cX2_passingBound 4 = .ok (.if_icmp .gt 23, 3) := by decide +kernel
theorem dX2_passingBound_7 : decode cX2_passingBound 7 = .ok (.aload_n 0, 1) := by decide +kernel
theorem dX2_passingBound_8 : decode cX2_passingBound 8 = .ok (.getfield 38, 3) := by decide +kernel
theorem dX2_passingBound_11 : decode cX2_passingBound 11 = .ok (.iload_n 2, 1) := by decide +kernel
theorem dX2_passingBound_12 : decode cX2_passingBound 12 = .ok (.invokevirtual 107, 3) := by decide +kernel
theorem dX2_passingBound_15 : decode cX2_passingBound 15 = .ok (.iload_n 1, 1) := by decide +kernel
theorem dX2_passingBound_16 : decode cX2_passingBound 16 = .ok (.if_icmp .lt 5, 3) := by decide +kernel
theorem dX2_passingBound_19 : decode cX2_passingBound 19 = .ok (.iload_n 2, 1) := by decide +kernel
theorem dX2_passingBound_20 : decode cX2_passingBound 20 = .ok (.ireturn, 1) := by decide +kernel
theorem dX2_passingBound_21 : decode cX2_passingBound 21 = .ok (.iinc 2 1, 3) := by decide +kernel
theorem dX2_passingBound_24 : decode cX2_passingBound 24 = .ok (.goto (-22), 3) := by decide +kernel
theorem dX2_passingBound_27 : decode cX2_passingBound 27 = .ok (.iconst (-1), 1) := by decide +kernel
theorem dX2_passingBound_28 : decode cX2_passingBound 28 = .ok (.ireturn, 1) := by decide +kernel
theorem dX2_found_0 : decode cX2_found 0 = .ok (.iload_n 1, 1) := by decide +kernel
theorem dX2_found_1 : decode cX2_found 1 = .ok (.ifCond .lt 14, 3) := by decide +kernel
theorem dX2_found_4 : decode cX2_found 4 = .ok (.iload_n 1, 1) := by decide +kernel
theorem dX2_found_5 : decode cX2_found 5 = .ok (.aload_n 0, 1) := by decide +kernel
theorem dX2_found_6 : decode cX2_found 6 = .ok (.getfield 45, 3) := by decide +kernel
theorem dX2_found_9 : decode cX2_found 9 = .ok (.getfield 129, 3) := by decide +kernel
theorem dX2_found_12 : decode cX2_found 12 = .ok (.if_icmp .lt 13, 3) := by decide +kernel
theorem dX2_found_15 : decode cX2_found 15 = .ok (.new 69, 3) := by decide +kernel
theorem dX2_found_18 : decode cX2_found 18 = .ok (.dup, 1) := by decide +kernel
theorem dX2_found_19 : decode cX2_found 19 = .ok (.ldc 132, 2) := by decide +kernel
theorem dX2_found_21 : decode cX2_found 21 = .ok (.invokespecial 73, 3) := by decide +kernel
theorem dX2_found_24 : decode cX2_found 24 = .ok (.athrow, 1) := by decide +kernel
theorem dX2_found_25 : decode cX2_found 25 = .ok (.iload_n 2, 1) := by decide +kernel
theorem dX2_found_26 : decode cX2_found 26 = .ok (.ifCond .eq 15, 3) := by decide +kernel
theorem dX2_found_29 : decode cX2_found 29 = .ok (.aload_n 0, 1) := by decide +kernel
theorem dX2_found_30 : decode cX2_found 30 = .ok (.getfield 45, 3) := by decide +kernel
theorem dX2_found_33 : decode cX2_found 33 = .ok (.getfield 134, 3) := by decide +kernel
theorem dX2_found_36 : decode cX2_found 36 = .ok (.iload_n 1, 1) := by decide +kernel
theorem dX2_found_37 : decode cX2_found 37 = .ok (.iaload, 1) := by decide +kernel
theorem dX2_found_38 : decode cX2_found 38 = .ok (.goto 12, 3) := by decide +kernel
theorem dX2_found_41 : decode cX2_found 41 = .ok (.aload_n 0, 1) := by decide +kernel
theorem dX2_found_42 : decode cX2_found 42 = .ok (.getfield 45, 3) := by decide +kernel
theorem dX2_found_45 : decode cX2_found 45 = .ok (.getfield 137, 3) := by decide +kernel
theorem dX2_found_48 : decode cX2_found 48 = .ok (.iload_n 1, 1) := by decide +kernel
theorem dX2_found_49 : decode cX2_found 49 = .ok (.iaload, 1) := by decide +kernel
theorem dX2_found_50 : decode cX2_found 50 = .ok (.ireturn, 1) := by decide +kernel
theorem dX2_guess_0 : decode cX2_guess 0 = .ok (.iload_n 1, 1) := by decide +kernel
theorem dX2_guess_1 : decode cX2_guess 1 = .ok (.invokestatic 119, 3) := by decide +kernel
theorem dX2_guess_4 : decode cX2_guess 4 = .ok (.aload_n 0, 1) := by decide +kernel
theorem dX2_guess_5 : decode cX2_guess 5 = .ok (.invokevirtual 122, 3) := by decide +kernel
theorem dX2_guess_8 : decode cX2_guess 8 = .ok (.aload_n 0, 1) := by decide +kernel
theorem dX2_guess_9 : decode cX2_guess 9 = .ok (.aload_n 0, 1) := by decide +kernel
theorem dX2_guess_10 : decode cX2_guess 10 = .ok (.getfield 20, 3) := by decide +kernel
theorem dX2_guess_13 : decode cX2_guess 13 = .ok (.aload_n 0, 1) := by decide +kernel
theorem dX2_guess_14 : decode cX2_guess 14 = .ok (.getfield 26, 3) := by decide +kernel
theorem dX2_guess_17 : decode cX2_guess 17 = .ok (.bipush 16, 2) := by decide +kernel
theorem dX2_guess_19 : decode cX2_guess 19 = .ok (.iload_n 1, 1) := by decide +kernel
theorem dX2_guess_20 : decode cX2_guess 20 = .ok (.invokevirtual 125, 3) := by decide +kernel
theorem dX2_guess_23 : decode cX2_guess 23 = .ok (.istore_n 2, 1) := by decide +kernel
theorem dX2_guess_24 : decode cX2_guess 24 = .ok (.iconst (-1), 1) := by decide +kernel
theorem dX2_guess_25 : decode cX2_guess 25 = .ok (.istore_n 3, 1) := by decide +kernel
theorem dX2_guess_26 : decode cX2_guess 26 = .ok (.iconst 0, 1) := by decide +kernel
theorem dX2_guess_27 : decode cX2_guess 27 = .ok (.istore 4, 2) := by decide +kernel
theorem dX2_guess_29 : decode cX2_guess 29 = .ok (.iconst 0, 1) := by decide +kernel
theorem dX2_guess_30 : decode cX2_guess 30 = .ok (.istore 5, 2) := by decide +kernel
theorem dX2_guess_32 : decode cX2_guess 32 = .ok (.iload 5, 2) := by decide +kernel
theorem dX2_guess_34 : decode cX2_guess 34 = .ok (.iload_n 2, 1) := by decide +kernel
theorem dX2_guess_35 : decode cX2_guess 35 = .ok (.if_icmp .ge 48, 3) := by decide +kernel
theorem dX2_guess_38 : decode cX2_guess 38 = .ok (.aload_n 0, 1) := by decide +kernel
theorem dX2_guess_39 : decode cX2_guess 39 = .ok (.getfield 23, 3) := by decide +kernel
theorem dX2_guess_42 : decode cX2_guess 42 = .ok (.aload_n 0, 1) := by decide +kernel
theorem dX2_guess_43 : decode cX2_guess 43 = .ok (.getfield 45, 3) := by decide +kernel
theorem dX2_guess_46 : decode cX2_guess 46 = .ok (.getfield 137, 3) := by decide +kernel
theorem dX2_guess_49 : decode cX2_guess 49 = .ok (.iload 5, 2) := by decide +kernel
theorem dX2_guess_51 : decode cX2_guess 51 = .ok (.iaload, 1) := by decide +kernel
theorem dX2_guess_52 : decode cX2_guess 52 = .ok (.iaload, 1) := by decide +kernel
theorem dX2_guess_53 : decode cX2_guess 53 = .ok (.istore 6, 2) := by decide +kernel
theorem dX2_guess_55 : decode cX2_guess 55 = .ok (.aload_n 0, 1) := by decide +kernel
theorem dX2_guess_56 : decode cX2_guess 56 = .ok (.iload 6, 2) := by decide +kernel
theorem dX2_guess_58 : decode cX2_guess 58 = .ok (.invokevirtual 140, 3) := by decide +kernel
theorem dX2_guess_61 : decode cX2_guess 61 = .ok (.istore 7, 2) := by decide +kernel
theorem dX2_guess_63 : decode cX2_guess 63 = .ok (.iload 7, 2) := by decide +kernel
theorem dX2_guess_65 : decode cX2_guess 65 = .ok (.iload 4, 2) := by decide +kernel
theorem dX2_guess_67 : decode cX2_guess 67 = .ok (.if_icmp .le 10, 3) := by decide +kernel
theorem dX2_guess_70 : decode cX2_guess 70 = .ok (.iload 7, 2) := by decide +kernel
theorem dX2_guess_72 : decode cX2_guess 72 = .ok (.istore 4, 2) := by decide +kernel
theorem dX2_guess_74 : decode cX2_guess 74 = .ok (.iload 6, 2) := by decide +kernel
theorem dX2_guess_76 : decode cX2_guess 76 = .ok (.istore_n 3, 1) := by decide +kernel
theorem dX2_guess_77 : decode cX2_guess 77 = .ok (.iinc 5 1, 3) := by decide +kernel
theorem dX2_guess_80 : decode cX2_guess 80 = .ok (.goto (-48), 3) := by decide +kernel
theorem dX2_guess_83 : decode cX2_guess 83 = .ok (.iload_n 3, 1) := by decide +kernel
theorem dX2_guess_84 : decode cX2_guess 84 = .ok (.ireturn, 1) := by decide +kernel
theorem dX2_votesFor_0 : decode cX2_votesFor 0 = .ok (.iconst 0, 1) := by decide +kernel
theorem dX2_votesFor_1 : decode cX2_votesFor 1 = .ok (.istore_n 2, 1) := by decide +kernel
theorem dX2_votesFor_2 : decode cX2_votesFor 2 = .ok (.iconst 0, 1) := by decide +kernel
theorem dX2_votesFor_3 : decode cX2_votesFor 3 = .ok (.istore_n 3, 1) := by decide +kernel
theorem dX2_votesFor_4 : decode cX2_votesFor 4 = .ok (.iload_n 3, 1) := by decide +kernel
theorem dX2_votesFor_5 : decode cX2_votesFor 5 = .ok (.aload_n 0, 1) := by decide +kernel
theorem dX2_votesFor_6 : decode cX2_votesFor 6 = .ok (.getfield 45, 3) := by decide +kernel
theorem dX2_votesFor_9 : decode cX2_votesFor 9 = .ok (.getfield 129, 3) := by decide +kernel
theorem dX2_votesFor_12 : decode cX2_votesFor 12 = .ok (.if_icmp .ge 30, 3) := by decide +kernel
theorem dX2_votesFor_15 : decode cX2_votesFor 15 = .ok (.aload_n 0, 1) := by decide +kernel
theorem dX2_votesFor_16 : decode cX2_votesFor 16 = .ok (.getfield 23, 3) := by decide +kernel
theorem dX2_votesFor_19 : decode cX2_votesFor 19 = .ok (.aload_n 0, 1) := by decide +kernel
theorem dX2_votesFor_20 : decode cX2_votesFor 20 = .ok (.getfield 45, 3) := by decide +kernel
theorem dX2_votesFor_23 : decode cX2_votesFor 23 = .ok (.getfield 137, 3) := by decide +kernel
theorem dX2_votesFor_26 : decode cX2_votesFor 26 = .ok (.iload_n 3, 1) := by decide +kernel
theorem dX2_votesFor_27 : decode cX2_votesFor 27 = .ok (.iaload, 1) := by decide +kernel
theorem dX2_votesFor_28 : decode cX2_votesFor 28 = .ok (.iaload, 1) := by decide +kernel
theorem dX2_votesFor_29 : decode cX2_votesFor 29 = .ok (.iload_n 1, 1) := by decide +kernel
theorem dX2_votesFor_30 : decode cX2_votesFor 30 = .ok (.if_icmp .ne 6, 3) := by decide +kernel
theorem dX2_votesFor_33 : decode cX2_votesFor 33 = .ok (.iinc 2 1, 3) := by decide +kernel
theorem dX2_votesFor_36 : decode cX2_votesFor 36 = .ok (.iinc 3 1, 3) := by decide +kernel
theorem dX2_votesFor_39 : decode cX2_votesFor 39 = .ok (.goto (-35), 3) := by decide +kernel
theorem dX2_votesFor_42 : decode cX2_votesFor 42 = .ok (.iload_n 2, 1) := by decide +kernel
theorem dX2_votesFor_43 : decode cX2_votesFor 43 = .ok (.ireturn, 1) := by decide +kernel
theorem dX2_count_0 : decode cX2_count 0 = .ok (.iload_n 1, 1) := by decide +kernel
theorem dX2_count_1 : decode cX2_count 1 = .ok (.ifCond .lt 8, 3) := by decide +kernel
theorem dX2_count_4 : decode cX2_count 4 = .ok (.iload_n 1, 1) := by decide +kernel
theorem dX2_count_5 : decode cX2_count 5 = .ok (.iconst 4, 1) := by decide +kernel
theorem dX2_count_6 : decode cX2_count 6 = .ok (.if_icmp .le 13, 3) := by decide +kernel
theorem dX2_count_9 : decode cX2_count 9 = .ok (.new 52, 3) := by decide +kernel
theorem dX2_count_12 : decode cX2_count 12 = .ok (.dup, 1) := by decide +kernel
theorem dX2_count_13 : decode cX2_count 13 = .ok (.ldc 143, 2) := by decide +kernel
theorem dX2_count_15 : decode cX2_count 15 = .ok (.invokespecial 56, 3) := by decide +kernel
theorem dX2_count_18 : decode cX2_count 18 = .ok (.athrow, 1) := by decide +kernel
theorem dX2_count_19 : decode cX2_count 19 = .ok (.aload_n 0, 1) := by decide +kernel
theorem dX2_count_20 : decode cX2_count 20 = .ok (.getfield 49, 3) := by decide +kernel
theorem dX2_count_23 : decode cX2_count 23 = .ok (.iload_n 1, 1) := by decide +kernel
theorem dX2_count_24 : decode cX2_count 24 = .ok (.iaload, 1) := by decide +kernel
theorem dX2_count_25 : decode cX2_count 25 = .ok (.ireturn, 1) := by decide +kernel
theorem dX2_push_0 : decode cX2_push 0 = .ok (.iload_n 1, 1) := by decide +kernel
theorem dX2_push_1 : decode cX2_push 1 = .ok (.invokestatic 74, 3) := by decide +kernel
theorem dX2_push_4 : decode cX2_push 4 = .ok (.ifCond .ne 13, 3) := by decide +kernel
theorem dX2_push_7 : decode cX2_push 7 = .ok (.new 52, 3) := by decide +kernel
theorem dX2_push_10 : decode cX2_push 10 = .ok (.dup, 1) := by decide +kernel
theorem dX2_push_11 : decode cX2_push 11 = .ok (.ldc 78, 2) := by decide +kernel
theorem dX2_push_13 : decode cX2_push 13 = .ok (.invokespecial 56, 3) := by decide +kernel
theorem dX2_push_16 : decode cX2_push 16 = .ok (.athrow, 1) := by decide +kernel
theorem dX2_push_17 : decode cX2_push 17 = .ok (.aload_n 0, 1) := by decide +kernel
theorem dX2_push_18 : decode cX2_push 18 = .ok (.getfield 32, 3) := by decide +kernel
theorem dX2_push_21 : decode cX2_push 21 = .ok (.bipush 64, 2) := by decide +kernel
theorem dX2_push_23 : decode cX2_push 23 = .ok (.if_icmp .lt 13, 3) := by decide +kernel
theorem dX2_push_26 : decode cX2_push 26 = .ok (.new 82, 3) := by decide +kernel
theorem dX2_push_29 : decode cX2_push 29 = .ok (.dup, 1) := by decide +kernel
theorem dX2_push_30 : decode cX2_push 30 = .ok (.ldc 145, 2) := by decide +kernel
theorem dX2_push_32 : decode cX2_push 32 = .ok (.invokespecial 86, 3) := by decide +kernel
theorem dX2_push_35 : decode cX2_push 35 = .ok (.athrow, 1) := by decide +kernel
theorem dX2_push_36 : decode cX2_push 36 = .ok (.aload_n 0, 1) := by decide +kernel
theorem dX2_push_37 : decode cX2_push 37 = .ok (.getfield 29, 3) := by decide +kernel
theorem dX2_push_40 : decode cX2_push 40 = .ok (.aload_n 0, 1) := by decide +kernel
theorem dX2_push_41 : decode cX2_push 41 = .ok (.getfield 32, 3) := by decide +kernel
theorem dX2_push_44 : decode cX2_push 44 = .ok (.iload_n 1, 1) := by decide +kernel
theorem dX2_push_45 : decode cX2_push 45 = .ok (.iastore, 1) := by decide +kernel
theorem dX2_push_46 : decode cX2_push 46 = .ok (.aload_n 0, 1) := by decide +kernel
theorem dX2_push_47 : decode cX2_push 47 = .ok (.dup, 1) := by decide +kernel
theorem dX2_push_48 : decode cX2_push 48 = .ok (.getfield 32, 3) := by decide +kernel
theorem dX2_push_51 : decode cX2_push 51 = .ok (.iconst 1, 1) := by decide +kernel
theorem dX2_push_52 : decode cX2_push 52 = .ok (.iadd, 1) := by decide +kernel
theorem dX2_push_53 : decode cX2_push 53 = .ok (.putfield 32, 3) := by decide +kernel
theorem dX2_push_56 : decode cX2_push 56 = .ok (.aload_n 0, 1) := by decide +kernel
theorem dX2_push_57 : decode cX2_push 57 = .ok (.getfield 32, 3) := by decide +kernel
theorem dX2_push_60 : decode cX2_push 60 = .ok (.ireturn, 1) := by decide +kernel
theorem dX2_scan_0 : decode cX2_scan 0 = .ok (.iload_n 1, 1) := by decide +kernel
theorem dX2_scan_1 : decode cX2_scan 1 = .ok (.invokestatic 119, 3) := by decide +kernel
theorem dX2_scan_4 : decode cX2_scan 4 = .ok (.aload_n 0, 1) := by decide +kernel
theorem dX2_scan_5 : decode cX2_scan 5 = .ok (.getfield 32, 3) := by decide +kernel
theorem dX2_scan_8 : decode cX2_scan 8 = .ok (.aload_n 0, 1) := by decide +kernel
theorem dX2_scan_9 : decode cX2_scan 9 = .ok (.getfield 9, 3) := by decide +kernel
theorem dX2_scan_12 : decode cX2_scan 12 = .ok (.if_icmp .ge 13, 3) := by decide +kernel
theorem dX2_scan_15 : decode cX2_scan 15 = .ok (.new 82, 3) := by decide +kernel
theorem dX2_scan_18 : decode cX2_scan 18 = .ok (.dup, 1) := by decide +kernel
theorem dX2_scan_19 : decode cX2_scan 19 = .ok (.ldc 147, 2) := by decide +kernel
theorem dX2_scan_21 : decode cX2_scan 21 = .ok (.invokespecial 86, 3) := by decide +kernel
theorem dX2_scan_24 : decode cX2_scan 24 = .ok (.athrow, 1) := by decide +kernel
theorem dX2_scan_25 : decode cX2_scan 25 = .ok (.aload_n 0, 1) := by decide +kernel
theorem dX2_scan_26 : decode cX2_scan 26 = .ok (.aload_n 0, 1) := by decide +kernel
theorem dX2_scan_27 : decode cX2_scan 27 = .ok (.getfield 29, 3) := by decide +kernel
theorem dX2_scan_30 : decode cX2_scan 30 = .ok (.aload_n 0, 1) := by decide +kernel
theorem dX2_scan_31 : decode cX2_scan 31 = .ok (.getfield 32, 3) := by decide +kernel
theorem dX2_scan_34 : decode cX2_scan 34 = .ok (.aload_n 0, 1) := by decide +kernel
theorem dX2_scan_35 : decode cX2_scan 35 = .ok (.getfield 9, 3) := by decide +kernel
theorem dX2_scan_38 : decode cX2_scan 38 = .ok (.isub, 1) := by decide +kernel
theorem dX2_scan_39 : decode cX2_scan 39 = .ok (.iconst 1, 1) := by decide +kernel
theorem dX2_scan_40 : decode cX2_scan 40 = .ok (.iadd, 1) := by decide +kernel
theorem dX2_scan_41 : decode cX2_scan 41 = .ok (.iconst 1, 1) := by decide +kernel
theorem dX2_scan_42 : decode cX2_scan 42 = .ok (.iload_n 1, 1) := by decide +kernel
theorem dX2_scan_43 : decode cX2_scan 43 = .ok (.invokevirtual 125, 3) := by decide +kernel
theorem dX2_scan_46 : decode cX2_scan 46 = .ok (.ireturn, 1) := by decide +kernel
theorem dX2_shift_0 : decode cX2_shift 0 = .ok (.iload_n 1, 1) := by decide +kernel
theorem dX2_shift_1 : decode cX2_shift 1 = .ok (.ifCond .lt 11, 3) := by decide +kernel
theorem dX2_shift_4 : decode cX2_shift 4 = .ok (.iload_n 1, 1) := by decide +kernel
theorem dX2_shift_5 : decode cX2_shift 5 = .ok (.aload_n 0, 1) := by decide +kernel
theorem dX2_shift_6 : decode cX2_shift 6 = .ok (.getfield 32, 3) := by decide +kernel
theorem dX2_shift_9 : decode cX2_shift 9 = .ok (.if_icmp .le 13, 3) := by decide +kernel
theorem dX2_shift_12 : decode cX2_shift 12 = .ok (.new 52, 3) := by decide +kernel
theorem dX2_shift_15 : decode cX2_shift 15 = .ok (.dup, 1) := by decide +kernel
theorem dX2_shift_16 : decode cX2_shift 16 = .ok (.ldc 149, 2) := by decide +kernel
theorem dX2_shift_18 : decode cX2_shift 18 = .ok (.invokespecial 56, 3) := by decide +kernel
theorem dX2_shift_21 : decode cX2_shift 21 = .ok (.athrow, 1) := by decide +kernel
theorem dX2_shift_22 : decode cX2_shift 22 = .ok (.aload_n 0, 1) := by decide +kernel
theorem dX2_shift_23 : decode cX2_shift 23 = .ok (.getfield 29, 3) := by decide +kernel
theorem dX2_shift_26 : decode cX2_shift 26 = .ok (.iload_n 1, 1) := by decide +kernel
theorem dX2_shift_27 : decode cX2_shift 27 = .ok (.aload_n 0, 1) := by decide +kernel
theorem dX2_shift_28 : decode cX2_shift 28 = .ok (.getfield 29, 3) := by decide +kernel
theorem dX2_shift_31 : decode cX2_shift 31 = .ok (.iconst 0, 1) := by decide +kernel
theorem dX2_shift_32 : decode cX2_shift 32 = .ok (.aload_n 0, 1) := by decide +kernel
theorem dX2_shift_33 : decode cX2_shift 33 = .ok (.getfield 32, 3) := by decide +kernel
theorem dX2_shift_36 : decode cX2_shift 36 = .ok (.iload_n 1, 1) := by decide +kernel
theorem dX2_shift_37 : decode cX2_shift 37 = .ok (.isub, 1) := by decide +kernel
theorem dX2_shift_38 : decode cX2_shift 38 = .ok (.invokestatic 87, 3) := by decide +kernel
theorem dX2_shift_41 : decode cX2_shift 41 = .ok (.aload_n 0, 1) := by decide +kernel
theorem dX2_shift_42 : decode cX2_shift 42 = .ok (.dup, 1) := by decide +kernel
theorem dX2_shift_43 : decode cX2_shift 43 = .ok (.getfield 32, 3) := by decide +kernel
theorem dX2_shift_46 : decode cX2_shift 46 = .ok (.iload_n 1, 1) := by decide +kernel
theorem dX2_shift_47 : decode cX2_shift 47 = .ok (.isub, 1) := by decide +kernel
theorem dX2_shift_48 : decode cX2_shift 48 = .ok (.putfield 32, 3) := by decide +kernel
theorem dX2_shift_51 : decode cX2_shift 51 = .ok (.return_, 1) := by decide +kernel
