theorem dX0_init_0 : decode cX0_init 0 = .ok (.aload_n 0, 1) := by decide +kernel
theorem dX0_init_1 : decode cX0_init 1 = .ok (.invokespecial 3, 3) := by decide +kernel
theorem dX0_init_4 : decode cX0_init 4 = .ok (.aload_n 0, 1) := by decide +kernel
theorem dX0_init_5 : decode cX0_init 5 = .ok (.bipush 16, 2) := by decide +kernel
theorem dX0_init_7 : decode cX0_init 7 = .ok (.newarray .int, 2) := by decide +kernel
theorem dX0_init_9 : decode cX0_init 9 = .ok (.putfield 9, 3) := by decide +kernel
theorem dX0_init_12 : decode cX0_init 12 = .ok (.aload_n 0, 1) := by decide +kernel
theorem dX0_init_13 : decode cX0_init 13 = .ok (.bipush 16, 2) := by decide +kernel
theorem dX0_init_15 : decode cX0_init 15 = .ok (.newarray .int, 2) := by decide +kernel
theorem dX0_init_17 : decode cX0_init 17 = .ok (.putfield 15, 3) := by decide +kernel
theorem dX0_init_20 : decode cX0_init 20 = .ok (.aload_n 0, 1) := by decide +kernel
theorem dX0_init_21 : decode cX0_init 21 = .ok (.sipush 256, 3) := by decide +kernel
theorem dX0_init_24 : decode cX0_init 24 = .ok (.newarray .int, 2) := by decide +kernel
theorem dX0_init_26 : decode cX0_init 26 = .ok (.putfield 18, 3) := by decide +kernel
theorem dX0_init_29 : decode cX0_init 29 = .ok (.aload_n 0, 1) := by decide +kernel
theorem dX0_init_30 : decode cX0_init 30 = .ok (.bipush 31, 2) := by decide +kernel
theorem dX0_init_32 : decode cX0_init 32 = .ok (.newarray .int, 2) := by decide +kernel
theorem dX0_init_34 : decode cX0_init 34 = .ok (.putfield 21, 3) := by decide +kernel
theorem dX0_init_37 : decode cX0_init 37 = .ok (.aload_n 0, 1) := by decide +kernel
theorem dX0_init_38 : decode cX0_init 38 = .ok (.bipush 31, 2) := by decide +kernel
theorem dX0_init_40 : decode cX0_init 40 = .ok (.putfield 24, 3) := by decide +kernel
theorem dX0_init_43 : decode cX0_init 43 = .ok (.aload_n 0, 1) := by decide +kernel
theorem dX0_init_44 : decode cX0_init 44 = .ok (.iconst 2, 1) := by decide +kernel
theorem dX0_init_45 : decode cX0_init 45 = .ok (.putfield 28, 3) := by decide +kernel
theorem dX0_init_48 : decode cX0_init 48 = .ok (.aload_n 0, 1) := by decide +kernel
theorem dX0_init_49 : decode cX0_init 49 = .ok (.iconst 0, 1) := by decide +kernel
theorem dX0_init_50 : decode cX0_init 50 = .ok (.putfield 31, 3) := by decide +kernel
theorem dX0_init_53 : decode cX0_init 53 = .ok (.return_, 1) := by decide +kernel
theorem dX1_init_0 : decode cX1_init 0 = .ok (.aload_n 0, 1) := by decide +kernel
theorem dX1_init_1 : decode cX1_init 1 = .ok (.invokespecial 3, 3) := by decide +kernel
theorem dX1_init_4 : decode cX1_init 4 = .ok (.aload_n 0, 1) := by decide +kernel
theorem dX1_init_5 : decode cX1_init 5 = .ok (.bipush 12, 2) := by decide +kernel
theorem dX1_init_7 : decode cX1_init 7 = .ok (.newarray .int, 2) := by decide +kernel
theorem dX1_init_9 : decode cX1_init 9 = .ok (.putfield 9, 3) := by decide +kernel
theorem dX1_init_12 : decode cX1_init 12 = .ok (.aload_n 0, 1) := by decide +kernel
theorem dX1_init_13 : decode cX1_init 13 = .ok (.bipush 12, 2) := by decide +kernel
theorem dX1_init_15 : decode cX1_init 15 = .ok (.newarray .int, 2) := by decide +kernel
theorem dX1_init_17 : decode cX1_init 17 = .ok (.putfield 15, 3) := by decide +kernel
theorem dX1_init_20 : decode cX1_init 20 = .ok (.aload_n 0, 1) := by decide +kernel
theorem dX1_init_21 : decode cX1_init 21 = .ok (.iconst 0, 1) := by decide +kernel
theorem dX1_init_22 : decode cX1_init 22 = .ok (.putfield 18, 3) := by decide +kernel
theorem dX1_init_25 : decode cX1_init 25 = .ok (.aload_n 0, 1) := by decide +kernel
theorem dX1_init_26 : decode cX1_init 26 = .ok (.iconst 1, 1) := by decide +kernel
theorem dX1_init_27 : decode cX1_init 27 = .ok (.putfield 22, 3) := by decide +kernel
theorem dX1_init_30 : decode cX1_init 30 = .ok (.return_, 1) := by decide +kernel
theorem dX1_startFor_0 : decode cX1_startFor 0 = .ok (.aload_n 0, 1) := by decide +kernel
theorem dX1_startFor_1 : decode cX1_startFor 1 = .ok (.iload_n 1, 1) := by decide +kernel
theorem dX1_startFor_2 : decode cX1_startFor 2 = .ok (.putfield 22, 3) := by decide +kernel
theorem dX1_startFor_5 : decode cX1_startFor 5 = .ok (.aload_n 0, 1) := by decide +kernel
theorem dX1_startFor_6 : decode cX1_startFor 6 = .ok (.iconst 0, 1) := by decide +kernel
theorem dX1_startFor_7 : decode cX1_startFor 7 = .ok (.putfield 18, 3) := by decide +kernel
theorem dX1_startFor_10 : decode cX1_startFor 10 = .ok (.return_, 1) := by decide +kernel
theorem dX0_placeQuestion_0 : decode cX0_placeQuestion 0 = .ok (.aload_n 1, 1) := by decide +kernel
theorem dX0_placeQuestion_1 : decode cX0_placeQuestion 1 = .ok (.iconst 0, 1) := by decide +kernel
theorem dX0_placeQuestion_2 : decode cX0_placeQuestion 2 = .ok (.aload_n 0, 1) := by decide +kernel
theorem dX0_placeQuestion_3 : decode cX0_placeQuestion 3 = .ok (.getfield 9, 3) := by decide +kernel
theorem dX0_placeQuestion_6 : decode cX0_placeQuestion 6 = .ok (.iconst 0, 1) := by decide +kernel
theorem dX0_placeQuestion_7 : decode cX0_placeQuestion 7 = .ok (.iload_n 2, 1) := by decide +kernel
theorem dX0_placeQuestion_8 : decode cX0_placeQuestion 8 = .ok (.invokestatic 34, 3) := by decide +kernel
theorem dX0_placeQuestion_11 : decode cX0_placeQuestion 11 = .ok (.aload_n 0, 1) := by decide +kernel
theorem dX0_placeQuestion_12 : decode cX0_placeQuestion 12 = .ok (.iload_n 2, 1) := by decide +kernel
theorem dX0_placeQuestion_13 : decode cX0_placeQuestion 13 = .ok (.putfield 28, 3) := by decide +kernel
theorem dX0_placeQuestion_16 : decode cX0_placeQuestion 16 = .ok (.aload_n 0, 1) := by decide +kernel
theorem dX0_placeQuestion_17 : decode cX0_placeQuestion 17 = .ok (.iload_n 3, 1) := by decide +kernel
theorem dX0_placeQuestion_18 : decode cX0_placeQuestion 18 = .ok (.putfield 31, 3) := by decide +kernel
theorem dX0_placeQuestion_21 : decode cX0_placeQuestion 21 = .ok (.return_, 1) := by decide +kernel
theorem dX0_placeBeside_0 : decode cX0_placeBeside 0 = .ok (.aload_n 1, 1) := by decide +kernel
theorem dX0_placeBeside_1 : decode cX0_placeBeside 1 = .ok (.iload_n 2, 1) := by decide +kernel
theorem dX0_placeBeside_2 : decode cX0_placeBeside 2 = .ok (.aload_n 0, 1) := by decide +kernel
theorem dX0_placeBeside_3 : decode cX0_placeBeside 3 = .ok (.getfield 15, 3) := by decide +kernel
theorem dX0_placeBeside_6 : decode cX0_placeBeside 6 = .ok (.iconst 0, 1) := by decide +kernel
theorem dX0_placeBeside_7 : decode cX0_placeBeside 7 = .ok (.aload_n 0, 1) := by decide +kernel
theorem dX0_placeBeside_8 : decode cX0_placeBeside 8 = .ok (.getfield 28, 3) := by decide +kernel
theorem dX0_placeBeside_11 : decode cX0_placeBeside 11 = .ok (.invokestatic 34, 3) := by decide +kernel
theorem dX0_placeBeside_14 : decode cX0_placeBeside 14 = .ok (.return_, 1) := by decide +kernel
theorem dX0_leastCost_0 : decode cX0_leastCost 0 = .ok (.iconst 0, 1) := by decide +kernel
theorem dX0_leastCost_1 : decode cX0_leastCost 1 = .ok (.istore_n 2, 1) := by decide +kernel
theorem dX0_leastCost_2 : decode cX0_leastCost 2 = .ok (.iload_n 2, 1) := by decide +kernel
theorem dX0_leastCost_3 : decode cX0_leastCost 3 = .ok (.aload_n 0, 1) := by decide +kernel
theorem dX0_leastCost_4 : decode cX0_leastCost 4 = .ok (.getfield 28, 3) := by decide +kernel
theorem dX0_leastCost_7 : decode cX0_leastCost 7 = .ok (.if_icmp .ge 27, 3) := by decide +kernel
theorem dX0_leastCost_10 : decode cX0_leastCost 10 = .ok (.aload_n 0, 1) := by decide +kernel
theorem dX0_leastCost_11 : decode cX0_leastCost 11 = .ok (.iload_n 2, 1) := by decide +kernel
theorem dX0_leastCost_12 : decode cX0_leastCost 12 = .ok (.invokevirtual 67, 3) := by decide +kernel
theorem dX0_leastCost_15 : decode cX0_leastCost 15 = .ok (.istore_n 3, 1) := by decide +kernel
theorem dX0_leastCost_16 : decode cX0_leastCost 16 = .ok (.iload_n 1, 1) := by decide +kernel
theorem dX0_leastCost_17 : decode cX0_leastCost 17 = .ok (.iconst (-1), 1) := by decide +kernel
theorem dX0_leastCost_18 : decode cX0_leastCost 18 = .ok (.if_icmp .eq 10, 3) := by decide +kernel
theorem dX0_leastCost_21 : decode cX0_leastCost 21 = .ok (.iload_n 3, 1) := by decide +kernel
theorem dX0_leastCost_22 : decode cX0_leastCost 22 = .ok (.iload_n 1, 1) := by decide +kernel
theorem dX0_leastCost_23 : decode cX0_leastCost 23 = .ok (.if_icmp .lt 5, 3) := by decide +kernel
theorem dX0_leastCost_26 : decode cX0_leastCost 26 = .ok (.iconst (-1), 1) := by decide +kernel
theorem dX0_leastCost_27 : decode cX0_leastCost 27 = .ok (.ireturn, 1) := by decide +kernel
theorem dX0_leastCost_28 : decode cX0_leastCost 28 = .ok (.iinc 2 1, 3) := by decide +kernel
theorem dX0_leastCost_31 : decode cX0_leastCost 31 = .ok (.goto (-29), 3) := by decide +kernel
theorem dX0_leastCost_34 : decode cX0_leastCost 34 = .ok (.aload_n 0, 1) := by decide +kernel
theorem dX0_leastCost_35 : decode cX0_leastCost 35 = .ok (.aload_n 0, 1) := by decide +kernel
theorem dX0_leastCost_36 : decode cX0_leastCost 36 = .ok (.getfield 28, 3) := by decide +kernel
theorem dX0_leastCost_39 : decode cX0_leastCost 39 = .ok (.iconst 1, 1) := by decide +kernel
theorem dX0_leastCost_40 : decode cX0_leastCost 40 = .ok (.isub, 1) := by decide +kernel
theorem dX0_leastCost_41 : decode cX0_leastCost 41 = .ok (.aload_n 0, 1) := by decide +kernel
theorem dX0_leastCost_42 : decode cX0_leastCost 42 = .ok (.getfield 28, 3) := by decide +kernel
theorem dX0_leastCost_45 : decode cX0_leastCost 45 = .ok (.iconst 1, 1) := by decide +kernel
theorem dX0_leastCost_46 : decode cX0_leastCost 46 = .ok (.isub, 1) := by decide +kernel
theorem dX0_leastCost_47 : decode cX0_leastCost 47 = .ok (.invokevirtual 70, 3) := by decide +kernel
theorem dX0_leastCost_50 : decode cX0_leastCost 50 = .ok (.ireturn, 1) := by decide +kernel
theorem dX0_fillLine_0 : decode cX0_fillLine 0 = .ok (.ldc 73, 2) := by decide +kernel
theorem dX0_fillLine_2 : decode cX0_fillLine 2 = .ok (.istore_n 2, 1) := by decide +kernel
theorem dX0_fillLine_3 : decode cX0_fillLine 3 = .ok (.aload_n 0, 1) := by decide +kernel
theorem dX0_fillLine_4 : decode cX0_fillLine 4 = .ok (.iload_n 1, 1) := by decide +kernel
theorem dX0_fillLine_5 : decode cX0_fillLine 5 = .ok (.invokevirtual 48, 3) := by decide +kernel
theorem dX0_fillLine_8 : decode cX0_fillLine 8 = .ok (.istore_n 3, 1) := by decide +kernel
theorem dX0_fillLine_9 : decode cX0_fillLine 9 = .ok (.aload_n 0, 1) := by decide +kernel
theorem dX0_fillLine_10 : decode cX0_fillLine 10 = .ok (.iload_n 1, 1) := by decide +kernel
theorem dX0_fillLine_11 : decode cX0_fillLine 11 = .ok (.invokevirtual 51, 3) := by decide +kernel
theorem dX0_fillLine_14 : decode cX0_fillLine 14 = .ok (.istore 4, 2) := by decide +kernel
theorem dX0_fillLine_16 : decode cX0_fillLine 16 = .ok (.iload 4, 2) := by decide +kernel
theorem dX0_fillLine_18 : decode cX0_fillLine 18 = .ok (.iload_n 3, 1) := by decide +kernel
theorem dX0_fillLine_19 : decode cX0_fillLine 19 = .ok (.if_icmp .gt 57, 3) := by decide +kernel
theorem dX0_fillLine_22 : decode cX0_fillLine 22 = .ok (.aload_n 0, 1) := by decide +kernel
theorem dX0_fillLine_23 : decode cX0_fillLine 23 = .ok (.iload_n 1, 1) := by decide +kernel
theorem dX0_fillLine_24 : decode cX0_fillLine 24 = .ok (.iload 4, 2) := by decide +kernel
theorem dX0_fillLine_26 : decode cX0_fillLine 26 = .ok (.invokevirtual 74, 3) := by decide +kernel
theorem dX0_fillLine_29 : decode cX0_fillLine 29 = .ok (.aload_n 0, 1) := by decide +kernel
theorem dX0_fillLine_30 : decode cX0_fillLine 30 = .ok (.getfield 9, 3) := by decide +kernel
theorem dX0_fillLine_33 : decode cX0_fillLine 33 = .ok (.iload_n 1, 1) := by decide +kernel
theorem dX0_fillLine_34 : decode cX0_fillLine 34 = .ok (.iaload, 1) := by decide +kernel
theorem dX0_fillLine_35 : decode cX0_fillLine 35 = .ok (.aload_n 0, 1) := by decide +kernel
theorem dX0_fillLine_36 : decode cX0_fillLine 36 = .ok (.getfield 15, 3) := by decide +kernel
theorem dX0_fillLine_39 : decode cX0_fillLine 39 = .ok (.iload 4, 2) := by decide +kernel
theorem dX0_fillLine_41 : decode cX0_fillLine 41 = .ok (.iaload, 1) := by decide +kernel
theorem dX0_fillLine_42 : decode cX0_fillLine 42 = .ok (.isub, 1) := by decide +kernel
theorem dX0_fillLine_43 : decode cX0_fillLine 43 = .ok (.invokestatic 40, 3) := by decide +kernel
theorem dX0_fillLine_46 : decode cX0_fillLine 46 = .ok (.iadd, 1) := by decide +kernel
theorem dX0_fillLine_47 : decode cX0_fillLine 47 = .ok (.istore 5, 2) := by decide +kernel
theorem dX0_fillLine_49 : decode cX0_fillLine 49 = .ok (.aload_n 0, 1) := by decide +kernel
theorem dX0_fillLine_50 : decode cX0_fillLine 50 = .ok (.getfield 18, 3) := by decide +kernel
theorem dX0_fillLine_53 : decode cX0_fillLine 53 = .ok (.bipush 16, 2) := by decide +kernel
theorem dX0_fillLine_55 : decode cX0_fillLine 55 = .ok (.iload_n 1, 1) := by decide +kernel
theorem dX0_fillLine_56 : decode cX0_fillLine 56 = .ok (.imul, 1) := by decide +kernel
theorem dX0_fillLine_57 : decode cX0_fillLine 57 = .ok (.iload 4, 2) := by decide +kernel
theorem dX0_fillLine_59 : decode cX0_fillLine 59 = .ok (.iadd, 1) := by decide +kernel
theorem dX0_fillLine_60 : decode cX0_fillLine 60 = .ok (.iload 5, 2) := by decide +kernel
theorem dX0_fillLine_62 : decode cX0_fillLine 62 = .ok (.iastore, 1) := by decide +kernel
theorem dX0_fillLine_63 : decode cX0_fillLine 63 = .ok (.iload_n 2, 1) := by decide +kernel
theorem dX0_fillLine_64 : decode cX0_fillLine 64 = .ok (.iload 5, 2) := by decide +kernel
theorem dX0_fillLine_66 : decode cX0_fillLine 66 = .ok (.invokestatic 54, 3) := by decide +kernel
theorem dX0_fillLine_69 : decode cX0_fillLine 69 = .ok (.istore_n 2, 1) := by decide +kernel
theorem dX0_fillLine_70 : decode cX0_fillLine 70 = .ok (.iinc 4 1, 3) := by decide +kernel
theorem dX0_fillLine_73 : decode cX0_fillLine 73 = .ok (.goto (-57), 3) := by decide +kernel
theorem dX0_fillLine_76 : decode cX0_fillLine 76 = .ok (.iload_n 2, 1) := by decide +kernel
theorem dX0_fillLine_77 : decode cX0_fillLine 77 = .ok (.ireturn, 1) := by decide +kernel
theorem dX0_lastInBand_0 : decode cX0_lastInBand 0 = .ok (.iload_n 1, 1) := by decide +kernel
theorem dX0_lastInBand_1 : decode cX0_lastInBand 1 = .ok (.aload_n 0, 1) := by decide +kernel
theorem dX0_lastInBand_2 : decode cX0_lastInBand 2 = .ok (.getfield 31, 3) := by decide +kernel
theorem dX0_lastInBand_5 : decode cX0_lastInBand 5 = .ok (.iadd, 1) := by decide +kernel
theorem dX0_lastInBand_6 : decode cX0_lastInBand 6 = .ok (.aload_n 0, 1) := by decide +kernel
theorem dX0_lastInBand_7 : decode cX0_lastInBand 7 = .ok (.getfield 28, 3) := by decide +kernel
theorem dX0_lastInBand_10 : decode cX0_lastInBand 10 = .ok (.if_icmp .ge 12, 3) := by decide +kernel
theorem dX0_lastInBand_13 : decode cX0_lastInBand 13 = .ok (.iload_n 1, 1) := by decide +kernel
theorem dX0_lastInBand_14 : decode cX0_lastInBand 14 = .ok (.aload_n 0, 1) := by decide +kernel
theorem dX0_lastInBand_15 : decode cX0_lastInBand 15 = .ok (.getfield 31, 3) := by decide +kernel
theorem dX0_lastInBand_18 : decode cX0_lastInBand 18 = .ok (.iadd, 1) := by decide +kernel
theorem dX0_lastInBand_19 : decode cX0_lastInBand 19 = .ok (.goto 9, 3) := by decide +kernel
theorem dX0_lastInBand_22 : decode cX0_lastInBand 22 = .ok (.aload_n 0, 1) := by decide +kernel
theorem dX0_lastInBand_23 : decode cX0_lastInBand 23 = .ok (.getfield 28, 3) := by decide +kernel
theorem dX0_lastInBand_26 : decode cX0_lastInBand 26 = .ok (.iconst 1, 1) := by decide +kernel
theorem dX0_lastInBand_27 : decode cX0_lastInBand 27 = .ok (.isub, 1) := by decide +kernel
theorem dX0_lastInBand_28 : decode cX0_lastInBand 28 = .ok (.ireturn, 1) := by decide +kernel
theorem dX0_firstInBand_0 : decode cX0_firstInBand 0 = .ok (.iload_n 1, 1) := by decide +kernel
theorem dX0_firstInBand_1 : decode cX0_firstInBand 1 = .ok (.aload_n 0, 1) := by decide +kernel
theorem dX0_firstInBand_2 : decode cX0_firstInBand 2 = .ok (.getfield 31, 3) := by decide +kernel
theorem dX0_firstInBand_5 : decode cX0_firstInBand 5 = .ok (.if_icmp .le 12, 3) := by decide +kernel
theorem dX0_firstInBand_8 : decode cX0_firstInBand 8 = .ok (.iload_n 1, 1) := by decide +kernel
theorem dX0_firstInBand_9 : decode cX0_firstInBand 9 = .ok (.aload_n 0, 1) := by decide +kernel
theorem dX0_firstInBand_10 : decode cX0_firstInBand 10 = .ok (.getfield 31, 3) := by decide +kernel
theorem dX0_firstInBand_13 : decode cX0_firstInBand 13 = .ok (.isub, 1) := by decide +kernel
theorem dX0_firstInBand_14 : decode cX0_firstInBand 14 = .ok (.goto 4, 3) := by decide +kernel
theorem dX0_firstInBand_17 : decode cX0_firstInBand 17 = .ok (.iconst 0, 1) := by decide +kernel
theorem dX0_firstInBand_18 : decode cX0_firstInBand 18 = .ok (.ireturn, 1) := by decide +kernel
theorem dX0_leastBefore_0 : decode cX0_leastBefore 0 = .ok (.iload_n 1, 1) := by decide +kernel
theorem dX0_leastBefore_1 : decode cX0_leastBefore 1 = .ok (.ifCond .ne 9, 3) := by decide +kernel
theorem dX0_leastBefore_4 : decode cX0_leastBefore 4 = .ok (.iload_n 2, 1) := by decide +kernel
theorem dX0_leastBefore_5 : decode cX0_leastBefore 5 = .ok (.ifCond .ne 5, 3) := by decide +kernel
theorem dX0_leastBefore_8 : decode cX0_leastBefore 8 = .ok (.iconst 0, 1) := by decide +kernel
theorem dX0_leastBefore_9 : decode cX0_leastBefore 9 = .ok (.ireturn, 1) := by decide +kernel
theorem dX0_leastBefore_10 : decode cX0_leastBefore 10 = .ok (.aload_n 0, 1) := by decide +kernel
theorem dX0_leastBefore_11 : decode cX0_leastBefore 11 = .ok (.iload_n 1, 1) := by decide +kernel
theorem dX0_leastBefore_12 : decode cX0_leastBefore 12 = .ok (.iconst 1, 1) := by decide +kernel
theorem dX0_leastBefore_13 : decode cX0_leastBefore 13 = .ok (.isub, 1) := by decide +kernel
theorem dX0_leastBefore_14 : decode cX0_leastBefore 14 = .ok (.iload_n 2, 1) := by decide +kernel
theorem dX0_leastBefore_15 : decode cX0_leastBefore 15 = .ok (.iconst 1, 1) := by decide +kernel
theorem dX0_leastBefore_16 : decode cX0_leastBefore 16 = .ok (.isub, 1) := by decide +kernel
theorem dX0_leastBefore_17 : decode cX0_leastBefore 17 = .ok (.invokevirtual 70, 3) := by decide +kernel
theorem dX0_leastBefore_20 : decode cX0_leastBefore 20 = .ok (.aload_n 0, 1) := by decide +kernel
theorem dX0_leastBefore_21 : decode cX0_leastBefore 21 = .ok (.iload_n 1, 1) := by decide +kernel
theorem dX0_leastBefore_22 : decode cX0_leastBefore 22 = .ok (.iconst 1, 1) := by decide +kernel
theorem dX0_leastBefore_23 : decode cX0_leastBefore 23 = .ok (.isub, 1) := by decide +kernel
theorem dX0_leastBefore_24 : decode cX0_leastBefore 24 = .ok (.iload_n 2, 1) := by decide +kernel
theorem dX0_leastBefore_25 : decode cX0_leastBefore 25 = .ok (.invokevirtual 70, 3) := by decide +kernel
theorem dX0_leastBefore_28 : decode cX0_leastBefore 28 = .ok (.aload_n 0, 1) := by decide +kernel
theorem dX0_leastBefore_29 : decode cX0_leastBefore 29 = .ok (.iload_n 1, 1) := by decide +kernel
theorem dX0_leastBefore_30 : decode cX0_leastBefore 30 = .ok (.iload_n 2, 1) := by decide +kernel
theorem dX0_leastBefore_31 : decode cX0_leastBefore 31 = .ok (.iconst 1, 1) := by decide +kernel
theorem dX0_leastBefore_32 : decode cX0_leastBefore 32 = .ok (.isub, 1) := by decide +kernel
theorem dX0_leastBefore_33 : decode cX0_leastBefore 33 = .ok (.invokevirtual 70, 3) := by decide +kernel
theorem dX0_leastBefore_36 : decode cX0_leastBefore 36 = .ok (.invokestatic 54, 3) := by decide +kernel
theorem dX0_leastBefore_39 : decode cX0_leastBefore 39 = .ok (.invokestatic 54, 3) := by decide +kernel
theorem dX0_leastBefore_42 : decode cX0_leastBefore 42 = .ok (.ireturn, 1) := by decide +kernel
theorem dX0_costAt_0 : decode cX0_costAt 0 = .ok (.iload_n 1, 1) := by decide +kernel
theorem dX0_costAt_1 : decode cX0_costAt 1 = .ok (.ifCond .lt 31, 3) := by decide +kernel
theorem dX0_costAt_4 : decode cX0_costAt 4 = .ok (.iload_n 2, 1) := by decide +kernel
theorem dX0_costAt_5 : decode cX0_costAt 5 = .ok (.ifCond .lt 27, 3) := by decide +kernel
theorem dX0_costAt_8 : decode cX0_costAt 8 = .ok (.iload_n 1, 1) := by decide +kernel
theorem dX0_costAt_9 : decode cX0_costAt 9 = .ok (.iload_n 2, 1) := by decide +kernel
theorem dX0_costAt_10 : decode cX0_costAt 10 = .ok (.isub, 1) := by decide +kernel
theorem dX0_costAt_11 : decode cX0_costAt 11 = .ok (.aload_n 0, 1) := by decide +kernel
theorem dX0_costAt_12 : decode cX0_costAt 12 = .ok (.getfield 31, 3) := by decide +kernel
theorem dX0_costAt_15 : decode cX0_costAt 15 = .ok (.if_icmp .gt 17, 3) := by decide +kernel
theorem dX0_costAt_18 : decode cX0_costAt 18 = .ok (.iload_n 2, 1) := by decide +kernel
theorem dX0_costAt_19 : decode cX0_costAt 19 = .ok (.iload_n 1, 1) := by decide +kernel
theorem dX0_costAt_20 : decode cX0_costAt 20 = .ok (.isub, 1) := by decide +kernel
theorem dX0_costAt_21 : decode cX0_costAt 21 = .ok (.aload_n 0, 1) := by decide +kernel
theorem dX0_costAt_22 : decode cX0_costAt 22 = .ok (.getfield 31, 3) := by decide +kernel
theorem dX0_costAt_25 : decode cX0_costAt 25 = .ok (.if_icmp .gt 7, 3) := by decide +kernel
theorem dX0_costAt_28 : decode cX0_costAt 28 = .ok (.iconst 1, 1) := by decide +kernel
theorem dX0_costAt_29 : decode cX0_costAt 29 = .ok (.goto 4, 3) := by decide +kernel
theorem dX0_costAt_32 : decode cX0_costAt 32 = .ok (.iconst 0, 1) := by decide +kernel
theorem dX0_costAt_33 : decode cX0_costAt 33 = .ok (.istore_n 3, 1) := by decide +kernel
theorem dX0_costAt_34 : decode cX0_costAt 34 = .ok (.iload_n 3, 1) := by decide +kernel
theorem dX0_costAt_35 : decode cX0_costAt 35 = .ok (.ifCond .eq 17, 3) := by decide +kernel
theorem dX0_costAt_38 : decode cX0_costAt 38 = .ok (.aload_n 0, 1) := by decide +kernel
theorem dX0_costAt_39 : decode cX0_costAt 39 = .ok (.getfield 18, 3) := by decide +kernel
theorem dX0_costAt_42 : decode cX0_costAt 42 = .ok (.bipush 16, 2) := by decide +kernel
theorem dX0_costAt_44 : decode cX0_costAt 44 = .ok (.iload_n 1, 1) := by decide +kernel
theorem dX0_costAt_45 : decode cX0_costAt 45 = .ok (.imul, 1) := by decide +kernel
theorem dX0_costAt_46 : decode cX0_costAt 46 = .ok (.iload_n 2, 1) := by decide +kernel
theorem dX0_costAt_47 : decode cX0_costAt 47 = .ok (.iadd, 1) := by decide +kernel
theorem dX0_costAt_48 : decode cX0_costAt 48 = .ok (.iaload, 1) := by decide +kernel
theorem dX0_costAt_49 : decode cX0_costAt 49 = .ok (.goto 5, 3) := by decide +kernel
theorem dX0_costAt_52 : decode cX0_costAt 52 = .ok (.ldc 73, 2) := by decide +kernel
theorem dX0_costAt_54 : decode cX0_costAt 54 = .ok (.ireturn, 1) := by decide +kernel
theorem dX0_square_0 : decode cX0_square 0 = .ok (.iload_n 0, 1) := by decide +kernel
theorem dX0_square_1 : decode cX0_square 1 = .ok (.iload_n 0, 1) := by decide +kernel
theorem dX0_square_2 : decode cX0_square 2 = .ok (.imul, 1) := by decide +kernel
theorem dX0_square_3 : decode cX0_square 3 = .ok (.ireturn, 1) := by decide +kernel
theorem dX0_lowerBound_0 : decode cX0_lowerBound 0 = .ok (.iload_n 1, 1) := by decide +kernel
theorem dX0_lowerBound_1 : decode cX0_lowerBound 1 = .ok (.ifCond .ne 47, 3) := by decide +kernel
theorem dX0_lowerBound_4 : decode cX0_lowerBound 4 = .ok (.aload_n 0, 1) := by decide +kernel
theorem dX0_lowerBound_5 : decode cX0_lowerBound 5 = .ok (.getfield 9, 3) := by decide +kernel
theorem dX0_lowerBound_8 : decode cX0_lowerBound 8 = .ok (.iconst 0, 1) := by decide +kernel
theorem dX0_lowerBound_9 : decode cX0_lowerBound 9 = .ok (.iaload, 1) := by decide +kernel
theorem dX0_lowerBound_10 : decode cX0_lowerBound 10 = .ok (.aload_n 0, 1) := by decide +kernel
theorem dX0_lowerBound_11 : decode cX0_lowerBound 11 = .ok (.getfield 15, 3) := by decide +kernel
theorem dX0_lowerBound_14 : decode cX0_lowerBound 14 = .ok (.iconst 0, 1) := by decide +kernel
theorem dX0_lowerBound_15 : decode cX0_lowerBound 15 = .ok (.iaload, 1) := by decide +kernel
theorem dX0_lowerBound_16 : decode cX0_lowerBound 16 = .ok (.isub, 1) := by decide +kernel
theorem dX0_lowerBound_17 : decode cX0_lowerBound 17 = .ok (.invokestatic 40, 3) := by decide +kernel
theorem dX0_lowerBound_20 : decode cX0_lowerBound 20 = .ok (.aload_n 0, 1) := by decide +kernel
theorem dX0_lowerBound_21 : decode cX0_lowerBound 21 = .ok (.getfield 9, 3) := by decide +kernel
theorem dX0_lowerBound_24 : decode cX0_lowerBound 24 = .ok (.aload_n 0, 1) := by decide +kernel
theorem dX0_lowerBound_25 : decode cX0_lowerBound 25 = .ok (.getfield 28, 3) := by decide +kernel
theorem dX0_lowerBound_28 : decode cX0_lowerBound 28 = .ok (.iconst 1, 1) := by decide +kernel
theorem dX0_lowerBound_29 : decode cX0_lowerBound 29 = .ok (.isub, 1) := by decide +kernel
theorem dX0_lowerBound_30 : decode cX0_lowerBound 30 = .ok (.iaload, 1) := by decide +kernel
theorem dX0_lowerBound_31 : decode cX0_lowerBound 31 = .ok (.aload_n 0, 1) := by decide +kernel
theorem dX0_lowerBound_32 : decode cX0_lowerBound 32 = .ok (.getfield 15, 3) := by decide +kernel
theorem dX0_lowerBound_35 : decode cX0_lowerBound 35 = .ok (.aload_n 0, 1) := by decide +kernel
theorem dX0_lowerBound_36 : decode cX0_lowerBound 36 = .ok (.getfield 28, 3) := by decide +kernel
theorem dX0_lowerBound_39 : decode cX0_lowerBound 39 = .ok (.iconst 1, 1) := by decide +kernel
theorem dX0_lowerBound_40 : decode cX0_lowerBound 40 = .ok (.isub, 1) := by decide +kernel
theorem dX0_lowerBound_41 : decode cX0_lowerBound 41 = .ok (.iaload, 1) := by decide +kernel
theorem dX0_lowerBound_42 : decode cX0_lowerBound 42 = .ok (.isub, 1) := by decide +kernel
theorem dX0_lowerBound_43 : decode cX0_lowerBound 43 = .ok (.invokestatic 40, 3) := by decide +kernel
theorem dX0_lowerBound_46 : decode cX0_lowerBound 46 = .ok (.iadd, 1) := by decide +kernel
theorem dX0_lowerBound_47 : decode cX0_lowerBound 47 = .ok (.ireturn, 1) := by decide +kernel
theorem dX0_lowerBound_48 : decode cX0_lowerBound 48 = .ok (.iload_n 1, 1) := by decide +kernel
theorem dX0_lowerBound_49 : decode cX0_lowerBound 49 = .ok (.iconst 1, 1) := by decide +kernel
theorem dX0_lowerBound_50 : decode cX0_lowerBound 50 = .ok (.if_icmp .ne 18, 3) := by decide +kernel
theorem dX0_lowerBound_53 : decode cX0_lowerBound 53 = .ok (.aload_n 0, 1) := by decide +kernel
theorem dX0_lowerBound_54 : decode cX0_lowerBound 54 = .ok (.aload_n 0, 1) := by decide +kernel
theorem dX0_lowerBound_55 : decode cX0_lowerBound 55 = .ok (.getfield 9, 3) := by decide +kernel
theorem dX0_lowerBound_58 : decode cX0_lowerBound 58 = .ok (.aload_n 0, 1) := by decide +kernel
theorem dX0_lowerBound_59 : decode cX0_lowerBound 59 = .ok (.getfield 15, 3) := by decide +kernel
theorem dX0_lowerBound_62 : decode cX0_lowerBound 62 = .ok (.invokevirtual 44, 3) := by decide +kernel
theorem dX0_lowerBound_65 : decode cX0_lowerBound 65 = .ok (.goto 15, 3) := by decide +kernel
theorem dX0_lowerBound_68 : decode cX0_lowerBound 68 = .ok (.aload_n 0, 1) := by decide +kernel
theorem dX0_lowerBound_69 : decode cX0_lowerBound 69 = .ok (.aload_n 0, 1) := by decide +kernel
theorem dX0_lowerBound_70 : decode cX0_lowerBound 70 = .ok (.getfield 15, 3) := by decide +kernel
theorem dX0_lowerBound_73 : decode cX0_lowerBound 73 = .ok (.aload_n 0, 1) := by decide +kernel
theorem dX0_lowerBound_74 : decode cX0_lowerBound 74 = .ok (.getfield 9, 3) := by decide +kernel
theorem dX0_lowerBound_77 : decode cX0_lowerBound 77 = .ok (.invokevirtual 44, 3) := by decide +kernel
theorem dX0_lowerBound_80 : decode cX0_lowerBound 80 = .ok (.ireturn, 1) := by decide +kernel
theorem dX0_hullBound_0 : decode cX0_hullBound 0 = .ok (.iconst 0, 1) := by decide +kernel
theorem dX0_hullBound_1 : decode cX0_hullBound 1 = .ok (.istore_n 3, 1) := by decide +kernel
theorem dX0_hullBound_2 : decode cX0_hullBound 2 = .ok (.iconst 0, 1) := by decide +kernel
theorem dX0_hullBound_3 : decode cX0_hullBound 3 = .ok (.istore 4, 2) := by decide +kernel
theorem dX0_hullBound_5 : decode cX0_hullBound 5 = .ok (.iload 4, 2) := by decide +kernel
theorem dX0_hullBound_7 : decode cX0_hullBound 7 = .ok (.aload_n 0, 1) := by decide +kernel
theorem dX0_hullBound_8 : decode cX0_hullBound 8 = .ok (.getfield 28, 3) := by decide +kernel
theorem dX0_hullBound_11 : decode cX0_hullBound 11 = .ok (.if_icmp .ge 89, 3) := by decide +kernel
theorem dX0_hullBound_14 : decode cX0_hullBound 14 = .ok (.aload_n 1, 1) := by decide +kernel
theorem dX0_hullBound_15 : decode cX0_hullBound 15 = .ok (.iload 4, 2) := by decide +kernel
theorem dX0_hullBound_17 : decode cX0_hullBound 17 = .ok (.iaload, 1) := by decide +kernel
theorem dX0_hullBound_18 : decode cX0_hullBound 18 = .ok (.istore 5, 2) := by decide +kernel
theorem dX0_hullBound_20 : decode cX0_hullBound 20 = .ok (.aload_n 1, 1) := by decide +kernel
theorem dX0_hullBound_21 : decode cX0_hullBound 21 = .ok (.iload 4, 2) := by decide +kernel
theorem dX0_hullBound_23 : decode cX0_hullBound 23 = .ok (.iaload, 1) := by decide +kernel
theorem dX0_hullBound_24 : decode cX0_hullBound 24 = .ok (.istore 6, 2) := by decide +kernel
theorem dX0_hullBound_26 : decode cX0_hullBound 26 = .ok (.aload_n 0, 1) := by decide +kernel
theorem dX0_hullBound_27 : decode cX0_hullBound 27 = .ok (.iload 4, 2) := by decide +kernel
theorem dX0_hullBound_29 : decode cX0_hullBound 29 = .ok (.invokevirtual 48, 3) := by decide +kernel
theorem dX0_hullBound_32 : decode cX0_hullBound 32 = .ok (.istore 7, 2) := by decide +kernel
theorem dX0_hullBound_34 : decode cX0_hullBound 34 = .ok (.aload_n 0, 1) := by decide +kernel
theorem dX0_hullBound_35 : decode cX0_hullBound 35 = .ok (.iload 4, 2) := by decide +kernel
theorem dX0_hullBound_37 : decode cX0_hullBound 37 = .ok (.invokevirtual 51, 3) := by decide +kernel
theorem dX0_hullBound_40 : decode cX0_hullBound 40 = .ok (.istore 8, 2) := by decide +kernel
theorem dX0_hullBound_42 : decode cX0_hullBound 42 = .ok (.iload 8, 2) := by decide +kernel
theorem dX0_hullBound_44 : decode cX0_hullBound 44 = .ok (.iload 7, 2) := by decide +kernel
theorem dX0_hullBound_46 : decode cX0_hullBound 46 = .ok (.if_icmp .gt 31, 3) := by decide +kernel
theorem dX0_hullBound_49 : decode cX0_hullBound 49 = .ok (.iload 5, 2) := by decide +kernel
theorem dX0_hullBound_51 : decode cX0_hullBound 51 = .ok (.aload_n 1, 1) := by decide +kernel
theorem dX0_hullBound_52 : decode cX0_hullBound 52 = .ok (.iload 8, 2) := by decide +kernel
theorem dX0_hullBound_54 : decode cX0_hullBound 54 = .ok (.iaload, 1) := by decide +kernel
theorem dX0_hullBound_55 : decode cX0_hullBound 55 = .ok (.invokestatic 54, 3) := by decide +kernel
theorem dX0_hullBound_58 : decode cX0_hullBound 58 = .ok (.istore 5, 2) := by decide +kernel
theorem dX0_hullBound_60 : decode cX0_hullBound 60 = .ok (.iload 6, 2) := by decide +kernel
theorem dX0_hullBound_62 : decode cX0_hullBound 62 = .ok (.aload_n 1, 1) := by decide +kernel
theorem dX0_hullBound_63 : decode cX0_hullBound 63 = .ok (.iload 8, 2) := by decide +kernel
theorem dX0_hullBound_65 : decode cX0_hullBound 65 = .ok (.iaload, 1) := by decide +kernel
theorem dX0_hullBound_66 : decode cX0_hullBound 66 = .ok (.invokestatic 60, 3) := by decide +kernel
theorem dX0_hullBound_69 : decode cX0_hullBound 69 = .ok (.istore 6, 2) := by decide +kernel
theorem dX0_hullBound_71 : decode cX0_hullBound 71 = .ok (.iinc 8 1, 3) := by decide +kernel
theorem dX0_hullBound_74 : decode cX0_hullBound 74 = .ok (.goto (-32), 3) := by decide +kernel
theorem dX0_hullBound_77 : decode cX0_hullBound 77 = .ok (.iload_n 3, 1) := by decide +kernel
theorem dX0_hullBound_78 : decode cX0_hullBound 78 = .ok (.aload_n 2, 1) := by decide +kernel
theorem dX0_hullBound_79 : decode cX0_hullBound 79 = .ok (.iload 4, 2) := by decide +kernel
theorem dX0_hullBound_81 : decode cX0_hullBound 81 = .ok (.iaload, 1) := by decide +kernel
theorem dX0_hullBound_82 : decode cX0_hullBound 82 = .ok (.iload 5, 2) := by decide +kernel
theorem dX0_hullBound_84 : decode cX0_hullBound 84 = .ok (.iload 6, 2) := by decide +kernel
theorem dX0_hullBound_86 : decode cX0_hullBound 86 = .ok (.invokestatic 63, 3) := by decide +kernel
theorem dX0_hullBound_89 : decode cX0_hullBound 89 = .ok (.invokestatic 40, 3) := by decide +kernel
theorem dX0_hullBound_92 : decode cX0_hullBound 92 = .ok (.iadd, 1) := by decide +kernel
theorem dX0_hullBound_93 : decode cX0_hullBound 93 = .ok (.istore_n 3, 1) := by decide +kernel
theorem dX0_hullBound_94 : decode cX0_hullBound 94 = .ok (.iinc 4 1, 3) := by decide +kernel
theorem dX0_hullBound_97 : decode cX0_hullBound 97 = .ok (.goto (-92), 3) := by decide +kernel
theorem dX0_hullBound_100 : decode cX0_hullBound 100 = .ok (.iload_n 3, 1) := by decide +kernel
theorem dX0_hullBound_101 : decode cX0_hullBound 101 = .ok (.ireturn, 1) := by decide +kernel
theorem dX0_gap_0 : decode cX0_gap 0 = .ok (.iload_n 0, 1) := by decide +kernel
theorem dX0_gap_1 : decode cX0_gap 1 = .ok (.iload_n 1, 1) := by decide +kernel
theorem dX0_gap_2 : decode cX0_gap 2 = .ok (.if_icmp .ge 7, 3) := by decide +kernel
theorem dX0_gap_5 : decode cX0_gap 5 = .ok (.iload_n 1, 1) := by decide +kernel
theorem dX0_gap_6 : decode cX0_gap 6 = .ok (.iload_n 0, 1) := by decide +kernel
theorem dX0_gap_7 : decode cX0_gap 7 = .ok (.isub, 1) := by decide +kernel
theorem dX0_gap_8 : decode cX0_gap 8 = .ok (.ireturn, 1) := by decide +kernel
theorem dX0_gap_9 : decode cX0_gap 9 = .ok (.iload_n 0, 1) := by decide +kernel
theorem dX0_gap_10 : decode cX0_gap 10 = .ok (.iload_n 2, 1) := by decide +kernel
theorem dX0_gap_11 : decode cX0_gap 11 = .ok (.if_icmp .le 9, 3) := by decide +kernel
theorem dX0_gap_14 : decode cX0_gap 14 = .ok (.iload_n 0, 1) := by decide +kernel
theorem dX0_gap_15 : decode cX0_gap 15 = .ok (.iload_n 2, 1) := by decide +kernel
theorem dX0_gap_16 : decode cX0_gap 16 = .ok (.isub, 1) := by decide +kernel
theorem dX0_gap_17 : decode cX0_gap 17 = .ok (.goto 4, 3) := by decide +kernel
theorem dX0_gap_20 : decode cX0_gap 20 = .ok (.iconst 0, 1) := by decide +kernel
theorem dX0_gap_21 : decode cX0_gap 21 = .ok (.ireturn, 1) := by decide +kernel
theorem dX0_tracePath_0 : decode cX0_tracePath 0 = .ok (.aload_n 0, 1) := by decide +kernel
theorem dX0_tracePath_1 : decode cX0_tracePath 1 = .ok (.iconst (-1), 1) := by decide +kernel
theorem dX0_tracePath_2 : decode cX0_tracePath 2 = .ok (.invokevirtual 77, 3) := by decide +kernel
theorem dX0_tracePath_5 : decode cX0_tracePath 5 = .ok (.pop, 1) := by decide +kernel
theorem dX0_tracePath_6 : decode cX0_tracePath 6 = .ok (.aload_n 0, 1) := by decide +kernel
theorem dX0_tracePath_7 : decode cX0_tracePath 7 = .ok (.getfield 28, 3) := by decide +kernel
theorem dX0_tracePath_10 : decode cX0_tracePath 10 = .ok (.iconst 1, 1) := by decide +kernel
theorem dX0_tracePath_11 : decode cX0_tracePath 11 = .ok (.isub, 1) := by decide +kernel
theorem dX0_tracePath_12 : decode cX0_tracePath 12 = .ok (.istore_n 1, 1) := by decide +kernel
theorem dX0_tracePath_13 : decode cX0_tracePath 13 = .ok (.aload_n 0, 1) := by decide +kernel
theorem dX0_tracePath_14 : decode cX0_tracePath 14 = .ok (.getfield 28, 3) := by decide +kernel
theorem dX0_tracePath_17 : decode cX0_tracePath 17 = .ok (.iconst 1, 1) := by decide +kernel
theorem dX0_tracePath_18 : decode cX0_tracePath 18 = .ok (.isub, 1) := by decide +kernel
theorem dX0_tracePath_19 : decode cX0_tracePath 19 = .ok (.istore_n 2, 1) := by decide +kernel
theorem dX0_tracePath_20 : decode cX0_tracePath 20 = .ok (.aload_n 0, 1) := by decide +kernel
theorem dX0_tracePath_21 : decode cX0_tracePath 21 = .ok (.bipush 31, 2) := by decide +kernel
theorem dX0_tracePath_23 : decode cX0_tracePath 23 = .ok (.putfield 24, 3) := by decide +kernel
theorem dX0_tracePath_26 : decode cX0_tracePath 26 = .ok (.aload_n 0, 1) := by decide +kernel
theorem dX0_tracePath_27 : decode cX0_tracePath 27 = .ok (.getfield 24, 3) := by decide +kernel
theorem dX0_tracePath_30 : decode cX0_tracePath 30 = .ok (.ifCond .le 151, 3) := by decide +kernel
theorem dX0_tracePath_33 : decode cX0_tracePath 33 = .ok (.iload_n 1, 1) := by decide +kernel
theorem dX0_tracePath_34 : decode cX0_tracePath 34 = .ok (.ifCond .lt 147, 3) := by decide +kernel
theorem dX0_tracePath_37 : decode cX0_tracePath 37 = .ok (.iload_n 2, 1) := by decide +kernel
theorem dX0_tracePath_38 : decode cX0_tracePath 38 = .ok (.ifCond .lt 143, 3) := by decide +kernel
theorem dX0_tracePath_41 : decode cX0_tracePath 41 = .ok (.aload_n 0, 1) := by decide +kernel
theorem dX0_tracePath_42 : decode cX0_tracePath 42 = .ok (.dup, 1) := by decide +kernel
theorem dX0_tracePath_43 : decode cX0_tracePath 43 = .ok (.getfield 24, 3) := by decide +kernel
theorem dX0_tracePath_46 : decode cX0_tracePath 46 = .ok (.iconst 1, 1) := by decide +kernel
theorem dX0_tracePath_47 : decode cX0_tracePath 47 = .ok (.isub, 1) := by decide +kernel
theorem dX0_tracePath_48 : decode cX0_tracePath 48 = .ok (.putfield 24, 3) := by decide +kernel
theorem dX0_tracePath_51 : decode cX0_tracePath 51 = .ok (.aload_n 0, 1) := by decide +kernel
theorem dX0_tracePath_52 : decode cX0_tracePath 52 = .ok (.getfield 21, 3) := by decide +kernel
theorem dX0_tracePath_55 : decode cX0_tracePath 55 = .ok (.aload_n 0, 1) := by decide +kernel
theorem dX0_tracePath_56 : decode cX0_tracePath 56 = .ok (.getfield 24, 3) := by decide +kernel
theorem dX0_tracePath_59 : decode cX0_tracePath 59 = .ok (.bipush 16, 2) := by decide +kernel
theorem dX0_tracePath_61 : decode cX0_tracePath 61 = .ok (.iload_n 1, 1) := by decide +kernel
theorem dX0_tracePath_62 : decode cX0_tracePath 62 = .ok (.imul, 1) := by decide +kernel
theorem dX0_tracePath_63 : decode cX0_tracePath 63 = .ok (.iload_n 2, 1) := by decide +kernel
theorem dX0_tracePath_64 : decode cX0_tracePath 64 = .ok (.iadd, 1) := by decide +kernel
theorem dX0_tracePath_65 : decode cX0_tracePath 65 = .ok (.iastore, 1) := by decide +kernel
theorem dX0_tracePath_66 : decode cX0_tracePath 66 = .ok (.aload_n 0, 1) := by decide +kernel
theorem dX0_tracePath_67 : decode cX0_tracePath 67 = .ok (.iload_n 1, 1) := by decide +kernel
theorem dX0_tracePath_68 : decode cX0_tracePath 68 = .ok (.iconst 1, 1) := by decide +kernel
theorem dX0_tracePath_69 : decode cX0_tracePath 69 = .ok (.isub, 1) := by decide +kernel
theorem dX0_tracePath_70 : decode cX0_tracePath 70 = .ok (.iload_n 2, 1) := by decide +kernel
theorem dX0_tracePath_71 : decode cX0_tracePath 71 = .ok (.iconst 1, 1) := by decide +kernel
theorem dX0_tracePath_72 : decode cX0_tracePath 72 = .ok (.isub, 1) := by decide +kernel
theorem dX0_tracePath_73 : decode cX0_tracePath 73 = .ok (.invokevirtual 70, 3) := by decide +kernel
theorem dX0_tracePath_76 : decode cX0_tracePath 76 = .ok (.istore_n 3, 1) := by decide +kernel
theorem dX0_tracePath_77 : decode cX0_tracePath 77 = .ok (.aload_n 0, 1) := by decide +kernel
theorem dX0_tracePath_78 : decode cX0_tracePath 78 = .ok (.iload_n 1, 1) := by decide +kernel
theorem dX0_tracePath_79 : decode cX0_tracePath 79 = .ok (.iconst 1, 1) := by decide +kernel
theorem dX0_tracePath_80 : decode cX0_tracePath 80 = .ok (.isub, 1) := by decide +kernel
theorem dX0_tracePath_81 : decode cX0_tracePath 81 = .ok (.iload_n 2, 1) := by decide +kernel
theorem dX0_tracePath_82 : decode cX0_tracePath 82 = .ok (.invokevirtual 70, 3) := by decide +kernel
theorem dX0_tracePath_85 : decode cX0_tracePath 85 = .ok (.istore 4, 2) := by decide +kernel
theorem dX0_tracePath_87 : decode cX0_tracePath 87 = .ok (.aload_n 0, 1) := by decide +kernel
theorem dX0_tracePath_88 : decode cX0_tracePath 88 = .ok (.iload_n 1, 1) := by decide +kernel
theorem dX0_tracePath_89 : decode cX0_tracePath 89 = .ok (.iload_n 2, 1) := by decide +kernel
theorem dX0_tracePath_90 : decode cX0_tracePath 90 = .ok (.iconst 1, 1) := by decide +kernel
theorem dX0_tracePath_91 : decode cX0_tracePath 91 = .ok (.isub, 1) := by decide +kernel
theorem dX0_tracePath_92 : decode cX0_tracePath 92 = .ok (.invokevirtual 70, 3) := by decide +kernel
theorem dX0_tracePath_95 : decode cX0_tracePath 95 = .ok (.istore 5, 2) := by decide +kernel
theorem dX0_tracePath_97 : decode cX0_tracePath 97 = .ok (.iload_n 3, 1) := by decide +kernel
theorem dX0_tracePath_98 : decode cX0_tracePath 98 = .ok (.iload 4, 2) := by decide +kernel
theorem dX0_tracePath_100 : decode cX0_tracePath 100 = .ok (.if_icmp .gt 13, 3) := by decide +kernel
theorem dX0_tracePath_103 : decode cX0_tracePath 103 = .ok (.iload_n 3, 1) := by decide +kernel
theorem dX0_tracePath_104 : decode cX0_tracePath 104 = .ok (.iload 5, 2) := by decide +kernel
theorem dX0_tracePath_106 : decode cX0_tracePath 106 = .ok (.if_icmp .gt 7, 3) := by decide +kernel
theorem dX0_tracePath_109 : decode cX0_tracePath 109 = .ok (.iconst 1, 1) := by decide +kernel
theorem dX0_tracePath_110 : decode cX0_tracePath 110 = .ok (.goto 4, 3) := by decide +kernel
theorem dX0_tracePath_113 : decode cX0_tracePath 113 = .ok (.iconst 0, 1) := by decide +kernel
theorem dX0_tracePath_114 : decode cX0_tracePath 114 = .ok (.istore 6, 2) := by decide +kernel
theorem dX0_tracePath_116 : decode cX0_tracePath 116 = .ok (.iload 6, 2) := by decide +kernel
theorem dX0_tracePath_118 : decode cX0_tracePath 118 = .ok (.ifCond .ne 10, 3) := by decide +kernel
theorem dX0_tracePath_121 : decode cX0_tracePath 121 = .ok (.iload 4, 2) := by decide +kernel
theorem dX0_tracePath_123 : decode cX0_tracePath 123 = .ok (.iload 5, 2) := by decide +kernel
theorem dX0_tracePath_125 : decode cX0_tracePath 125 = .ok (.if_icmp .gt 7, 3) := by decide +kernel
theorem dX0_tracePath_128 : decode cX0_tracePath 128 = .ok (.iconst 1, 1) := by decide +kernel
theorem dX0_tracePath_129 : decode cX0_tracePath 129 = .ok (.goto 4, 3) := by decide +kernel
theorem dX0_tracePath_132 : decode cX0_tracePath 132 = .ok (.iconst 0, 1) := by decide +kernel
theorem dX0_tracePath_133 : decode cX0_tracePath 133 = .ok (.istore 7, 2) := by decide +kernel
theorem dX0_tracePath_135 : decode cX0_tracePath 135 = .ok (.iload 6, 2) := by decide +kernel
theorem dX0_tracePath_137 : decode cX0_tracePath 137 = .ok (.ifCond .ne 8, 3) := by decide +kernel
theorem dX0_tracePath_140 : decode cX0_tracePath 140 = .ok (.iload 7, 2) := by decide +kernel
theorem dX0_tracePath_142 : decode cX0_tracePath 142 = .ok (.ifCond .ne 7, 3) := by decide +kernel
theorem dX0_tracePath_145 : decode cX0_tracePath 145 = .ok (.iconst 1, 1) := by decide +kernel
theorem dX0_tracePath_146 : decode cX0_tracePath 146 = .ok (.goto 4, 3) := by decide +kernel
theorem dX0_tracePath_149 : decode cX0_tracePath 149 = .ok (.iconst 0, 1) := by decide +kernel
theorem dX0_tracePath_150 : decode cX0_tracePath 150 = .ok (.istore 8, 2) := by decide +kernel
theorem dX0_tracePath_152 : decode cX0_tracePath 152 = .ok (.iload_n 1, 1) := by decide +kernel
theorem dX0_tracePath_153 : decode cX0_tracePath 153 = .ok (.iload 7, 2) := by decide +kernel
theorem dX0_tracePath_155 : decode cX0_tracePath 155 = .ok (.ifCond .eq 7, 3) := by decide +kernel
theorem dX0_tracePath_158 : decode cX0_tracePath 158 = .ok (.iconst 1, 1) := by decide +kernel
theorem dX0_tracePath_159 : decode cX0_tracePath 159 = .ok (.goto 4, 3) := by decide +kernel
theorem dX0_tracePath_162 : decode cX0_tracePath 162 = .ok (.iconst 0, 1) := by decide +kernel
theorem dX0_tracePath_163 : decode cX0_tracePath 163 = .ok (.isub, 1) := by decide +kernel
theorem dX0_tracePath_164 : decode cX0_tracePath 164 = .ok (.istore_n 1, 1) := by decide +kernel
theorem dX0_tracePath_165 : decode cX0_tracePath 165 = .ok (.iload_n 2, 1) := by decide +kernel
theorem dX0_tracePath_166 : decode cX0_tracePath 166 = .ok (.iload 8, 2) := by decide +kernel
theorem dX0_tracePath_168 : decode cX0_tracePath 168 = .ok (.ifCond .eq 7, 3) := by decide +kernel
theorem dX0_tracePath_171 : decode cX0_tracePath 171 = .ok (.iconst 1, 1) := by decide +kernel
theorem dX0_tracePath_172 : decode cX0_tracePath 172 = .ok (.goto 4, 3) := by decide +kernel
theorem dX0_tracePath_175 : decode cX0_tracePath 175 = .ok (.iconst 0, 1) := by decide +kernel
theorem dX0_tracePath_176 : decode cX0_tracePath 176 = .ok (.isub, 1) := by decide +kernel
theorem dX0_tracePath_177 : decode cX0_tracePath 177 = .ok (.istore_n 2, 1) := by decide +kernel
theorem dX0_tracePath_178 : decode cX0_tracePath 178 = .ok (.goto (-152), 3) := by decide +kernel
theorem dX0_tracePath_181 : decode cX0_tracePath 181 = .ok (.bipush 31, 2) := by decide +kernel
theorem dX0_tracePath_183 : decode cX0_tracePath 183 = .ok (.aload_n 0, 1) := by decide +kernel
theorem dX0_tracePath_184 : decode cX0_tracePath 184 = .ok (.getfield 24, 3) := by decide +kernel
theorem dX0_tracePath_187 : decode cX0_tracePath 187 = .ok (.isub, 1) := by decide +kernel
theorem dX0_tracePath_188 : decode cX0_tracePath 188 = .ok (.ireturn, 1) := by decide +kernel
theorem dX0_pairOfPath_0 : decode cX0_pairOfPath 0 = .ok (.aload_n 0, 1) := by decide +kernel
theorem dX0_pairOfPath_1 : decode cX0_pairOfPath 1 = .ok (.getfield 21, 3) := by decide +kernel
theorem dX0_pairOfPath_4 : decode cX0_pairOfPath 4 = .ok (.aload_n 0, 1) := by decide +kernel
theorem dX0_pairOfPath_5 : decode cX0_pairOfPath 5 = .ok (.getfield 24, 3) := by decide +kernel
theorem dX0_pairOfPath_8 : decode cX0_pairOfPath 8 = .ok (.iload_n 1, 1) := by decide +kernel
theorem dX0_pairOfPath_9 : decode cX0_pairOfPath 9 = .ok (.iadd, 1) := by decide +kernel
theorem dX0_pairOfPath_10 : decode cX0_pairOfPath 10 = .ok (.iaload, 1) := by decide +kernel
theorem dX0_pairOfPath_11 : decode cX0_pairOfPath 11 = .ok (.ireturn, 1) := by decide +kernel
theorem dX1_limit_0 : decode cX1_limit 0 = .ok (.aload_n 0, 1) := by decide +kernel
theorem dX1_limit_1 : decode cX1_limit 1 = .ok (.getfield 18, 3) := by decide +kernel
theorem dX1_limit_4 : decode cX1_limit 4 = .ok (.aload_n 0, 1) := by decide +kernel
theorem dX1_limit_5 : decode cX1_limit 5 = .ok (.getfield 22, 3) := by decide +kernel
theorem dX1_limit_8 : decode cX1_limit 8 = .ok (.if_icmp .ne 17, 3) := by decide +kernel
theorem dX1_limit_11 : decode cX1_limit 11 = .ok (.aload_n 0, 1) := by decide +kernel
theorem dX1_limit_12 : decode cX1_limit 12 = .ok (.getfield 15, 3) := by decide +kernel
theorem dX1_limit_15 : decode cX1_limit 15 = .ok (.aload_n 0, 1) := by decide +kernel
theorem dX1_limit_16 : decode cX1_limit 16 = .ok (.getfield 18, 3) := by decide +kernel
theorem dX1_limit_19 : decode cX1_limit 19 = .ok (.iconst 1, 1) := by decide +kernel
theorem dX1_limit_20 : decode cX1_limit 20 = .ok (.isub, 1) := by decide +kernel
theorem dX1_limit_21 : decode cX1_limit 21 = .ok (.iaload, 1) := by decide +kernel
theorem dX1_limit_22 : decode cX1_limit 22 = .ok (.goto 4, 3) := by decide +kernel
theorem dX1_limit_25 : decode cX1_limit 25 = .ok (.iconst (-1), 1) := by decide +kernel
theorem dX1_limit_26 : decode cX1_limit 26 = .ok (.ireturn, 1) := by decide +kernel
theorem dX1_insert_0 : decode cX1_insert 0 = .ok (.aload_n 0, 1) := by decide +kernel
theorem dX1_insert_1 : decode cX1_insert 1 = .ok (.getfield 18, 3) := by decide +kernel
theorem dX1_insert_4 : decode cX1_insert 4 = .ok (.aload_n 0, 1) := by decide +kernel
theorem dX1_insert_5 : decode cX1_insert 5 = .ok (.getfield 22, 3) := by decide +kernel
theorem dX1_insert_8 : decode cX1_insert 8 = .ok (.iconst 1, 1) := by decide +kernel
theorem dX1_insert_9 : decode cX1_insert 9 = .ok (.isub, 1) := by decide +kernel
theorem dX1_insert_10 : decode cX1_insert 10 = .ok (.invokestatic 25, 3) := by decide +kernel
theorem dX1_insert_13 : decode cX1_insert 13 = .ok (.istore_n 3, 1) := by decide +kernel
theorem dX1_insert_14 : decode cX1_insert 14 = .ok (.iload_n 3, 1) := by decide +kernel
theorem dX1_insert_15 : decode cX1_insert 15 = .ok (.ifCond .le 49, 3) := by decide +kernel
theorem dX1_insert_18 : decode cX1_insert 18 = .ok (.aload_n 0, 1) := by decide +kernel
theorem dX1_insert_19 : decode cX1_insert 19 = .ok (.getfield 15, 3) := by decide +kernel
theorem dX1_insert_22 : decode cX1_insert 22 = .ok (.iload_n 3, 1) := by decide +kernel
theorem dX1_insert_23 : decode cX1_insert 23 = .ok (.iconst 1, 1) := by decide +kernel
theorem dX1_insert_24 : decode cX1_insert 24 = .ok (.isub, 1) := by decide +kernel
theorem dX1_insert_25 : decode cX1_insert 25 = .ok (.iaload, 1) := by decide +kernel
theorem dX1_insert_26 : decode cX1_insert 26 = .ok (.iload_n 2, 1) := by decide +kernel
theorem dX1_insert_27 : decode cX1_insert 27 = .ok (.if_icmp .le 37, 3) := by decide +kernel
theorem dX1_insert_30 : decode cX1_insert 30 = .ok (.aload_n 0, 1) := by decide +kernel
theorem dX1_insert_31 : decode cX1_insert 31 = .ok (.getfield 9, 3) := by decide +kernel
theorem dX1_insert_34 : decode cX1_insert 34 = .ok (.iload_n 3, 1) := by decide +kernel
theorem dX1_insert_35 : decode cX1_insert 35 = .ok (.aload_n 0, 1) := by decide +kernel
theorem dX1_insert_36 : decode cX1_insert 36 = .ok (.getfield 9, 3) := by decide +kernel
theorem dX1_insert_39 : decode cX1_insert 39 = .ok (.iload_n 3, 1) := by decide +kernel
theorem dX1_insert_40 : decode cX1_insert 40 = .ok (.iconst 1, 1) := by decide +kernel
theorem dX1_insert_41 : decode cX1_insert 41 = .ok (.isub, 1) := by decide +kernel
theorem dX1_insert_42 : decode cX1_insert 42 = .ok (.iaload, 1) := by decide +kernel
theorem dX1_insert_43 : decode cX1_insert 43 = .ok (.iastore, 1) := by decide +kernel
theorem dX1_insert_44 : decode cX1_insert 44 = .ok (.aload_n 0, 1) := by decide +kernel
theorem dX1_insert_45 : decode cX1_insert 45 = .ok (.getfield 15, 3) := by decide +kernel
theorem dX1_insert_48 : decode cX1_insert 48 = .ok (.iload_n 3, 1) := by decide +kernel
theorem dX1_insert_49 : decode cX1_insert 49 = .ok (.aload_n 0, 1) := by decide +kernel
theorem dX1_insert_50 : decode cX1_insert 50 = .ok (.getfield 15, 3) := by decide +kernel
theorem dX1_insert_53 : decode cX1_insert 53 = .ok (.iload_n 3, 1) := by decide +kernel
theorem dX1_insert_54 : decode cX1_insert 54 = .ok (.iconst 1, 1) := by decide +kernel
theorem dX1_insert_55 : decode cX1_insert 55 = .ok (.isub, 1) := by decide +kernel
theorem dX1_insert_56 : decode cX1_insert 56 = .ok (.iaload, 1) := by decide +kernel
theorem dX1_insert_57 : decode cX1_insert 57 = .ok (.iastore, 1) := by decide +kernel
theorem dX1_insert_58 : decode cX1_insert 58 = .ok (.iinc 3 (-1), 3) := by decide +kernel
theorem dX1_insert_61 : decode cX1_insert 61 = .ok (.goto (-47), 3) := by decide +kernel
theorem dX1_insert_64 : decode cX1_insert 64 = .ok (.aload_n 0, 1) := by decide +kernel
theorem dX1_insert_65 : decode cX1_insert 65 = .ok (.getfield 9, 3) := by decide +kernel
theorem dX1_insert_68 : decode cX1_insert 68 = .ok (.iload_n 3, 1) := by decide +kernel
theorem dX1_insert_69 : decode cX1_insert 69 = .ok (.iload_n 1, 1) := by decide +kernel
theorem dX1_insert_70 : decode cX1_insert 70 = .ok (.iastore, 1) := by decide +kernel
theorem dX1_insert_71 : decode cX1_insert 71 = .ok (.aload_n 0, 1) := by decide +kernel
theorem dX1_insert_72 : decode cX1_insert 72 = .ok (.getfield 15, 3) := by decide +kernel
theorem dX1_insert_75 : decode cX1_insert 75 = .ok (.iload_n 3, 1) := by decide +kernel
theorem dX1_insert_76 : decode cX1_insert 76 = .ok (.iload_n 2, 1) := by decide +kernel
theorem dX1_insert_77 : decode cX1_insert 77 = .ok (.iastore, 1) := by decide +kernel
theorem dX1_insert_78 : decode cX1_insert 78 = .ok (.aload_n 0, 1) := by decide +kernel
theorem dX1_insert_79 : decode cX1_insert 79 = .ok (.aload_n 0, 1) := by decide +kernel
theorem dX1_insert_80 : decode cX1_insert 80 = .ok (.getfield 18, 3) := by decide +kernel
theorem dX1_insert_83 : decode cX1_insert 83 = .ok (.iconst 1, 1) := by decide +kernel
theorem dX1_insert_84 : decode cX1_insert 84 = .ok (.iadd, 1) := by decide +kernel
theorem dX1_insert_85 : decode cX1_insert 85 = .ok (.aload_n 0, 1) := by decide +kernel
theorem dX1_insert_86 : decode cX1_insert 86 = .ok (.getfield 22, 3) := by decide +kernel
theorem dX1_insert_89 : decode cX1_insert 89 = .ok (.invokestatic 25, 3) := by decide +kernel
theorem dX1_insert_92 : decode cX1_insert 92 = .ok (.putfield 18, 3) := by decide +kernel
theorem dX1_insert_95 : decode cX1_insert 95 = .ok (.return_, 1) := by decide +kernel
