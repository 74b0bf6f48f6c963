theorem dX1_init_0 : decode cX1_init 0 = .ok (.aload_n 0, 1) := by decide +kernel
theorem dX1_init_1 : decode cX1_init 1 = .ok (.invokespecial 3, 3) := by decide +kernel
theorem dX1_init_4 : decode cX1_init 4 = .ok (.aload_n 0, 1) := by decide +kernel
theorem dX1_init_5 : decode cX1_init 5 = .ok (.bipush 61, 2) := by decide +kernel
theorem dX1_init_7 : decode cX1_init 7 = .ok (.newarray .int, 2) := by decide +kernel
theorem dX1_init_9 : decode cX1_init 9 = .ok (.putfield 9, 3) := by decide +kernel
theorem dX1_init_12 : decode cX1_init 12 = .ok (.return_, 1) := by decide +kernel
theorem dX1_swingsOneByOne_0 : decode cX1_swingsOneByOne 0 = .ok (.aload_n 1, 1) := by decide +kernel
theorem dX1_swingsOneByOne_1 : decode cX1_swingsOneByOne 1 = .ok (.iload_n 2, 1) := by decide +kernel
theorem dX1_swingsOneByOne_2 : decode cX1_swingsOneByOne 2 = .ok (.invokevirtual 15, 3) := by decide +kernel
theorem dX1_swingsOneByOne_5 : decode cX1_swingsOneByOne 5 = .ok (.istore_n 3, 1) := by decide +kernel
theorem dX1_swingsOneByOne_6 : decode cX1_swingsOneByOne 6 = .ok (.iconst 0, 1) := by decide +kernel
theorem dX1_swingsOneByOne_7 : decode cX1_swingsOneByOne 7 = .ok (.istore 4, 2) := by decide +kernel
theorem dX1_swingsOneByOne_9 : decode cX1_swingsOneByOne 9 = .ok (.iload_n 3, 1) := by decide +kernel
theorem dX1_swingsOneByOne_10 : decode cX1_swingsOneByOne 10 = .ok (.ifCond .le 22, 3) := by decide +kernel
theorem dX1_swingsOneByOne_13 : decode cX1_swingsOneByOne 13 = .ok (.iload 4, 2) := by decide +kernel
theorem dX1_swingsOneByOne_15 : decode cX1_swingsOneByOne 15 = .ok (.bipush 60, 2) := by decide +kernel
theorem dX1_swingsOneByOne_17 : decode cX1_swingsOneByOne 17 = .ok (.if_icmp .ge 15, 3) := by decide +kernel
theorem dX1_swingsOneByOne_20 : decode cX1_swingsOneByOne 20 = .ok (.aload_n 1, 1) := by decide +kernel
theorem dX1_swingsOneByOne_21 : decode cX1_swingsOneByOne 21 = .ok (.iload_n 3, 1) := by decide +kernel
theorem dX1_swingsOneByOne_22 : decode cX1_swingsOneByOne 22 = .ok (.invokevirtual 21, 3) := by decide +kernel
theorem dX1_swingsOneByOne_25 : decode cX1_swingsOneByOne 25 = .ok (.istore_n 3, 1) := by decide +kernel
theorem dX1_swingsOneByOne_26 : decode cX1_swingsOneByOne 26 = .ok (.iinc 4 1, 3) := by decide +kernel
theorem dX1_swingsOneByOne_29 : decode cX1_swingsOneByOne 29 = .ok (.goto (-20), 3) := by decide +kernel
theorem dX1_swingsOneByOne_32 : decode cX1_swingsOneByOne 32 = .ok (.iload 4, 2) := by decide +kernel
theorem dX1_swingsOneByOne_34 : decode cX1_swingsOneByOne 34 = .ok (.ireturn, 1) := by decide +kernel
theorem dX1_swingsFromTable_0 : decode cX1_swingsFromTable 0 = .ok (.aload_n 0, 1) := by decide +kernel
theorem dX1_swingsFromTable_1 : decode cX1_swingsFromTable 1 = .ok (.aload_n 1, 1) := by decide +kernel
theorem dX1_swingsFromTable_2 : decode cX1_swingsFromTable 2 = .ok (.invokevirtual 24, 3) := by decide +kernel
theorem dX1_swingsFromTable_5 : decode cX1_swingsFromTable 5 = .ok (.aload_n 0, 1) := by decide +kernel
theorem dX1_swingsFromTable_6 : decode cX1_swingsFromTable 6 = .ok (.aload_n 1, 1) := by decide +kernel
theorem dX1_swingsFromTable_7 : decode cX1_swingsFromTable 7 = .ok (.iload_n 2, 1) := by decide +kernel
theorem dX1_swingsFromTable_8 : decode cX1_swingsFromTable 8 = .ok (.invokevirtual 15, 3) := by decide +kernel
theorem dX1_swingsFromTable_11 : decode cX1_swingsFromTable 11 = .ok (.invokevirtual 28, 3) := by decide +kernel
theorem dX1_swingsFromTable_14 : decode cX1_swingsFromTable 14 = .ok (.ireturn, 1) := by decide +kernel
theorem dX1_fillTable_0 : decode cX1_fillTable 0 = .ok (.aload_n 0, 1) := by decide +kernel
theorem dX1_fillTable_1 : decode cX1_fillTable 1 = .ok (.getfield 9, 3) := by decide +kernel
theorem dX1_fillTable_4 : decode cX1_fillTable 4 = .ok (.iconst 0, 1) := by decide +kernel
theorem dX1_fillTable_5 : decode cX1_fillTable 5 = .ok (.iconst 0, 1) := by decide +kernel
theorem dX1_fillTable_6 : decode cX1_fillTable 6 = .ok (.iastore, 1) := by decide +kernel
theorem dX1_fillTable_7 : decode cX1_fillTable 7 = .ok (.iconst 1, 1) := by decide +kernel
theorem dX1_fillTable_8 : decode cX1_fillTable 8 = .ok (.istore_n 2, 1) := by decide +kernel
theorem dX1_fillTable_9 : decode cX1_fillTable 9 = .ok (.iload_n 2, 1) := by decide +kernel
theorem dX1_fillTable_10 : decode cX1_fillTable 10 = .ok (.aload_n 0, 1) := by decide +kernel
theorem dX1_fillTable_11 : decode cX1_fillTable 11 = .ok (.getfield 9, 3) := by decide +kernel
theorem dX1_fillTable_14 : decode cX1_fillTable 14 = .ok (.arraylength, 1) := by decide +kernel
theorem dX1_fillTable_15 : decode cX1_fillTable 15 = .ok (.if_icmp .ge 26, 3) := by decide +kernel
theorem dX1_fillTable_18 : decode cX1_fillTable 18 = .ok (.aload_n 0, 1) := by decide +kernel
theorem dX1_fillTable_19 : decode cX1_fillTable 19 = .ok (.getfield 9, 3) := by decide +kernel
theorem dX1_fillTable_22 : decode cX1_fillTable 22 = .ok (.iload_n 2, 1) := by decide +kernel
theorem dX1_fillTable_23 : decode cX1_fillTable 23 = .ok (.iconst 1, 1) := by decide +kernel
theorem dX1_fillTable_24 : decode cX1_fillTable 24 = .ok (.aload_n 0, 1) := by decide +kernel
theorem dX1_fillTable_25 : decode cX1_fillTable 25 = .ok (.aload_n 1, 1) := by decide +kernel
theorem dX1_fillTable_26 : decode cX1_fillTable 26 = .ok (.iload_n 2, 1) := by decide +kernel
theorem dX1_fillTable_27 : decode cX1_fillTable 27 = .ok (.invokevirtual 21, 3) := by decide +kernel
theorem dX1_fillTable_30 : decode cX1_fillTable 30 = .ok (.invokevirtual 28, 3) := by decide +kernel
theorem dX1_fillTable_33 : decode cX1_fillTable 33 = .ok (.iadd, 1) := by decide +kernel
theorem dX1_fillTable_34 : decode cX1_fillTable 34 = .ok (.iastore, 1) := by decide +kernel
theorem dX1_fillTable_35 : decode cX1_fillTable 35 = .ok (.iinc 2 1, 3) := by decide +kernel
theorem dX1_fillTable_38 : decode cX1_fillTable 38 = .ok (.goto (-29), 3) := by decide +kernel
theorem dX1_fillTable_41 : decode cX1_fillTable 41 = .ok (.return_, 1) := by decide +kernel
theorem dX1_tableAt_0 : decode cX1_tableAt 0 = .ok (.iload_n 1, 1) := by decide +kernel
theorem dX1_tableAt_1 : decode cX1_tableAt 1 = .ok (.ifCond .lt 21, 3) := by decide +kernel
theorem dX1_tableAt_4 : decode cX1_tableAt 4 = .ok (.iload_n 1, 1) := by decide +kernel
theorem dX1_tableAt_5 : decode cX1_tableAt 5 = .ok (.aload_n 0, 1) := by decide +kernel
theorem dX1_tableAt_6 : decode cX1_tableAt 6 = .ok (.getfield 9, 3) := by decide +kernel
theorem dX1_tableAt_9 : decode cX1_tableAt 9 = .ok (.arraylength, 1) := by decide +kernel
theorem dX1_tableAt_10 : decode cX1_tableAt 10 = .ok (.if_icmp .ge 12, 3) := by decide +kernel
theorem dX1_tableAt_13 : decode cX1_tableAt 13 = .ok (.aload_n 0, 1) := by decide +kernel
theorem dX1_tableAt_14 : decode cX1_tableAt 14 = .ok (.getfield 9, 3) := by decide +kernel
theorem dX1_tableAt_17 : decode cX1_tableAt 17 = .ok (.iload_n 1, 1) := by decide +kernel
theorem dX1_tableAt_18 : decode cX1_tableAt 18 = .ok (.iaload, 1) := by decide +kernel
theorem dX1_tableAt_19 : decode cX1_tableAt 19 = .ok (.goto 4, 3) := by decide +kernel
theorem dX1_tableAt_22 : decode cX1_tableAt 22 = .ok (.iconst 0, 1) := by decide +kernel
theorem dX1_tableAt_23 : decode cX1_tableAt 23 = .ok (.ireturn, 1) := by decide +kernel
theorem dX1_lastTick_0 : decode cX1_lastTick 0 = .ok (.aload_n 0, 1) := by decide +kernel
theorem dX1_lastTick_1 : decode cX1_lastTick 1 = .ok (.aload_n 1, 1) := by decide +kernel
theorem dX1_lastTick_2 : decode cX1_lastTick 2 = .ok (.iload_n 2, 1) := by decide +kernel
theorem dX1_lastTick_3 : decode cX1_lastTick 3 = .ok (.invokevirtual 31, 3) := by decide +kernel
theorem dX1_lastTick_6 : decode cX1_lastTick 6 = .ok (.iconst 1, 1) := by decide +kernel
theorem dX1_lastTick_7 : decode cX1_lastTick 7 = .ok (.isub, 1) := by decide +kernel
theorem dX1_lastTick_8 : decode cX1_lastTick 8 = .ok (.istore_n 3, 1) := by decide +kernel
theorem dX1_lastTick_9 : decode cX1_lastTick 9 = .ok (.aload_n 1, 1) := by decide +kernel
theorem dX1_lastTick_10 : decode cX1_lastTick 10 = .ok (.iload_n 2, 1) := by decide +kernel
theorem dX1_lastTick_11 : decode cX1_lastTick 11 = .ok (.invokevirtual 35, 3) := by decide +kernel
theorem dX1_lastTick_14 : decode cX1_lastTick 14 = .ok (.iload_n 3, 1) := by decide +kernel
theorem dX1_lastTick_15 : decode cX1_lastTick 15 = .ok (.aload_n 1, 1) := by decide +kernel
theorem dX1_lastTick_16 : decode cX1_lastTick 16 = .ok (.iload_n 2, 1) := by decide +kernel
theorem dX1_lastTick_17 : decode cX1_lastTick 17 = .ok (.invokevirtual 38, 3) := by decide +kernel
theorem dX1_lastTick_20 : decode cX1_lastTick 20 = .ok (.imul, 1) := by decide +kernel
theorem dX1_lastTick_21 : decode cX1_lastTick 21 = .ok (.iadd, 1) := by decide +kernel
theorem dX1_lastTick_22 : decode cX1_lastTick 22 = .ok (.ireturn, 1) := by decide +kernel
theorem dX1_laterAmplitude_0 : decode cX1_laterAmplitude 0 = .ok (.aload_n 1, 1) := by decide +kernel
theorem dX1_laterAmplitude_1 : decode cX1_laterAmplitude 1 = .ok (.iload_n 2, 1) := by decide +kernel
theorem dX1_laterAmplitude_2 : decode cX1_laterAmplitude 2 = .ok (.invokevirtual 15, 3) := by decide +kernel
theorem dX1_laterAmplitude_5 : decode cX1_laterAmplitude 5 = .ok (.istore 4, 2) := by decide +kernel
theorem dX1_laterAmplitude_7 : decode cX1_laterAmplitude 7 = .ok (.aload_n 1, 1) := by decide +kernel
theorem dX1_laterAmplitude_8 : decode cX1_laterAmplitude 8 = .ok (.iload_n 2, 1) := by decide +kernel
theorem dX1_laterAmplitude_9 : decode cX1_laterAmplitude 9 = .ok (.invokevirtual 38, 3) := by decide +kernel
theorem dX1_laterAmplitude_12 : decode cX1_laterAmplitude 12 = .ok (.istore 5, 2) := by decide +kernel
theorem dX1_laterAmplitude_14 : decode cX1_laterAmplitude 14 = .ok (.aload_n 1, 1) := by decide +kernel
theorem dX1_laterAmplitude_15 : decode cX1_laterAmplitude 15 = .ok (.iload_n 2, 1) := by decide +kernel
theorem dX1_laterAmplitude_16 : decode cX1_laterAmplitude 16 = .ok (.invokevirtual 35, 3) := by decide +kernel
theorem dX1_laterAmplitude_19 : decode cX1_laterAmplitude 19 = .ok (.aload_n 1, 1) := by decide +kernel
theorem dX1_laterAmplitude_20 : decode cX1_laterAmplitude 20 = .ok (.getfield 41, 3) := by decide +kernel
theorem dX1_laterAmplitude_23 : decode cX1_laterAmplitude 23 = .ok (.isub, 1) := by decide +kernel
theorem dX1_laterAmplitude_24 : decode cX1_laterAmplitude 24 = .ok (.istore 6, 2) := by decide +kernel
theorem dX1_laterAmplitude_26 : decode cX1_laterAmplitude 26 = .ok (.iload 5, 2) := by decide +kernel
theorem dX1_laterAmplitude_28 : decode cX1_laterAmplitude 28 = .ok (.ifCond .gt 6, 3) := by decide +kernel
theorem dX1_laterAmplitude_31 : decode cX1_laterAmplitude 31 = .ok (.iload 4, 2) := by decide +kernel
theorem dX1_laterAmplitude_33 : decode cX1_laterAmplitude 33 = .ok (.ireturn, 1) := by decide +kernel
theorem dX1_laterAmplitude_34 : decode cX1_laterAmplitude 34 = .ok (.iload 6, 2) := by decide +kernel
theorem dX1_laterAmplitude_36 : decode cX1_laterAmplitude 36 = .ok (.istore 7, 2) := by decide +kernel
theorem dX1_laterAmplitude_38 : decode cX1_laterAmplitude 38 = .ok (.iload 7, 2) := by decide +kernel
theorem dX1_laterAmplitude_40 : decode cX1_laterAmplitude 40 = .ok (.iload_n 3, 1) := by decide +kernel
theorem dX1_laterAmplitude_41 : decode cX1_laterAmplitude 41 = .ok (.if_icmp .gt 26, 3) := by decide +kernel
theorem dX1_laterAmplitude_44 : decode cX1_laterAmplitude 44 = .ok (.iload 4, 2) := by decide +kernel
theorem dX1_laterAmplitude_46 : decode cX1_laterAmplitude 46 = .ok (.ifCond .le 21, 3) := by decide +kernel
theorem dX1_laterAmplitude_49 : decode cX1_laterAmplitude 49 = .ok (.aload_n 1, 1) := by decide +kernel
theorem dX1_laterAmplitude_50 : decode cX1_laterAmplitude 50 = .ok (.iload 4, 2) := by decide +kernel
theorem dX1_laterAmplitude_52 : decode cX1_laterAmplitude 52 = .ok (.invokevirtual 21, 3) := by decide +kernel
theorem dX1_laterAmplitude_55 : decode cX1_laterAmplitude 55 = .ok (.istore 4, 2) := by decide +kernel
theorem dX1_laterAmplitude_57 : decode cX1_laterAmplitude 57 = .ok (.iload 7, 2) := by decide +kernel
theorem dX1_laterAmplitude_59 : decode cX1_laterAmplitude 59 = .ok (.iload 5, 2) := by decide +kernel
theorem dX1_laterAmplitude_61 : decode cX1_laterAmplitude 61 = .ok (.iadd, 1) := by decide +kernel
theorem dX1_laterAmplitude_62 : decode cX1_laterAmplitude 62 = .ok (.istore 7, 2) := by decide +kernel
theorem dX1_laterAmplitude_64 : decode cX1_laterAmplitude 64 = .ok (.goto (-26), 3) := by decide +kernel
theorem dX1_laterAmplitude_67 : decode cX1_laterAmplitude 67 = .ok (.iload 4, 2) := by decide +kernel
theorem dX1_laterAmplitude_69 : decode cX1_laterAmplitude 69 = .ok (.ireturn, 1) := by decide +kernel
theorem dX2_init_0 : decode cX2_init 0 = .ok (.aload_n 0, 1) := by decide +kernel
theorem dX2_init_1 : decode cX2_init 1 = .ok (.invokespecial 3, 3) := by decide +kernel
theorem dX2_init_4 : decode cX2_init 4 = .ok (.aload_n 0, 1) := by decide +kernel
theorem dX2_init_5 : decode cX2_init 5 = .ok (.bipush 8, 2) := by decide +kernel
theorem dX2_init_7 : decode cX2_init 7 = .ok (.anewarray 9, 3) := by decide +kernel
theorem dX2_init_10 : decode cX2_init 10 = .ok (.putfield 11, 3) := by decide +kernel
theorem dX2_init_13 : decode cX2_init 13 = .ok (.aload_n 0, 1) := by decide +kernel
theorem dX2_init_14 : decode cX2_init 14 = .ok (.iconst 0, 1) := by decide +kernel
theorem dX2_init_15 : decode cX2_init 15 = .ok (.putfield 17, 3) := by decide +kernel
theorem dX2_init_18 : decode cX2_init 18 = .ok (.aload_n 0, 1) := by decide +kernel
theorem dX2_init_19 : decode cX2_init 19 = .ok (.iconst 0, 1) := by decide +kernel
theorem dX2_init_20 : decode cX2_init 20 = .ok (.putfield 21, 3) := by decide +kernel
theorem dX2_init_23 : decode cX2_init 23 = .ok (.iconst 0, 1) := by decide +kernel
theorem dX2_init_24 : decode cX2_init 24 = .ok (.istore_n 1, 1) := by decide +kernel
theorem dX2_init_25 : decode cX2_init 25 = .ok (.iload_n 1, 1) := by decide +kernel
theorem dX2_init_26 : decode cX2_init 26 = .ok (.aload_n 0, 1) := by decide +kernel
theorem dX2_init_27 : decode cX2_init 27 = .ok (.getfield 11, 3) := by decide +kernel
theorem dX2_init_30 : decode cX2_init 30 = .ok (.arraylength, 1) := by decide +kernel
theorem dX2_init_31 : decode cX2_init 31 = .ok (.if_icmp .ge 22, 3) := by decide +kernel
theorem dX2_init_34 : decode cX2_init 34 = .ok (.aload_n 0, 1) := by decide +kernel
theorem dX2_init_35 : decode cX2_init 35 = .ok (.getfield 11, 3) := by decide +kernel
theorem dX2_init_38 : decode cX2_init 38 = .ok (.iload_n 1, 1) := by decide +kernel
theorem dX2_init_39 : decode cX2_init 39 = .ok (.new 9, 3) := by decide +kernel
theorem dX2_init_42 : decode cX2_init 42 = .ok (.dup, 1) := by decide +kernel
theorem dX2_init_43 : decode cX2_init 43 = .ok (.invokespecial 24, 3) := by decide +kernel
theorem dX2_init_46 : decode cX2_init 46 = .ok (.aastore, 1) := by decide +kernel
theorem dX2_init_47 : decode cX2_init 47 = .ok (.iinc 1 1, 3) := by decide +kernel
theorem dX2_init_50 : decode cX2_init 50 = .ok (.goto (-25), 3) := by decide +kernel
theorem dX2_init_53 : decode cX2_init 53 = .ok (.return_, 1) := by decide +kernel
theorem dX2_size_0 : decode cX2_size 0 = .ok (.aload_n 0, 1) := by decide +kernel
theorem dX2_size_1 : decode cX2_size 1 = .ok (.getfield 21, 3) := by decide +kernel
theorem dX2_size_4 : decode cX2_size 4 = .ok (.ireturn, 1) := by decide +kernel
theorem dX2_forget_0 : decode cX2_forget 0 = .ok (.aload_n 0, 1) := by decide +kernel
theorem dX2_forget_1 : decode cX2_forget 1 = .ok (.iconst 0, 1) := by decide +kernel
theorem dX2_forget_2 : decode cX2_forget 2 = .ok (.putfield 21, 3) := by decide +kernel
theorem dX2_forget_5 : decode cX2_forget 5 = .ok (.return_, 1) := by decide +kernel
theorem dX2_keep_0 : decode cX2_keep 0 = .ok (.aload_n 0, 1) := by decide +kernel
theorem dX2_keep_1 : decode cX2_keep 1 = .ok (.aload_n 0, 1) := by decide +kernel
theorem dX2_keep_2 : decode cX2_keep 2 = .ok (.getfield 17, 3) := by decide +kernel
theorem dX2_keep_5 : decode cX2_keep 5 = .ok (.invokevirtual 25, 3) := by decide +kernel
theorem dX2_keep_8 : decode cX2_keep 8 = .ok (.astore_n 2, 1) := by decide +kernel
theorem dX2_keep_9 : decode cX2_keep 9 = .ok (.aload_n 2, 1) := by decide +kernel
theorem dX2_keep_10 : decode cX2_keep 10 = .ok (.ifnonnull 4, 3) := by decide +kernel
theorem dX2_keep_13 : decode cX2_keep 13 = .ok (.return_, 1) := by decide +kernel
theorem dX2_keep_14 : decode cX2_keep 14 = .ok (.aload_n 2, 1) := by decide +kernel
theorem dX2_keep_15 : decode cX2_keep 15 = .ok (.aload_n 1, 1) := by decide +kernel
theorem dX2_keep_16 : decode cX2_keep 16 = .ok (.invokevirtual 29, 3) := by decide +kernel
theorem dX2_keep_19 : decode cX2_keep 19 = .ok (.aload_n 0, 1) := by decide +kernel
theorem dX2_keep_20 : decode cX2_keep 20 = .ok (.aload_n 0, 1) := by decide +kernel
theorem dX2_keep_21 : decode cX2_keep 21 = .ok (.getfield 17, 3) := by decide +kernel
theorem dX2_keep_24 : decode cX2_keep 24 = .ok (.iconst 1, 1) := by decide +kernel
theorem dX2_keep_25 : decode cX2_keep 25 = .ok (.iadd, 1) := by decide +kernel
theorem dX2_keep_26 : decode cX2_keep 26 = .ok (.bipush 8, 2) := by decide +kernel
theorem dX2_keep_28 : decode cX2_keep 28 = .ok (.if_icmp .ge 12, 3) := by decide +kernel
theorem dX2_keep_31 : decode cX2_keep 31 = .ok (.aload_n 0, 1) := by decide +kernel
theorem dX2_keep_32 : decode cX2_keep 32 = .ok (.getfield 17, 3) := by decide +kernel
theorem dX2_keep_35 : decode cX2_keep 35 = .ok (.iconst 1, 1) := by decide +kernel
theorem dX2_keep_36 : decode cX2_keep 36 = .ok (.iadd, 1) := by decide +kernel
theorem dX2_keep_37 : decode cX2_keep 37 = .ok (.goto 4, 3) := by decide +kernel
theorem dX2_keep_40 : decode cX2_keep 40 = .ok (.iconst 0, 1) := by decide +kernel
theorem dX2_keep_41 : decode cX2_keep 41 = .ok (.putfield 17, 3) := by decide +kernel
theorem dX2_keep_44 : decode cX2_keep 44 = .ok (.aload_n 0, 1) := by decide +kernel
theorem dX2_keep_45 : decode cX2_keep 45 = .ok (.aload_n 0, 1) := by decide +kernel
theorem dX2_keep_46 : decode cX2_keep 46 = .ok (.getfield 21, 3) := by decide +kernel
theorem dX2_keep_49 : decode cX2_keep 49 = .ok (.iconst 1, 1) := by decide +kernel
theorem dX2_keep_50 : decode cX2_keep 50 = .ok (.iadd, 1) := by decide +kernel
theorem dX2_keep_51 : decode cX2_keep 51 = .ok (.bipush 8, 2) := by decide +kernel
theorem dX2_keep_53 : decode cX2_keep 53 = .ok (.invokestatic 33, 3) := by decide +kernel
theorem dX2_keep_56 : decode cX2_keep 56 = .ok (.putfield 21, 3) := by decide +kernel
theorem dX2_keep_59 : decode cX2_keep 59 = .ok (.return_, 1) := by decide +kernel
theorem dX2_takeBackInto_0 : decode cX2_takeBackInto 0 = .ok (.aload_n 0, 1) := by decide +kernel
theorem dX2_takeBackInto_1 : decode cX2_takeBackInto 1 = .ok (.getfield 17, 3) := by decide +kernel
theorem dX2_takeBackInto_4 : decode cX2_takeBackInto 4 = .ok (.ifCond .le 12, 3) := by decide +kernel
theorem dX2_takeBackInto_7 : decode cX2_takeBackInto 7 = .ok (.aload_n 0, 1) := by decide +kernel
theorem dX2_takeBackInto_8 : decode cX2_takeBackInto 8 = .ok (.getfield 17, 3) := by decide +kernel
theorem dX2_takeBackInto_11 : decode cX2_takeBackInto 11 = .ok (.iconst 1, 1) := by decide +kernel
theorem dX2_takeBackInto_12 : decode cX2_takeBackInto 12 = .ok (.isub, 1) := by decide +kernel
theorem dX2_takeBackInto_13 : decode cX2_takeBackInto 13 = .ok (.goto 5, 3) := by decide +kernel
theorem dX2_takeBackInto_16 : decode cX2_takeBackInto 16 = .ok (.bipush 7, 2) := by decide +kernel
theorem dX2_takeBackInto_18 : decode cX2_takeBackInto 18 = .ok (.istore_n 2, 1) := by decide +kernel
theorem dX2_takeBackInto_19 : decode cX2_takeBackInto 19 = .ok (.aload_n 0, 1) := by decide +kernel
theorem dX2_takeBackInto_20 : decode cX2_takeBackInto 20 = .ok (.iload_n 2, 1) := by decide +kernel
theorem dX2_takeBackInto_21 : decode cX2_takeBackInto 21 = .ok (.invokevirtual 25, 3) := by decide +kernel
theorem dX2_takeBackInto_24 : decode cX2_takeBackInto 24 = .ok (.astore_n 3, 1) := by decide +kernel
theorem dX2_takeBackInto_25 : decode cX2_takeBackInto 25 = .ok (.aload_n 0, 1) := by decide +kernel
theorem dX2_takeBackInto_26 : decode cX2_takeBackInto 26 = .ok (.getfield 21, 3) := by decide +kernel
theorem dX2_takeBackInto_29 : decode cX2_takeBackInto 29 = .ok (.ifCond .eq 7, 3) := by decide +kernel
theorem dX2_takeBackInto_32 : decode cX2_takeBackInto 32 = .ok (.aload_n 3, 1) := by decide +kernel
theorem dX2_takeBackInto_33 : decode cX2_takeBackInto 33 = .ok (.ifnonnull 4, 3) := by decide +kernel
theorem dX2_takeBackInto_36 : decode cX2_takeBackInto 36 = .ok (.return_, 1) := by decide +kernel
theorem dX2_takeBackInto_37 : decode cX2_takeBackInto 37 = .ok (.aload_n 1, 1) := by decide +kernel
theorem dX2_takeBackInto_38 : decode cX2_takeBackInto 38 = .ok (.aload_n 3, 1) := by decide +kernel
theorem dX2_takeBackInto_39 : decode cX2_takeBackInto 39 = .ok (.invokevirtual 29, 3) := by decide +kernel
theorem dX2_takeBackInto_42 : decode cX2_takeBackInto 42 = .ok (.aload_n 0, 1) := by decide +kernel
theorem dX2_takeBackInto_43 : decode cX2_takeBackInto 43 = .ok (.iload_n 2, 1) := by decide +kernel
theorem dX2_takeBackInto_44 : decode cX2_takeBackInto 44 = .ok (.putfield 17, 3) := by decide +kernel
theorem dX2_takeBackInto_47 : decode cX2_takeBackInto 47 = .ok (.aload_n 0, 1) := by decide +kernel
theorem dX2_takeBackInto_48 : decode cX2_takeBackInto 48 = .ok (.dup, 1) := by decide +kernel
theorem dX2_takeBackInto_49 : decode cX2_takeBackInto 49 = .ok (.getfield 21, 3) := by decide +kernel
theorem dX2_takeBackInto_52 : decode cX2_takeBackInto 52 = .ok (.iconst 1, 1) := by decide +kernel
theorem dX2_takeBackInto_53 : decode cX2_takeBackInto 53 = .ok (.isub, 1) := by decide +kernel
theorem dX2_takeBackInto_54 : decode cX2_takeBackInto 54 = .ok (.putfield 21, 3) := by decide +kernel
theorem dX2_takeBackInto_57 : decode cX2_takeBackInto 57 = .ok (.return_, 1) := by decide +kernel
theorem dX2_slotAt_0 : decode cX2_slotAt 0 = .ok (.iload_n 1, 1) := by decide +kernel
theorem dX2_slotAt_1 : decode cX2_slotAt 1 = .ok (.ifCond .lt 21, 3) := by decide +kernel
theorem dX2_slotAt_4 : decode cX2_slotAt 4 = .ok (.iload_n 1, 1) := by decide +kernel
theorem dX2_slotAt_5 : decode cX2_slotAt 5 = .ok (.aload_n 0, 1) := by decide +kernel
theorem dX2_slotAt_6 : decode cX2_slotAt 6 = .ok (.getfield 11, 3) := by decide +kernel
theorem dX2_slotAt_9 : decode cX2_slotAt 9 = .ok (.arraylength, 1) := by decide +kernel
theorem dX2_slotAt_10 : decode cX2_slotAt 10 = .ok (.if_icmp .ge 12, 3) := by decide +kernel
theorem dX2_slotAt_13 : decode cX2_slotAt 13 = .ok (.aload_n 0, 1) := by decide +kernel
theorem dX2_slotAt_14 : decode cX2_slotAt 14 = .ok (.getfield 11, 3) := by decide +kernel
theorem dX2_slotAt_17 : decode cX2_slotAt 17 = .ok (.iload_n 1, 1) := by decide +kernel
theorem dX2_slotAt_18 : decode cX2_slotAt 18 = .ok (.aaload, 1) := by decide +kernel
theorem dX2_slotAt_19 : decode cX2_slotAt 19 = .ok (.goto 4, 3) := by decide +kernel
theorem dX2_slotAt_22 : decode cX2_slotAt 22 = .ok (.aconst_null, 1) := by decide +kernel
theorem dX2_slotAt_23 : decode cX2_slotAt 23 = .ok (.areturn, 1) := by decide +kernel
theorem dX3_tickByTick_0 : decode cX3_tickByTick 0 = .ok (.aload_n 0, 1) := by decide +kernel
theorem dX3_tickByTick_1 : decode cX3_tickByTick 1 = .ok (.iload_n 1, 1) := by decide +kernel
theorem dX3_tickByTick_2 : decode cX3_tickByTick 2 = .ok (.invokevirtual 9, 3) := by decide +kernel
theorem dX3_tickByTick_5 : decode cX3_tickByTick 5 = .ok (.aload_n 0, 1) := by decide +kernel
theorem dX3_tickByTick_6 : decode cX3_tickByTick 6 = .ok (.iload_n 2, 1) := by decide +kernel
theorem dX3_tickByTick_7 : decode cX3_tickByTick 7 = .ok (.invokevirtual 9, 3) := by decide +kernel
theorem dX3_tickByTick_10 : decode cX3_tickByTick 10 = .ok (.imul, 1) := by decide +kernel
theorem dX3_tickByTick_11 : decode cX3_tickByTick 11 = .ok (.istore_n 3, 1) := by decide +kernel
theorem dX3_tickByTick_12 : decode cX3_tickByTick 12 = .ok (.iconst 1, 1) := by decide +kernel
theorem dX3_tickByTick_13 : decode cX3_tickByTick 13 = .ok (.istore 4, 2) := by decide +kernel
theorem dX3_tickByTick_15 : decode cX3_tickByTick 15 = .ok (.iload 4, 2) := by decide +kernel
theorem dX3_tickByTick_17 : decode cX3_tickByTick 17 = .ok (.iload_n 3, 1) := by decide +kernel
theorem dX3_tickByTick_18 : decode cX3_tickByTick 18 = .ok (.if_icmp .gt 41, 3) := by decide +kernel
theorem dX3_tickByTick_21 : decode cX3_tickByTick 21 = .ok (.aload_n 0, 1) := by decide +kernel
theorem dX3_tickByTick_22 : decode cX3_tickByTick 22 = .ok (.getfield 15, 3) := by decide +kernel
theorem dX3_tickByTick_25 : decode cX3_tickByTick 25 = .ok (.iload 4, 2) := by decide +kernel
theorem dX3_tickByTick_27 : decode cX3_tickByTick 27 = .ok (.iadd, 1) := by decide +kernel
theorem dX3_tickByTick_28 : decode cX3_tickByTick 28 = .ok (.istore 5, 2) := by decide +kernel
theorem dX3_tickByTick_30 : decode cX3_tickByTick 30 = .ok (.aload_n 0, 1) := by decide +kernel
theorem dX3_tickByTick_31 : decode cX3_tickByTick 31 = .ok (.iload_n 1, 1) := by decide +kernel
theorem dX3_tickByTick_32 : decode cX3_tickByTick 32 = .ok (.iload 5, 2) := by decide +kernel
theorem dX3_tickByTick_34 : decode cX3_tickByTick 34 = .ok (.invokestatic 19, 3) := by decide +kernel
theorem dX3_tickByTick_37 : decode cX3_tickByTick 37 = .ok (.ifCond .eq 16, 3) := by decide +kernel
theorem dX3_tickByTick_40 : decode cX3_tickByTick 40 = .ok (.aload_n 0, 1) := by decide +kernel
theorem dX3_tickByTick_41 : decode cX3_tickByTick 41 = .ok (.iload_n 2, 1) := by decide +kernel
theorem dX3_tickByTick_42 : decode cX3_tickByTick 42 = .ok (.iload 5, 2) := by decide +kernel
theorem dX3_tickByTick_44 : decode cX3_tickByTick 44 = .ok (.invokestatic 19, 3) := by decide +kernel
theorem dX3_tickByTick_47 : decode cX3_tickByTick 47 = .ok (.ifCond .eq 6, 3) := by decide +kernel
theorem dX3_tickByTick_50 : decode cX3_tickByTick 50 = .ok (.iload 5, 2) := by decide +kernel
theorem dX3_tickByTick_52 : decode cX3_tickByTick 52 = .ok (.ireturn, 1) := by decide +kernel
theorem dX3_tickByTick_53 : decode cX3_tickByTick 53 = .ok (.iinc 4 1, 3) := by decide +kernel
theorem dX3_tickByTick_56 : decode cX3_tickByTick 56 = .ok (.goto (-41), 3) := by decide +kernel
theorem dX3_tickByTick_59 : decode cX3_tickByTick 59 = .ok (.iconst (-1), 1) := by decide +kernel
theorem dX3_tickByTick_60 : decode cX3_tickByTick 60 = .ok (.ireturn, 1) := by decide +kernel
theorem dX3_swingsIn_0 : decode cX3_swingsIn 0 = .ok (.aload_n 0, 1) := by decide +kernel
theorem dX3_swingsIn_1 : decode cX3_swingsIn 1 = .ok (.iload_n 1, 1) := by decide +kernel
theorem dX3_swingsIn_2 : decode cX3_swingsIn 2 = .ok (.invokevirtual 9, 3) := by decide +kernel
theorem dX3_swingsIn_5 : decode cX3_swingsIn 5 = .ok (.iload_n 2, 1) := by decide +kernel
theorem dX3_swingsIn_6 : decode cX3_swingsIn 6 = .ok (.aload_n 0, 1) := by decide +kernel
theorem dX3_swingsIn_7 : decode cX3_swingsIn 7 = .ok (.iload_n 1, 1) := by decide +kernel
theorem dX3_swingsIn_8 : decode cX3_swingsIn 8 = .ok (.invokevirtual 25, 3) := by decide +kernel
theorem dX3_swingsIn_11 : decode cX3_swingsIn 11 = .ok (.isub, 1) := by decide +kernel
theorem dX3_swingsIn_12 : decode cX3_swingsIn 12 = .ok (.invokestatic 28, 3) := by decide +kernel
theorem dX3_swingsIn_15 : decode cX3_swingsIn 15 = .ok (.ireturn, 1) := by decide +kernel
theorem dX3_byDivisors_0 : decode cX3_byDivisors 0 = .ok (.aload_n 0, 1) := by decide +kernel
theorem dX3_byDivisors_1 : decode cX3_byDivisors 1 = .ok (.iload_n 1, 1) := by decide +kernel
theorem dX3_byDivisors_2 : decode cX3_byDivisors 2 = .ok (.iload_n 2, 1) := by decide +kernel
theorem dX3_byDivisors_3 : decode cX3_byDivisors 3 = .ok (.invokestatic 34, 3) := by decide +kernel
theorem dX3_byDivisors_6 : decode cX3_byDivisors 6 = .ok (.ifCond .ne 5, 3) := by decide +kernel
theorem dX3_byDivisors_9 : decode cX3_byDivisors 9 = .ok (.iconst (-1), 1) := by decide +kernel
theorem dX3_byDivisors_10 : decode cX3_byDivisors 10 = .ok (.ireturn, 1) := by decide +kernel
theorem dX3_byDivisors_11 : decode cX3_byDivisors 11 = .ok (.aload_n 0, 1) := by decide +kernel
theorem dX3_byDivisors_12 : decode cX3_byDivisors 12 = .ok (.iload_n 1, 1) := by decide +kernel
theorem dX3_byDivisors_13 : decode cX3_byDivisors 13 = .ok (.invokevirtual 9, 3) := by decide +kernel
theorem dX3_byDivisors_16 : decode cX3_byDivisors 16 = .ok (.istore_n 3, 1) := by decide +kernel
theorem dX3_byDivisors_17 : decode cX3_byDivisors 17 = .ok (.iload_n 3, 1) := by decide +kernel
theorem dX3_byDivisors_18 : decode cX3_byDivisors 18 = .ok (.aload_n 0, 1) := by decide +kernel
theorem dX3_byDivisors_19 : decode cX3_byDivisors 19 = .ok (.iload_n 2, 1) := by decide +kernel
theorem dX3_byDivisors_20 : decode cX3_byDivisors 20 = .ok (.invokevirtual 9, 3) := by decide +kernel
theorem dX3_byDivisors_23 : decode cX3_byDivisors 23 = .ok (.invokestatic 37, 3) := by decide +kernel
theorem dX3_byDivisors_26 : decode cX3_byDivisors 26 = .ok (.istore 4, 2) := by decide +kernel
theorem dX3_byDivisors_28 : decode cX3_byDivisors 28 = .ok (.aload_n 0, 1) := by decide +kernel
theorem dX3_byDivisors_29 : decode cX3_byDivisors 29 = .ok (.iload_n 2, 1) := by decide +kernel
theorem dX3_byDivisors_30 : decode cX3_byDivisors 30 = .ok (.invokevirtual 9, 3) := by decide +kernel
theorem dX3_byDivisors_33 : decode cX3_byDivisors 33 = .ok (.iload 4, 2) := by decide +kernel
theorem dX3_byDivisors_35 : decode cX3_byDivisors 35 = .ok (.invokestatic 41, 3) := by decide +kernel
theorem dX3_byDivisors_38 : decode cX3_byDivisors 38 = .ok (.istore 5, 2) := by decide +kernel
theorem dX3_byDivisors_40 : decode cX3_byDivisors 40 = .ok (.iload 5, 2) := by decide +kernel
theorem dX3_byDivisors_42 : decode cX3_byDivisors 42 = .ok (.ifCond .gt 5, 3) := by decide +kernel
theorem dX3_byDivisors_45 : decode cX3_byDivisors 45 = .ok (.iconst (-1), 1) := by decide +kernel
theorem dX3_byDivisors_46 : decode cX3_byDivisors 46 = .ok (.ireturn, 1) := by decide +kernel
theorem dX3_byDivisors_47 : decode cX3_byDivisors 47 = .ok (.aload_n 0, 1) := by decide +kernel
theorem dX3_byDivisors_48 : decode cX3_byDivisors 48 = .ok (.iload_n 1, 1) := by decide +kernel
theorem dX3_byDivisors_49 : decode cX3_byDivisors 49 = .ok (.invokevirtual 44, 3) := by decide +kernel
theorem dX3_byDivisors_52 : decode cX3_byDivisors 52 = .ok (.istore 6, 2) := by decide +kernel
theorem dX3_byDivisors_54 : decode cX3_byDivisors 54 = .ok (.aload_n 0, 1) := by decide +kernel
theorem dX3_byDivisors_55 : decode cX3_byDivisors 55 = .ok (.iload_n 2, 1) := by decide +kernel
theorem dX3_byDivisors_56 : decode cX3_byDivisors 56 = .ok (.invokevirtual 44, 3) := by decide +kernel
theorem dX3_byDivisors_59 : decode cX3_byDivisors 59 = .ok (.iload 6, 2) := by decide +kernel
theorem dX3_byDivisors_61 : decode cX3_byDivisors 61 = .ok (.isub, 1) := by decide +kernel
theorem dX3_byDivisors_62 : decode cX3_byDivisors 62 = .ok (.iload 4, 2) := by decide +kernel
theorem dX3_byDivisors_64 : decode cX3_byDivisors 64 = .ok (.invokestatic 41, 3) := by decide +kernel
theorem dX3_byDivisors_67 : decode cX3_byDivisors 67 = .ok (.istore 7, 2) := by decide +kernel
theorem dX3_byDivisors_69 : decode cX3_byDivisors 69 = .ok (.iload_n 3, 1) := by decide +kernel
theorem dX3_byDivisors_70 : decode cX3_byDivisors 70 = .ok (.iload 4, 2) := by decide +kernel
theorem dX3_byDivisors_72 : decode cX3_byDivisors 72 = .ok (.invokestatic 41, 3) := by decide +kernel
theorem dX3_byDivisors_75 : decode cX3_byDivisors 75 = .ok (.iload 5, 2) := by decide +kernel
theorem dX3_byDivisors_77 : decode cX3_byDivisors 77 = .ok (.invokestatic 47, 3) := by decide +kernel
theorem dX3_byDivisors_80 : decode cX3_byDivisors 80 = .ok (.istore 8, 2) := by decide +kernel
theorem dX3_byDivisors_82 : decode cX3_byDivisors 82 = .ok (.iload 6, 2) := by decide +kernel
theorem dX3_byDivisors_84 : decode cX3_byDivisors 84 = .ok (.iload 7, 2) := by decide +kernel
theorem dX3_byDivisors_86 : decode cX3_byDivisors 86 = .ok (.iload 8, 2) := by decide +kernel
theorem dX3_byDivisors_88 : decode cX3_byDivisors 88 = .ok (.imul, 1) := by decide +kernel
theorem dX3_byDivisors_89 : decode cX3_byDivisors 89 = .ok (.iload 5, 2) := by decide +kernel
theorem dX3_byDivisors_91 : decode cX3_byDivisors 91 = .ok (.invokestatic 50, 3) := by decide +kernel
theorem dX3_byDivisors_94 : decode cX3_byDivisors 94 = .ok (.iload_n 3, 1) := by decide +kernel
theorem dX3_byDivisors_95 : decode cX3_byDivisors 95 = .ok (.imul, 1) := by decide +kernel
theorem dX3_byDivisors_96 : decode cX3_byDivisors 96 = .ok (.iadd, 1) := by decide +kernel
theorem dX3_byDivisors_97 : decode cX3_byDivisors 97 = .ok (.ireturn, 1) := by decide +kernel
theorem dX3_everMeet_0 : decode cX3_everMeet 0 = .ok (.aload_n 0, 1) := by decide +kernel
theorem dX3_everMeet_1 : decode cX3_everMeet 1 = .ok (.iload_n 1, 1) := by decide +kernel
theorem dX3_everMeet_2 : decode cX3_everMeet 2 = .ok (.invokevirtual 9, 3) := by decide +kernel
theorem dX3_everMeet_5 : decode cX3_everMeet 5 = .ok (.aload_n 0, 1) := by decide +kernel
theorem dX3_everMeet_6 : decode cX3_everMeet 6 = .ok (.iload_n 2, 1) := by decide +kernel
theorem dX3_everMeet_7 : decode cX3_everMeet 7 = .ok (.invokevirtual 9, 3) := by decide +kernel
theorem dX3_everMeet_10 : decode cX3_everMeet 10 = .ok (.invokestatic 37, 3) := by decide +kernel
theorem dX3_everMeet_13 : decode cX3_everMeet 13 = .ok (.istore_n 3, 1) := by decide +kernel
theorem dX3_everMeet_14 : decode cX3_everMeet 14 = .ok (.iload_n 3, 1) := by decide +kernel
theorem dX3_everMeet_15 : decode cX3_everMeet 15 = .ok (.aload_n 0, 1) := by decide +kernel
theorem dX3_everMeet_16 : decode cX3_everMeet 16 = .ok (.iload_n 1, 1) := by decide +kernel
theorem dX3_everMeet_17 : decode cX3_everMeet 17 = .ok (.invokevirtual 25, 3) := by decide +kernel
theorem dX3_everMeet_20 : decode cX3_everMeet 20 = .ok (.aload_n 0, 1) := by decide +kernel
theorem dX3_everMeet_21 : decode cX3_everMeet 21 = .ok (.iload_n 2, 1) := by decide +kernel
theorem dX3_everMeet_22 : decode cX3_everMeet 22 = .ok (.invokevirtual 25, 3) := by decide +kernel
theorem dX3_everMeet_25 : decode cX3_everMeet 25 = .ok (.isub, 1) := by decide +kernel
theorem dX3_everMeet_26 : decode cX3_everMeet 26 = .ok (.invokestatic 28, 3) := by decide +kernel
theorem dX3_everMeet_29 : decode cX3_everMeet 29 = .ok (.ireturn, 1) := by decide +kernel
theorem dX3_pairs_0 : decode cX3_pairs 0 = .ok (.iconst 0, 1) := by decide +kernel
theorem dX3_pairs_1 : decode cX3_pairs 1 = .ok (.istore_n 1, 1) := by decide +kernel
theorem dX3_pairs_2 : decode cX3_pairs 2 = .ok (.iconst 0, 1) := by decide +kernel
theorem dX3_pairs_3 : decode cX3_pairs 3 = .ok (.istore_n 2, 1) := by decide +kernel
theorem dX3_pairs_4 : decode cX3_pairs 4 = .ok (.iload_n 2, 1) := by decide +kernel
theorem dX3_pairs_5 : decode cX3_pairs 5 = .ok (.aload_n 0, 1) := by decide +kernel
theorem dX3_pairs_6 : decode cX3_pairs 6 = .ok (.getfield 55, 3) := by decide +kernel
theorem dX3_pairs_9 : decode cX3_pairs 9 = .ok (.if_icmp .ge 50, 3) := by decide +kernel
theorem dX3_pairs_12 : decode cX3_pairs 12 = .ok (.iconst 0, 1) := by decide +kernel
theorem dX3_pairs_13 : decode cX3_pairs 13 = .ok (.istore_n 3, 1) := by decide +kernel
theorem dX3_pairs_14 : decode cX3_pairs 14 = .ok (.iload_n 3, 1) := by decide +kernel
theorem dX3_pairs_15 : decode cX3_pairs 15 = .ok (.iload_n 2, 1) := by decide +kernel
theorem dX3_pairs_16 : decode cX3_pairs 16 = .ok (.if_icmp .ge 37, 3) := by decide +kernel
theorem dX3_pairs_19 : decode cX3_pairs 19 = .ok (.aload_n 0, 1) := by decide +kernel
theorem dX3_pairs_20 : decode cX3_pairs 20 = .ok (.iload_n 2, 1) := by decide +kernel
theorem dX3_pairs_21 : decode cX3_pairs 21 = .ok (.invokevirtual 58, 3) := by decide +kernel
theorem dX3_pairs_24 : decode cX3_pairs 24 = .ok (.ifCond .eq 23, 3) := by decide +kernel
theorem dX3_pairs_27 : decode cX3_pairs 27 = .ok (.aload_n 0, 1) := by decide +kernel
theorem dX3_pairs_28 : decode cX3_pairs 28 = .ok (.iload_n 3, 1) := by decide +kernel
theorem dX3_pairs_29 : decode cX3_pairs 29 = .ok (.invokevirtual 58, 3) := by decide +kernel
theorem dX3_pairs_32 : decode cX3_pairs 32 = .ok (.ifCond .eq 15, 3) := by decide +kernel
theorem dX3_pairs_35 : decode cX3_pairs 35 = .ok (.aload_n 0, 1) := by decide +kernel
theorem dX3_pairs_36 : decode cX3_pairs 36 = .ok (.iload_n 2, 1) := by decide +kernel
theorem dX3_pairs_37 : decode cX3_pairs 37 = .ok (.iload_n 3, 1) := by decide +kernel
theorem dX3_pairs_38 : decode cX3_pairs 38 = .ok (.invokestatic 34, 3) := by decide +kernel
theorem dX3_pairs_41 : decode cX3_pairs 41 = .ok (.ifCond .eq 6, 3) := by decide +kernel
theorem dX3_pairs_44 : decode cX3_pairs 44 = .ok (.iinc 1 1, 3) := by decide +kernel
theorem dX3_pairs_47 : decode cX3_pairs 47 = .ok (.iinc 3 1, 3) := by decide +kernel
theorem dX3_pairs_50 : decode cX3_pairs 50 = .ok (.goto (-36), 3) := by decide +kernel
theorem dX3_pairs_53 : decode cX3_pairs 53 = .ok (.iinc 2 1, 3) := by decide +kernel
theorem dX3_pairs_56 : decode cX3_pairs 56 = .ok (.goto (-52), 3) := by decide +kernel
theorem dX3_pairs_59 : decode cX3_pairs 59 = .ok (.iload_n 1, 1) := by decide +kernel
theorem dX3_pairs_60 : decode cX3_pairs 60 = .ok (.ireturn, 1) := by decide +kernel
theorem dX4_quotient_0 : decode cX4_quotient 0 = .ok (.iload_n 1, 1) := by decide +kernel
theorem dX4_quotient_1 : decode cX4_quotient 1 = .ok (.ifCond .ne 7, 3) := by decide +kernel
theorem dX4_quotient_4 : decode cX4_quotient 4 = .ok (.iconst 0, 1) := by decide +kernel
theorem dX4_quotient_5 : decode cX4_quotient 5 = .ok (.goto 6, 3) := by decide +kernel
theorem dX4_quotient_8 : decode cX4_quotient 8 = .ok (.iload_n 0, 1) := by decide +kernel
theorem dX4_quotient_9 : decode cX4_quotient 9 = .ok (.iload_n 1, 1) := by decide +kernel
theorem dX4_quotient_10 : decode cX4_quotient 10 = .ok (.idiv, 1) := by decide +kernel
theorem dX4_quotient_11 : decode cX4_quotient 11 = .ok (.ireturn, 1) := by decide +kernel
theorem dX4_remainder_0 : decode cX4_remainder 0 = .ok (.iload_n 1, 1) := by decide +kernel
theorem dX4_remainder_1 : decode cX4_remainder 1 = .ok (.ifCond .ne 7, 3) := by decide +kernel
theorem dX4_remainder_4 : decode cX4_remainder 4 = .ok (.iconst 0, 1) := by decide +kernel
theorem dX4_remainder_5 : decode cX4_remainder 5 = .ok (.goto 6, 3) := by decide +kernel
theorem dX4_remainder_8 : decode cX4_remainder 8 = .ok (.iload_n 0, 1) := by decide +kernel
theorem dX4_remainder_9 : decode cX4_remainder 9 = .ok (.iload_n 1, 1) := by decide +kernel
theorem dX4_remainder_10 : decode cX4_remainder 10 = .ok (.irem, 1) := by decide +kernel
theorem dX4_remainder_11 : decode cX4_remainder 11 = .ok (.ireturn, 1) := by decide +kernel
theorem dX4_divides_0 : decode cX4_divides 0 = .ok (.iload_n 0, 1) := by decide +kernel
theorem dX4_divides_1 : decode cX4_divides 1 = .ok (.ifCond .eq 13, 3) := by decide +kernel
theorem dX4_divides_4 : decode cX4_divides 4 = .ok (.iload_n 1, 1) := by decide +kernel
theorem dX4_divides_5 : decode cX4_divides 5 = .ok (.iload_n 0, 1) := by decide +kernel
theorem dX4_divides_6 : decode cX4_divides 6 = .ok (.irem, 1) := by decide +kernel
theorem dX4_divides_7 : decode cX4_divides 7 = .ok (.ifCond .ne 7, 3) := by decide +kernel
theorem dX4_divides_10 : decode cX4_divides 10 = .ok (.iconst 1, 1) := by decide +kernel
theorem dX4_divides_11 : decode cX4_divides 11 = .ok (.goto 4, 3) := by decide +kernel
theorem dX4_divides_14 : decode cX4_divides 14 = .ok (.iconst 0, 1) := by decide +kernel
theorem dX4_divides_15 : decode cX4_divides 15 = .ok (.ireturn, 1) := by decide +kernel
theorem dX4_rootByBits_0 : decode cX4_rootByBits 0 = .ok (.iconst 0, 1) := by decide +kernel
theorem dX4_rootByBits_1 : decode cX4_rootByBits 1 = .ok (.istore_n 1, 1) := by decide +kernel
theorem dX4_rootByBits_2 : decode cX4_rootByBits 2 = .ok (.bipush 32, 2) := by decide +kernel
theorem dX4_rootByBits_4 : decode cX4_rootByBits 4 = .ok (.istore_n 2, 1) := by decide +kernel
theorem dX4_rootByBits_5 : decode cX4_rootByBits 5 = .ok (.iload_n 2, 1) := by decide +kernel
theorem dX4_rootByBits_6 : decode cX4_rootByBits 6 = .ok (.ifCond .le 23, 3) := by decide +kernel
theorem dX4_rootByBits_9 : decode cX4_rootByBits 9 = .ok (.iload_n 1, 1) := by decide +kernel
theorem dX4_rootByBits_10 : decode cX4_rootByBits 10 = .ok (.iload_n 2, 1) := by decide +kernel
theorem dX4_rootByBits_11 : decode cX4_rootByBits 11 = .ok (.iadd, 1) := by decide +kernel
theorem dX4_rootByBits_12 : decode cX4_rootByBits 12 = .ok (.istore_n 3, 1) := by decide +kernel
theorem dX4_rootByBits_13 : decode cX4_rootByBits 13 = .ok (.iload_n 3, 1) := by decide +kernel
theorem dX4_rootByBits_14 : decode cX4_rootByBits 14 = .ok (.iload_n 3, 1) := by decide +kernel
theorem dX4_rootByBits_15 : decode cX4_rootByBits 15 = .ok (.imul, 1) := by decide +kernel
theorem dX4_rootByBits_16 : decode cX4_rootByBits 16 = .ok (.iload_n 0, 1) := by decide +kernel
theorem dX4_rootByBits_17 : decode cX4_rootByBits 17 = .ok (.if_icmp .gt 5, 3) := by decide +kernel
theorem dX4_rootByBits_20 : decode cX4_rootByBits 20 = .ok (.iload_n 3, 1) := by decide +kernel
theorem dX4_rootByBits_21 : decode cX4_rootByBits 21 = .ok (.istore_n 1, 1) := by decide +kernel
theorem dX4_rootByBits_22 : decode cX4_rootByBits 22 = .ok (.iload_n 2, 1) := by decide +kernel
theorem dX4_rootByBits_23 : decode cX4_rootByBits 23 = .ok (.iconst 1, 1) := by decide +kernel
theorem dX4_rootByBits_24 : decode cX4_rootByBits 24 = .ok (.ishr, 1) := by decide +kernel
theorem dX4_rootByBits_25 : decode cX4_rootByBits 25 = .ok (.istore_n 2, 1) := by decide +kernel
theorem dX4_rootByBits_26 : decode cX4_rootByBits 26 = .ok (.goto (-21), 3) := by decide +kernel
theorem dX4_rootByBits_29 : decode cX4_rootByBits 29 = .ok (.iload_n 1, 1) := by decide +kernel
theorem dX4_rootByBits_30 : decode cX4_rootByBits 30 = .ok (.ireturn, 1) := by decide +kernel
theorem dX4_rootByEstimates_0 : decode cX4_rootByEstimates 0 = .ok (.iload_n 0, 1) := by decide +kernel
theorem dX4_rootByEstimates_1 : decode cX4_rootByEstimates 1 = .ok (.istore_n 1, 1) := by decide +kernel
theorem dX4_rootByEstimates_2 : decode cX4_rootByEstimates 2 = .ok (.iconst 0, 1) := by decide +kernel
theorem dX4_rootByEstimates_3 : decode cX4_rootByEstimates 3 = .ok (.istore_n 2, 1) := by decide +kernel
theorem dX4_rootByEstimates_4 : decode cX4_rootByEstimates 4 = .ok (.iload_n 2, 1) := by decide +kernel
theorem dX4_rootByEstimates_5 : decode cX4_rootByEstimates 5 = .ok (.bipush 100, 2) := by decide +kernel
theorem dX4_rootByEstimates_7 : decode cX4_rootByEstimates 7 = .ok (.if_icmp .ge 30, 3) := by decide +kernel
theorem dX4_rootByEstimates_10 : decode cX4_rootByEstimates 10 = .ok (.iload_n 1, 1) := by decide +kernel
theorem dX4_rootByEstimates_11 : decode cX4_rootByEstimates 11 = .ok (.ifCond .le 26, 3) := by decide +kernel
theorem dX4_rootByEstimates_14 : decode cX4_rootByEstimates 14 = .ok (.iload_n 1, 1) := by decide +kernel
theorem dX4_rootByEstimates_15 : decode cX4_rootByEstimates 15 = .ok (.iload_n 0, 1) := by decide +kernel
theorem dX4_rootByEstimates_16 : decode cX4_rootByEstimates 16 = .ok (.iload_n 1, 1) := by decide +kernel
theorem dX4_rootByEstimates_17 : decode cX4_rootByEstimates 17 = .ok (.idiv, 1) := by decide +kernel
theorem dX4_rootByEstimates_18 : decode cX4_rootByEstimates 18 = .ok (.iadd, 1) := by decide +kernel
theorem dX4_rootByEstimates_19 : decode cX4_rootByEstimates 19 = .ok (.iconst 2, 1) := by decide +kernel
theorem dX4_rootByEstimates_20 : decode cX4_rootByEstimates 20 = .ok (.idiv, 1) := by decide +kernel
theorem dX4_rootByEstimates_21 : decode cX4_rootByEstimates 21 = .ok (.istore_n 3, 1) := by decide +kernel
theorem dX4_rootByEstimates_22 : decode cX4_rootByEstimates 22 = .ok (.iload_n 3, 1) := by decide +kernel
theorem dX4_rootByEstimates_23 : decode cX4_rootByEstimates 23 = .ok (.iload_n 1, 1) := by decide +kernel
theorem dX4_rootByEstimates_24 : decode cX4_rootByEstimates 24 = .ok (.if_icmp .lt 5, 3) := by decide +kernel
theorem dX4_rootByEstimates_27 : decode cX4_rootByEstimates 27 = .ok (.iload_n 1, 1) := by decide +kernel
theorem dX4_rootByEstimates_28 : decode cX4_rootByEstimates 28 = .ok (.ireturn, 1) := by decide +kernel
theorem dX4_rootByEstimates_29 : decode cX4_rootByEstimates 29 = .ok (.iload_n 3, 1) := by decide +kernel
theorem dX4_rootByEstimates_30 : decode cX4_rootByEstimates 30 = .ok (.istore_n 1, 1) := by decide +kernel
theorem dX4_rootByEstimates_31 : decode cX4_rootByEstimates 31 = .ok (.iinc 2 1, 3) := by decide +kernel
theorem dX4_rootByEstimates_34 : decode cX4_rootByEstimates 34 = .ok (.goto (-30), 3) := by decide +kernel
theorem dX4_rootByEstimates_37 : decode cX4_rootByEstimates 37 = .ok (.iload_n 1, 1) := by decide +kernel
theorem dX4_rootByEstimates_38 : decode cX4_rootByEstimates 38 = .ok (.ireturn, 1) := by decide +kernel
theorem dX4_greatestDivisor_0 : decode cX4_greatestDivisor 0 = .ok (.iload_n 0, 1) := by decide +kernel
theorem dX4_greatestDivisor_1 : decode cX4_greatestDivisor 1 = .ok (.istore_n 2, 1) := by decide +kernel
theorem dX4_greatestDivisor_2 : decode cX4_greatestDivisor 2 = .ok (.iload_n 1, 1) := by decide +kernel
theorem dX4_greatestDivisor_3 : decode cX4_greatestDivisor 3 = .ok (.istore_n 3, 1) := by decide +kernel
theorem dX4_greatestDivisor_4 : decode cX4_greatestDivisor 4 = .ok (.iconst 0, 1) := by decide +kernel
theorem dX4_greatestDivisor_5 : decode cX4_greatestDivisor 5 = .ok (.istore 4, 2) := by decide +kernel
theorem dX4_greatestDivisor_7 : decode cX4_greatestDivisor 7 = .ok (.iload 4, 2) := by decide +kernel
theorem dX4_greatestDivisor_9 : decode cX4_greatestDivisor 9 = .ok (.bipush 100, 2) := by decide +kernel
theorem dX4_greatestDivisor_11 : decode cX4_greatestDivisor 11 = .ok (.if_icmp .ge 23, 3) := by decide +kernel
theorem dX4_greatestDivisor_14 : decode cX4_greatestDivisor 14 = .ok (.iload_n 3, 1) := by decide +kernel
theorem dX4_greatestDivisor_15 : decode cX4_greatestDivisor 15 = .ok (.ifCond .eq 19, 3) := by decide +kernel
theorem dX4_greatestDivisor_18 : decode cX4_greatestDivisor 18 = .ok (.iload_n 2, 1) := by decide +kernel
theorem dX4_greatestDivisor_19 : decode cX4_greatestDivisor 19 = .ok (.iload_n 3, 1) := by decide +kernel
theorem dX4_greatestDivisor_20 : decode cX4_greatestDivisor 20 = .ok (.irem, 1) := by decide +kernel
theorem dX4_greatestDivisor_21 : decode cX4_greatestDivisor 21 = .ok (.istore 5, 2) := by decide +kernel
theorem dX4_greatestDivisor_23 : decode cX4_greatestDivisor 23 = .ok (.iload_n 3, 1) := by decide +kernel
theorem dX4_greatestDivisor_24 : decode cX4_greatestDivisor 24 = .ok (.istore_n 2, 1) := by decide +kernel
theorem dX4_greatestDivisor_25 : decode cX4_greatestDivisor 25 = .ok (.iload 5, 2) := by decide +kernel
theorem dX4_greatestDivisor_27 : decode cX4_greatestDivisor 27 = .ok (.istore_n 3, 1) := by decide +kernel
theorem dX4_greatestDivisor_28 : decode cX4_greatestDivisor 28 = .ok (.iinc 4 1, 3) := by decide +kernel
theorem dX4_greatestDivisor_31 : decode cX4_greatestDivisor 31 = .ok (.goto (-24), 3) := by decide +kernel
theorem dX4_greatestDivisor_34 : decode cX4_greatestDivisor 34 = .ok (.iload_n 2, 1) := by decide +kernel
theorem dX4_greatestDivisor_35 : decode cX4_greatestDivisor 35 = .ok (.ireturn, 1) := by decide +kernel
theorem dX4_leastMultiple_0 : decode cX4_leastMultiple 0 = .ok (.iload_n 0, 1) := by decide +kernel
theorem dX4_leastMultiple_1 : decode cX4_leastMultiple 1 = .ok (.iload_n 0, 1) := by decide +kernel
theorem dX4_leastMultiple_2 : decode cX4_leastMultiple 2 = .ok (.iload_n 1, 1) := by decide +kernel
theorem dX4_leastMultiple_3 : decode cX4_leastMultiple 3 = .ok (.invokestatic 9, 3) := by decide +kernel
theorem dX4_leastMultiple_6 : decode cX4_leastMultiple 6 = .ok (.invokestatic 15, 3) := by decide +kernel
theorem dX4_leastMultiple_9 : decode cX4_leastMultiple 9 = .ok (.iload_n 1, 1) := by decide +kernel
theorem dX4_leastMultiple_10 : decode cX4_leastMultiple 10 = .ok (.imul, 1) := by decide +kernel
theorem dX4_leastMultiple_11 : decode cX4_leastMultiple 11 = .ok (.ireturn, 1) := by decide +kernel
theorem dX4_inverse_0 : decode cX4_inverse 0 = .ok (.iload_n 0, 1) := by decide +kernel
theorem dX4_inverse_1 : decode cX4_inverse 1 = .ok (.istore_n 2, 1) := by decide +kernel
theorem dX4_inverse_2 : decode cX4_inverse 2 = .ok (.iload_n 1, 1) := by decide +kernel
theorem dX4_inverse_3 : decode cX4_inverse 3 = .ok (.istore_n 3, 1) := by decide +kernel
theorem dX4_inverse_4 : decode cX4_inverse 4 = .ok (.iconst 1, 1) := by decide +kernel
theorem dX4_inverse_5 : decode cX4_inverse 5 = .ok (.istore 4, 2) := by decide +kernel
theorem dX4_inverse_7 : decode cX4_inverse 7 = .ok (.iconst 0, 1) := by decide +kernel
theorem dX4_inverse_8 : decode cX4_inverse 8 = .ok (.istore 5, 2) := by decide +kernel
theorem dX4_inverse_10 : decode cX4_inverse 10 = .ok (.iconst 0, 1) := by decide +kernel
theorem dX4_inverse_11 : decode cX4_inverse 11 = .ok (.istore 6, 2) := by decide +kernel
theorem dX4_inverse_13 : decode cX4_inverse 13 = .ok (.iload 6, 2) := by decide +kernel
theorem dX4_inverse_15 : decode cX4_inverse 15 = .ok (.bipush 100, 2) := by decide +kernel
theorem dX4_inverse_17 : decode cX4_inverse 17 = .ok (.if_icmp .ge 49, 3) := by decide +kernel
theorem dX4_inverse_20 : decode cX4_inverse 20 = .ok (.iload_n 3, 1) := by decide +kernel
theorem dX4_inverse_21 : decode cX4_inverse 21 = .ok (.ifCond .eq 45, 3) := by decide +kernel
theorem dX4_inverse_24 : decode cX4_inverse 24 = .ok (.iload_n 2, 1) := by decide +kernel
theorem dX4_inverse_25 : decode cX4_inverse 25 = .ok (.iload_n 3, 1) := by decide +kernel
theorem dX4_inverse_26 : decode cX4_inverse 26 = .ok (.idiv, 1) := by decide +kernel
theorem dX4_inverse_27 : decode cX4_inverse 27 = .ok (.istore 7, 2) := by decide +kernel
theorem dX4_inverse_29 : decode cX4_inverse 29 = .ok (.iload_n 2, 1) := by decide +kernel
theorem dX4_inverse_30 : decode cX4_inverse 30 = .ok (.iload 7, 2) := by decide +kernel
theorem dX4_inverse_32 : decode cX4_inverse 32 = .ok (.iload_n 3, 1) := by decide +kernel
theorem dX4_inverse_33 : decode cX4_inverse 33 = .ok (.imul, 1) := by decide +kernel
theorem dX4_inverse_34 : decode cX4_inverse 34 = .ok (.isub, 1) := by decide +kernel
theorem dX4_inverse_35 : decode cX4_inverse 35 = .ok (.istore 8, 2) := by decide +kernel
theorem dX4_inverse_37 : decode cX4_inverse 37 = .ok (.iload_n 3, 1) := by decide +kernel
theorem dX4_inverse_38 : decode cX4_inverse 38 = .ok (.istore_n 2, 1) := by decide +kernel
theorem dX4_inverse_39 : decode cX4_inverse 39 = .ok (.iload 8, 2) := by decide +kernel
theorem dX4_inverse_41 : decode cX4_inverse 41 = .ok (.istore_n 3, 1) := by decide +kernel
theorem dX4_inverse_42 : decode cX4_inverse 42 = .ok (.iload 4, 2) := by decide +kernel
theorem dX4_inverse_44 : decode cX4_inverse 44 = .ok (.iload 7, 2) := by decide +kernel
theorem dX4_inverse_46 : decode cX4_inverse 46 = .ok (.iload 5, 2) := by decide +kernel
theorem dX4_inverse_48 : decode cX4_inverse 48 = .ok (.imul, 1) := by decide +kernel
theorem dX4_inverse_49 : decode cX4_inverse 49 = .ok (.isub, 1) := by decide +kernel
theorem dX4_inverse_50 : decode cX4_inverse 50 = .ok (.istore 9, 2) := by decide +kernel
theorem dX4_inverse_52 : decode cX4_inverse 52 = .ok (.iload 5, 2) := by decide +kernel
theorem dX4_inverse_54 : decode cX4_inverse 54 = .ok (.istore 4, 2) := by decide +kernel
theorem dX4_inverse_56 : decode cX4_inverse 56 = .ok (.iload 9, 2) := by decide +kernel
theorem dX4_inverse_58 : decode cX4_inverse 58 = .ok (.istore 5, 2) := by decide +kernel
theorem dX4_inverse_60 : decode cX4_inverse 60 = .ok (.iinc 6 1, 3) := by decide +kernel
theorem dX4_inverse_63 : decode cX4_inverse 63 = .ok (.goto (-50), 3) := by decide +kernel
theorem dX4_inverse_66 : decode cX4_inverse 66 = .ok (.iload_n 1, 1) := by decide +kernel
theorem dX4_inverse_67 : decode cX4_inverse 67 = .ok (.ifCond .le 12, 3) := by decide +kernel
theorem dX4_inverse_70 : decode cX4_inverse 70 = .ok (.iload 4, 2) := by decide +kernel
theorem dX4_inverse_72 : decode cX4_inverse 72 = .ok (.iload_n 1, 1) := by decide +kernel
theorem dX4_inverse_73 : decode cX4_inverse 73 = .ok (.invokestatic 18, 3) := by decide +kernel
theorem dX4_inverse_76 : decode cX4_inverse 76 = .ok (.goto 4, 3) := by decide +kernel
theorem dX4_inverse_79 : decode cX4_inverse 79 = .ok (.iconst 0, 1) := by decide +kernel
theorem dX4_inverse_80 : decode cX4_inverse 80 = .ok (.ireturn, 1) := by decide +kernel
theorem dX5_init_0 : decode cX5_init 0 = .ok (.aload_n 0, 1) := by decide +kernel
theorem dX5_init_1 : decode cX5_init 1 = .ok (.invokespecial 3, 3) := by decide +kernel
theorem dX5_init_4 : decode cX5_init 4 = .ok (.aload_n 0, 1) := by decide +kernel
theorem dX5_init_5 : decode cX5_init 5 = .ok (.bipush 60, 2) := by decide +kernel
theorem dX5_init_7 : decode cX5_init 7 = .ok (.newarray .char, 2) := by decide +kernel
theorem dX5_init_9 : decode cX5_init 9 = .ok (.putfield 9, 3) := by decide +kernel
theorem dX5_init_12 : decode cX5_init 12 = .ok (.aload_n 0, 1) := by decide +kernel
theorem dX5_init_13 : decode cX5_init 13 = .ok (.bipush 60, 2) := by decide +kernel
theorem dX5_init_15 : decode cX5_init 15 = .ok (.anewarray 15, 3) := by decide +kernel
theorem dX5_init_18 : decode cX5_init 18 = .ok (.putfield 17, 3) := by decide +kernel
theorem dX5_init_21 : decode cX5_init 21 = .ok (.aload_n 0, 1) := by decide +kernel
theorem dX5_init_22 : decode cX5_init 22 = .ok (.bipush 60, 2) := by decide +kernel
theorem dX5_init_24 : decode cX5_init 24 = .ok (.newarray .int, 2) := by decide +kernel
theorem dX5_init_26 : decode cX5_init 26 = .ok (.putfield 21, 3) := by decide +kernel
theorem dX5_init_29 : decode cX5_init 29 = .ok (.aload_n 0, 1) := by decide +kernel
theorem dX5_init_30 : decode cX5_init 30 = .ok (.bipush 60, 2) := by decide +kernel
theorem dX5_init_32 : decode cX5_init 32 = .ok (.newarray .int, 2) := by decide +kernel
theorem dX5_init_34 : decode cX5_init 34 = .ok (.putfield 25, 3) := by decide +kernel
theorem dX5_init_37 : decode cX5_init 37 = .ok (.aload_n 0, 1) := by decide +kernel
theorem dX5_init_38 : decode cX5_init 38 = .ok (.iconst 0, 1) := by decide +kernel
theorem dX5_init_39 : decode cX5_init 39 = .ok (.putfield 28, 3) := by decide +kernel
theorem dX5_init_42 : decode cX5_init 42 = .ok (.aload_n 0, 1) := by decide +kernel
theorem dX5_init_43 : decode cX5_init 43 = .ok (.iconst 0, 1) := by decide +kernel
theorem dX5_init_44 : decode cX5_init 44 = .ok (.putfield 32, 3) := by decide +kernel
theorem dX5_init_47 : decode cX5_init 47 = .ok (.aload_n 0, 1) := by decide +kernel
theorem dX5_init_48 : decode cX5_init 48 = .ok (.iconst 0, 1) := by decide +kernel
theorem dX5_init_49 : decode cX5_init 49 = .ok (.putfield 35, 3) := by decide +kernel
theorem dX5_init_52 : decode cX5_init 52 = .ok (.return_, 1) := by decide +kernel
theorem dX5_isFull_0 : decode cX5_isFull 0 = .ok (.aload_n 0, 1) := by decide +kernel
theorem dX5_isFull_1 : decode cX5_isFull 1 = .ok (.getfield 28, 3) := by decide +kernel
theorem dX5_isFull_4 : decode cX5_isFull 4 = .ok (.bipush 60, 2) := by decide +kernel
theorem dX5_isFull_6 : decode cX5_isFull 6 = .ok (.if_icmp .lt 7, 3) := by decide +kernel
theorem dX5_isFull_9 : decode cX5_isFull 9 = .ok (.iconst 1, 1) := by decide +kernel
theorem dX5_isFull_10 : decode cX5_isFull 10 = .ok (.goto 4, 3) := by decide +kernel
theorem dX5_isFull_13 : decode cX5_isFull 13 = .ok (.iconst 0, 1) := by decide +kernel
theorem dX5_isFull_14 : decode cX5_isFull 14 = .ok (.ireturn, 1) := by decide +kernel
theorem dX5_append_0 : decode cX5_append 0 = .ok (.aload_n 0, 1) := by decide +kernel
theorem dX5_append_1 : decode cX5_append 1 = .ok (.invokevirtual 38, 3) := by decide +kernel
theorem dX5_append_4 : decode cX5_append 4 = .ok (.ifCond .ne 23, 3) := by decide +kernel
theorem dX5_append_7 : decode cX5_append 7 = .ok (.aload_n 0, 1) := by decide +kernel
theorem dX5_append_8 : decode cX5_append 8 = .ok (.getfield 9, 3) := by decide +kernel
theorem dX5_append_11 : decode cX5_append 11 = .ok (.aload_n 0, 1) := by decide +kernel
theorem dX5_append_12 : decode cX5_append 12 = .ok (.getfield 28, 3) := by decide +kernel
theorem dX5_append_15 : decode cX5_append 15 = .ok (.iload_n 1, 1) := by decide +kernel
theorem dX5_append_16 : decode cX5_append 16 = .ok (.castore, 1) := by decide +kernel
theorem dX5_append_17 : decode cX5_append 17 = .ok (.aload_n 0, 1) := by decide +kernel
theorem dX5_append_18 : decode cX5_append 18 = .ok (.dup, 1) := by decide +kernel
theorem dX5_append_19 : decode cX5_append 19 = .ok (.getfield 28, 3) := by decide +kernel
theorem dX5_append_22 : decode cX5_append 22 = .ok (.iconst 1, 1) := by decide +kernel
theorem dX5_append_23 : decode cX5_append 23 = .ok (.iadd, 1) := by decide +kernel
theorem dX5_append_24 : decode cX5_append 24 = .ok (.putfield 28, 3) := by decide +kernel
theorem dX5_append_27 : decode cX5_append 27 = .ok (.aload_n 0, 1) := by decide +kernel
theorem dX5_append_28 : decode cX5_append 28 = .ok (.getfield 28, 3) := by decide +kernel
theorem dX5_append_31 : decode cX5_append 31 = .ok (.ireturn, 1) := by decide +kernel
theorem dX5_empty_0 : decode cX5_empty 0 = .ok (.aload_n 0, 1) := by decide +kernel
theorem dX5_empty_1 : decode cX5_empty 1 = .ok (.iconst 0, 1) := by decide +kernel
theorem dX5_empty_2 : decode cX5_empty 2 = .ok (.putfield 28, 3) := by decide +kernel
theorem dX5_empty_5 : decode cX5_empty 5 = .ok (.return_, 1) := by decide +kernel
theorem dX5_commands_0 : decode cX5_commands 0 = .ok (.aload_n 0, 1) := by decide +kernel
theorem dX5_commands_1 : decode cX5_commands 1 = .ok (.getfield 32, 3) := by decide +kernel
theorem dX5_commands_4 : decode cX5_commands 4 = .ok (.ireturn, 1) := by decide +kernel
theorem dX5_wordAt_0 : decode cX5_wordAt 0 = .ok (.iload_n 1, 1) := by decide +kernel
theorem dX5_wordAt_1 : decode cX5_wordAt 1 = .ok (.ifCond .lt 21, 3) := by decide +kernel
theorem dX5_wordAt_4 : decode cX5_wordAt 4 = .ok (.iload_n 1, 1) := by decide +kernel
theorem dX5_wordAt_5 : decode cX5_wordAt 5 = .ok (.aload_n 0, 1) := by decide +kernel
theorem dX5_wordAt_6 : decode cX5_wordAt 6 = .ok (.getfield 17, 3) := by decide +kernel
theorem dX5_wordAt_9 : decode cX5_wordAt 9 = .ok (.arraylength, 1) := by decide +kernel
theorem dX5_wordAt_10 : decode cX5_wordAt 10 = .ok (.if_icmp .ge 12, 3) := by decide +kernel
theorem dX5_wordAt_13 : decode cX5_wordAt 13 = .ok (.aload_n 0, 1) := by decide +kernel
theorem dX5_wordAt_14 : decode cX5_wordAt 14 = .ok (.getfield 17, 3) := by decide +kernel
theorem dX5_wordAt_17 : decode cX5_wordAt 17 = .ok (.iload_n 1, 1) := by decide +kernel
theorem dX5_wordAt_18 : decode cX5_wordAt 18 = .ok (.aaload, 1) := by decide +kernel
theorem dX5_wordAt_19 : decode cX5_wordAt 19 = .ok (.goto 4, 3) := by decide +kernel
theorem dX5_wordAt_22 : decode cX5_wordAt 22 = .ok (.aconst_null, 1) := by decide +kernel
theorem dX5_wordAt_23 : decode cX5_wordAt 23 = .ok (.areturn, 1) := by decide +kernel
theorem dX5_digitAt_0 : decode cX5_digitAt 0 = .ok (.iload_n 1, 1) := by decide +kernel
theorem dX5_digitAt_1 : decode cX5_digitAt 1 = .ok (.ifCond .lt 21, 3) := by decide +kernel
theorem dX5_digitAt_4 : decode cX5_digitAt 4 = .ok (.iload_n 1, 1) := by decide +kernel
theorem dX5_digitAt_5 : decode cX5_digitAt 5 = .ok (.aload_n 0, 1) := by decide +kernel
theorem dX5_digitAt_6 : decode cX5_digitAt 6 = .ok (.getfield 21, 3) := by decide +kernel
theorem dX5_digitAt_9 : decode cX5_digitAt 9 = .ok (.arraylength, 1) := by decide +kernel
theorem dX5_digitAt_10 : decode cX5_digitAt 10 = .ok (.if_icmp .ge 12, 3) := by decide +kernel
theorem dX5_digitAt_13 : decode cX5_digitAt 13 = .ok (.aload_n 0, 1) := by decide +kernel
theorem dX5_digitAt_14 : decode cX5_digitAt 14 = .ok (.getfield 21, 3) := by decide +kernel
theorem dX5_digitAt_17 : decode cX5_digitAt 17 = .ok (.iload_n 1, 1) := by decide +kernel
theorem dX5_digitAt_18 : decode cX5_digitAt 18 = .ok (.iaload, 1) := by decide +kernel
theorem dX5_digitAt_19 : decode cX5_digitAt 19 = .ok (.goto 4, 3) := by decide +kernel
theorem dX5_digitAt_22 : decode cX5_digitAt 22 = .ok (.iconst (-1), 1) := by decide +kernel
theorem dX5_digitAt_23 : decode cX5_digitAt 23 = .ok (.ireturn, 1) := by decide +kernel
theorem dX5_numberAt_0 : decode cX5_numberAt 0 = .ok (.iload_n 1, 1) := by decide +kernel
theorem dX5_numberAt_1 : decode cX5_numberAt 1 = .ok (.ifCond .lt 21, 3) := by decide +kernel
theorem dX5_numberAt_4 : decode cX5_numberAt 4 = .ok (.iload_n 1, 1) := by decide +kernel
theorem dX5_numberAt_5 : decode cX5_numberAt 5 = .ok (.aload_n 0, 1) := by decide +kernel
theorem dX5_numberAt_6 : decode cX5_numberAt 6 = .ok (.getfield 25, 3) := by decide +kernel
theorem dX5_numberAt_9 : decode cX5_numberAt 9 = .ok (.arraylength, 1) := by decide +kernel
theorem dX5_numberAt_10 : decode cX5_numberAt 10 = .ok (.if_icmp .ge 12, 3) := by decide +kernel
theorem dX5_numberAt_13 : decode cX5_numberAt 13 = .ok (.aload_n 0, 1) := by decide +kernel
theorem dX5_numberAt_14 : decode cX5_numberAt 14 = .ok (.getfield 25, 3) := by decide +kernel
theorem dX5_numberAt_17 : decode cX5_numberAt 17 = .ok (.iload_n 1, 1) := by decide +kernel
theorem dX5_numberAt_18 : decode cX5_numberAt 18 = .ok (.iaload, 1) := by decide +kernel
theorem dX5_numberAt_19 : decode cX5_numberAt 19 = .ok (.goto 4, 3) := by decide +kernel
theorem dX5_numberAt_22 : decode cX5_numberAt 22 = .ok (.iconst (-1), 1) := by decide +kernel
theorem dX5_numberAt_23 : decode cX5_numberAt 23 = .ok (.ireturn, 1) := by decide +kernel
theorem dX5_position_0 : decode cX5_position 0 = .ok (.aload_n 0, 1) := by decide +kernel
theorem dX5_position_1 : decode cX5_position 1 = .ok (.getfield 35, 3) := by decide +kernel
theorem dX5_position_4 : decode cX5_position 4 = .ok (.ireturn, 1) := by decide +kernel
theorem dX5_read_0 : decode cX5_read 0 = .ok (.aload_n 0, 1) := by decide +kernel
theorem dX5_read_1 : decode cX5_read 1 = .ok (.iconst 0, 1) := by decide +kernel
theorem dX5_read_2 : decode cX5_read 2 = .ok (.putfield 35, 3) := by decide +kernel
theorem dX5_read_5 : decode cX5_read 5 = .ok (.aload_n 0, 1) := by decide +kernel
theorem dX5_read_6 : decode cX5_read 6 = .ok (.iconst 0, 1) := by decide +kernel
theorem dX5_read_7 : decode cX5_read 7 = .ok (.putfield 32, 3) := by decide +kernel
theorem dX5_read_10 : decode cX5_read 10 = .ok (.iconst 0, 1) := by decide +kernel
theorem dX5_read_11 : decode cX5_read 11 = .ok (.istore_n 1, 1) := by decide +kernel
theorem dX5_read_12 : decode cX5_read 12 = .ok (.iload_n 1, 1) := by decide +kernel
theorem dX5_read_13 : decode cX5_read 13 = .ok (.bipush 60, 2) := by decide +kernel
theorem dX5_read_15 : decode cX5_read 15 = .ok (.if_icmp .ge 42, 3) := by decide +kernel
theorem dX5_read_18 : decode cX5_read 18 = .ok (.aload_n 0, 1) := by decide +kernel
theorem dX5_read_19 : decode cX5_read 19 = .ok (.invokevirtual 42, 3) := by decide +kernel
theorem dX5_read_22 : decode cX5_read 22 = .ok (.ifCond .ne 5, 3) := by decide +kernel
theorem dX5_read_25 : decode cX5_read 25 = .ok (.iconst 0, 1) := by decide +kernel
theorem dX5_read_26 : decode cX5_read 26 = .ok (.ireturn, 1) := by decide +kernel
theorem dX5_read_27 : decode cX5_read 27 = .ok (.aload_n 0, 1) := by decide +kernel
theorem dX5_read_28 : decode cX5_read 28 = .ok (.getfield 35, 3) := by decide +kernel
theorem dX5_read_31 : decode cX5_read 31 = .ok (.aload_n 0, 1) := by decide +kernel
theorem dX5_read_32 : decode cX5_read 32 = .ok (.getfield 28, 3) := by decide +kernel
theorem dX5_read_35 : decode cX5_read 35 = .ok (.if_icmp .ne 5, 3) := by decide +kernel
theorem dX5_read_38 : decode cX5_read 38 = .ok (.iconst 1, 1) := by decide +kernel
theorem dX5_read_39 : decode cX5_read 39 = .ok (.ireturn, 1) := by decide +kernel
theorem dX5_read_40 : decode cX5_read 40 = .ok (.aload_n 0, 1) := by decide +kernel
theorem dX5_read_41 : decode cX5_read 41 = .ok (.bipush 59, 2) := by decide +kernel
theorem dX5_read_43 : decode cX5_read 43 = .ok (.invokevirtual 45, 3) := by decide +kernel
theorem dX5_read_46 : decode cX5_read 46 = .ok (.ifCond .ne 5, 3) := by decide +kernel
theorem dX5_read_49 : decode cX5_read 49 = .ok (.iconst 0, 1) := by decide +kernel
theorem dX5_read_50 : decode cX5_read 50 = .ok (.ireturn, 1) := by decide +kernel
theorem dX5_read_51 : decode cX5_read 51 = .ok (.iinc 1 1, 3) := by decide +kernel
theorem dX5_read_54 : decode cX5_read 54 = .ok (.goto (-42), 3) := by decide +kernel
theorem dX5_read_57 : decode cX5_read 57 = .ok (.iconst 0, 1) := by decide +kernel
theorem dX5_read_58 : decode cX5_read 58 = .ok (.ireturn, 1) := by decide +kernel
theorem dX5_readCommand_0 : decode cX5_readCommand 0 = .ok (.aload_n 0, 1) := by decide +kernel
theorem dX5_readCommand_1 : decode cX5_readCommand 1 = .ok (.invokevirtual 49, 3) := by decide +kernel
theorem dX5_readCommand_4 : decode cX5_readCommand 4 = .ok (.astore_n 1, 1) := by decide +kernel
theorem dX5_readCommand_5 : decode cX5_readCommand 5 = .ok (.aload_n 1, 1) := by decide +kernel
theorem dX5_readCommand_6 : decode cX5_readCommand 6 = .ok (.ifnonnull 5, 3) := by decide +kernel
theorem dX5_readCommand_9 : decode cX5_readCommand 9 = .ok (.iconst 0, 1) := by decide +kernel
theorem dX5_readCommand_10 : decode cX5_readCommand 10 = .ok (.ireturn, 1) := by decide +kernel
theorem dX5_readCommand_11 : decode cX5_readCommand 11 = .ok (.aload_n 1, 1) := by decide +kernel
theorem dX5_readCommand_12 : decode cX5_readCommand 12 = .ok (.getfield 53, 3) := by decide +kernel
theorem dX5_readCommand_15 : decode cX5_readCommand 15 = .ok (.ifCond .eq 11, 3) := by decide +kernel
theorem dX5_readCommand_18 : decode cX5_readCommand 18 = .ok (.aload_n 0, 1) := by decide +kernel
theorem dX5_readCommand_19 : decode cX5_readCommand 19 = .ok (.iconst 1, 1) := by decide +kernel
theorem dX5_readCommand_20 : decode cX5_readCommand 20 = .ok (.invokevirtual 57, 3) := by decide +kernel
theorem dX5_readCommand_23 : decode cX5_readCommand 23 = .ok (.goto 4, 3) := by decide +kernel
theorem dX5_readCommand_26 : decode cX5_readCommand 26 = .ok (.iconst 0, 1) := by decide +kernel
theorem dX5_readCommand_27 : decode cX5_readCommand 27 = .ok (.istore_n 2, 1) := by decide +kernel
theorem dX5_readCommand_28 : decode cX5_readCommand 28 = .ok (.iload_n 2, 1) := by decide +kernel
theorem dX5_readCommand_29 : decode cX5_readCommand 29 = .ok (.iconst (-1), 1) := by decide +kernel
theorem dX5_readCommand_30 : decode cX5_readCommand 30 = .ok (.if_icmp .ne 5, 3) := by decide +kernel
theorem dX5_readCommand_33 : decode cX5_readCommand 33 = .ok (.iconst 0, 1) := by decide +kernel
theorem dX5_readCommand_34 : decode cX5_readCommand 34 = .ok (.ireturn, 1) := by decide +kernel
theorem dX5_readCommand_35 : decode cX5_readCommand 35 = .ok (.aload_n 1, 1) := by decide +kernel
theorem dX5_readCommand_36 : decode cX5_readCommand 36 = .ok (.getfield 53, 3) := by decide +kernel
theorem dX5_readCommand_39 : decode cX5_readCommand 39 = .ok (.ifCond .eq 21, 3) := by decide +kernel
theorem dX5_readCommand_42 : decode cX5_readCommand 42 = .ok (.aload_n 1, 1) := by decide +kernel
theorem dX5_readCommand_43 : decode cX5_readCommand 43 = .ok (.getfield 61, 3) := by decide +kernel
theorem dX5_readCommand_46 : decode cX5_readCommand 46 = .ok (.ifCond .eq 14, 3) := by decide +kernel
theorem dX5_readCommand_49 : decode cX5_readCommand 49 = .ok (.aload_n 0, 1) := by decide +kernel
theorem dX5_readCommand_50 : decode cX5_readCommand 50 = .ok (.bipush 32, 2) := by decide +kernel
theorem dX5_readCommand_52 : decode cX5_readCommand 52 = .ok (.invokevirtual 45, 3) := by decide +kernel
theorem dX5_readCommand_55 : decode cX5_readCommand 55 = .ok (.ifCond .ne 5, 3) := by decide +kernel
theorem dX5_readCommand_58 : decode cX5_readCommand 58 = .ok (.iconst 0, 1) := by decide +kernel
theorem dX5_readCommand_59 : decode cX5_readCommand 59 = .ok (.ireturn, 1) := by decide +kernel
theorem dX5_readCommand_60 : decode cX5_readCommand 60 = .ok (.aload_n 1, 1) := by decide +kernel
theorem dX5_readCommand_61 : decode cX5_readCommand 61 = .ok (.getfield 61, 3) := by decide +kernel
theorem dX5_readCommand_64 : decode cX5_readCommand 64 = .ok (.ifCond .eq 11, 3) := by decide +kernel
theorem dX5_readCommand_67 : decode cX5_readCommand 67 = .ok (.aload_n 0, 1) := by decide +kernel
theorem dX5_readCommand_68 : decode cX5_readCommand 68 = .ok (.iconst 3, 1) := by decide +kernel
theorem dX5_readCommand_69 : decode cX5_readCommand 69 = .ok (.invokevirtual 57, 3) := by decide +kernel
theorem dX5_readCommand_72 : decode cX5_readCommand 72 = .ok (.goto 4, 3) := by decide +kernel
theorem dX5_readCommand_75 : decode cX5_readCommand 75 = .ok (.iconst 0, 1) := by decide +kernel
theorem dX5_readCommand_76 : decode cX5_readCommand 76 = .ok (.istore_n 3, 1) := by decide +kernel
theorem dX5_readCommand_77 : decode cX5_readCommand 77 = .ok (.iload_n 3, 1) := by decide +kernel
theorem dX5_readCommand_78 : decode cX5_readCommand 78 = .ok (.iconst (-1), 1) := by decide +kernel
theorem dX5_readCommand_79 : decode cX5_readCommand 79 = .ok (.if_icmp .ne 5, 3) := by decide +kernel
theorem dX5_readCommand_82 : decode cX5_readCommand 82 = .ok (.iconst 0, 1) := by decide +kernel
theorem dX5_readCommand_83 : decode cX5_readCommand 83 = .ok (.ireturn, 1) := by decide +kernel
theorem dX5_readCommand_84 : decode cX5_readCommand 84 = .ok (.aload_n 0, 1) := by decide +kernel
theorem dX5_readCommand_85 : decode cX5_readCommand 85 = .ok (.aload_n 1, 1) := by decide +kernel
theorem dX5_readCommand_86 : decode cX5_readCommand 86 = .ok (.iload_n 2, 1) := by decide +kernel
theorem dX5_readCommand_87 : decode cX5_readCommand 87 = .ok (.iload_n 3, 1) := by decide +kernel
theorem dX5_readCommand_88 : decode cX5_readCommand 88 = .ok (.invokevirtual 64, 3) := by decide +kernel
theorem dX5_readCommand_91 : decode cX5_readCommand 91 = .ok (.iconst 1, 1) := by decide +kernel
theorem dX5_readCommand_92 : decode cX5_readCommand 92 = .ok (.ireturn, 1) := by decide +kernel
theorem dX5_keepCommand_0 : decode cX5_keepCommand 0 = .ok (.aload_n 0, 1) := by decide +kernel
theorem dX5_keepCommand_1 : decode cX5_keepCommand 1 = .ok (.getfield 32, 3) := by decide +kernel
theorem dX5_keepCommand_4 : decode cX5_keepCommand 4 = .ok (.bipush 60, 2) := by decide +kernel
theorem dX5_keepCommand_6 : decode cX5_keepCommand 6 = .ok (.if_icmp .ge 43, 3) := by decide +kernel
theorem dX5_keepCommand_9 : decode cX5_keepCommand 9 = .ok (.aload_n 0, 1) := by decide +kernel
theorem dX5_keepCommand_10 : decode cX5_keepCommand 10 = .ok (.getfield 17, 3) := by decide +kernel
theorem dX5_keepCommand_13 : decode cX5_keepCommand 13 = .ok (.aload_n 0, 1) := by decide +kernel
theorem dX5_keepCommand_14 : decode cX5_keepCommand 14 = .ok (.getfield 32, 3) := by decide +kernel
theorem dX5_keepCommand_17 : decode cX5_keepCommand 17 = .ok (.aload_n 1, 1) := by decide +kernel
theorem dX5_keepCommand_18 : decode cX5_keepCommand 18 = .ok (.aastore, 1) := by decide +kernel
theorem dX5_keepCommand_19 : decode cX5_keepCommand 19 = .ok (.aload_n 0, 1) := by decide +kernel
theorem dX5_keepCommand_20 : decode cX5_keepCommand 20 = .ok (.getfield 21, 3) := by decide +kernel
theorem dX5_keepCommand_23 : decode cX5_keepCommand 23 = .ok (.aload_n 0, 1) := by decide +kernel
theorem dX5_keepCommand_24 : decode cX5_keepCommand 24 = .ok (.getfield 32, 3) := by decide +kernel
theorem dX5_keepCommand_27 : decode cX5_keepCommand 27 = .ok (.iload_n 2, 1) := by decide +kernel
theorem dX5_keepCommand_28 : decode cX5_keepCommand 28 = .ok (.iastore, 1) := by decide +kernel
theorem dX5_keepCommand_29 : decode cX5_keepCommand 29 = .ok (.aload_n 0, 1) := by decide +kernel
theorem dX5_keepCommand_30 : decode cX5_keepCommand 30 = .ok (.getfield 25, 3) := by decide +kernel
theorem dX5_keepCommand_33 : decode cX5_keepCommand 33 = .ok (.aload_n 0, 1) := by decide +kernel
theorem dX5_keepCommand_34 : decode cX5_keepCommand 34 = .ok (.getfield 32, 3) := by decide +kernel
theorem dX5_keepCommand_37 : decode cX5_keepCommand 37 = .ok (.iload_n 3, 1) := by decide +kernel
theorem dX5_keepCommand_38 : decode cX5_keepCommand 38 = .ok (.iastore, 1) := by decide +kernel
theorem dX5_keepCommand_39 : decode cX5_keepCommand 39 = .ok (.aload_n 0, 1) := by decide +kernel
theorem dX5_keepCommand_40 : decode cX5_keepCommand 40 = .ok (.dup, 1) := by decide +kernel
theorem dX5_keepCommand_41 : decode cX5_keepCommand 41 = .ok (.getfield 32, 3) := by decide +kernel
theorem dX5_keepCommand_44 : decode cX5_keepCommand 44 = .ok (.iconst 1, 1) := by decide +kernel
theorem dX5_keepCommand_45 : decode cX5_keepCommand 45 = .ok (.iadd, 1) := by decide +kernel
theorem dX5_keepCommand_46 : decode cX5_keepCommand 46 = .ok (.putfield 32, 3) := by decide +kernel
theorem dX5_keepCommand_49 : decode cX5_keepCommand 49 = .ok (.return_, 1) := by decide +kernel
theorem dX5_readWord_0 : decode cX5_readWord 0 = .ok (.iconst 0, 1) := by decide +kernel
theorem dX5_readWord_1 : decode cX5_readWord 1 = .ok (.istore_n 1, 1) := by decide +kernel
theorem dX5_readWord_2 : decode cX5_readWord 2 = .ok (.iconst 0, 1) := by decide +kernel
theorem dX5_readWord_3 : decode cX5_readWord 3 = .ok (.istore_n 2, 1) := by decide +kernel
theorem dX5_readWord_4 : decode cX5_readWord 4 = .ok (.iload_n 2, 1) := by decide +kernel
theorem dX5_readWord_5 : decode cX5_readWord 5 = .ok (.getstatic 68, 3) := by decide +kernel
theorem dX5_readWord_8 : decode cX5_readWord 8 = .ok (.arraylength, 1) := by decide +kernel
theorem dX5_readWord_9 : decode cX5_readWord 9 = .ok (.if_icmp .ge 57, 3) := by decide +kernel
theorem dX5_readWord_12 : decode cX5_readWord 12 = .ok (.getstatic 68, 3) := by decide +kernel
theorem dX5_readWord_15 : decode cX5_readWord 15 = .ok (.iload_n 2, 1) := by decide +kernel
theorem dX5_readWord_16 : decode cX5_readWord 16 = .ok (.aaload, 1) := by decide +kernel
theorem dX5_readWord_17 : decode cX5_readWord 17 = .ok (.astore_n 3, 1) := by decide +kernel
theorem dX5_readWord_18 : decode cX5_readWord 18 = .ok (.aload_n 0, 1) := by decide +kernel
theorem dX5_readWord_19 : decode cX5_readWord 19 = .ok (.aload_n 3, 1) := by decide +kernel
theorem dX5_readWord_20 : decode cX5_readWord 20 = .ok (.getfield 71, 3) := by decide +kernel
theorem dX5_readWord_23 : decode cX5_readWord 23 = .ok (.invokevirtual 75, 3) := by decide +kernel
theorem dX5_readWord_26 : decode cX5_readWord 26 = .ok (.istore 4, 2) := by decide +kernel
theorem dX5_readWord_28 : decode cX5_readWord 28 = .ok (.iload 4, 2) := by decide +kernel
theorem dX5_readWord_30 : decode cX5_readWord 30 = .ok (.aload_n 3, 1) := by decide +kernel
theorem dX5_readWord_31 : decode cX5_readWord 31 = .ok (.getfield 71, 3) := by decide +kernel
theorem dX5_readWord_34 : decode cX5_readWord 34 = .ok (.invokevirtual 79, 3) := by decide +kernel
theorem dX5_readWord_37 : decode cX5_readWord 37 = .ok (.if_icmp .ne 16, 3) := by decide +kernel
theorem dX5_readWord_40 : decode cX5_readWord 40 = .ok (.aload_n 0, 1) := by decide +kernel
theorem dX5_readWord_41 : decode cX5_readWord 41 = .ok (.dup, 1) := by decide +kernel
theorem dX5_readWord_42 : decode cX5_readWord 42 = .ok (.getfield 35, 3) := by decide +kernel
theorem dX5_readWord_45 : decode cX5_readWord 45 = .ok (.iload 4, 2) := by decide +kernel
theorem dX5_readWord_47 : decode cX5_readWord 47 = .ok (.iadd, 1) := by decide +kernel
theorem dX5_readWord_48 : decode cX5_readWord 48 = .ok (.putfield 35, 3) := by decide +kernel
theorem dX5_readWord_51 : decode cX5_readWord 51 = .ok (.aload_n 3, 1) := by decide +kernel
theorem dX5_readWord_52 : decode cX5_readWord 52 = .ok (.areturn, 1) := by decide +kernel
theorem dX5_readWord_53 : decode cX5_readWord 53 = .ok (.iload_n 1, 1) := by decide +kernel
theorem dX5_readWord_54 : decode cX5_readWord 54 = .ok (.iload 4, 2) := by decide +kernel
theorem dX5_readWord_56 : decode cX5_readWord 56 = .ok (.invokestatic 84, 3) := by decide +kernel
theorem dX5_readWord_59 : decode cX5_readWord 59 = .ok (.istore_n 1, 1) := by decide +kernel
theorem dX5_readWord_60 : decode cX5_readWord 60 = .ok (.iinc 2 1, 3) := by decide +kernel
theorem dX5_readWord_63 : decode cX5_readWord 63 = .ok (.goto (-59), 3) := by decide +kernel
theorem dX5_readWord_66 : decode cX5_readWord 66 = .ok (.aload_n 0, 1) := by decide +kernel
theorem dX5_readWord_67 : decode cX5_readWord 67 = .ok (.dup, 1) := by decide +kernel
theorem dX5_readWord_68 : decode cX5_readWord 68 = .ok (.getfield 35, 3) := by decide +kernel
theorem dX5_readWord_71 : decode cX5_readWord 71 = .ok (.iload_n 1, 1) := by decide +kernel
theorem dX5_readWord_72 : decode cX5_readWord 72 = .ok (.iadd, 1) := by decide +kernel
theorem dX5_readWord_73 : decode cX5_readWord 73 = .ok (.putfield 35, 3) := by decide +kernel
theorem dX5_readWord_76 : decode cX5_readWord 76 = .ok (.aconst_null, 1) := by decide +kernel
theorem dX5_readWord_77 : decode cX5_readWord 77 = .ok (.areturn, 1) := by decide +kernel
theorem dX5_fittingSigns_0 : decode cX5_fittingSigns 0 = .ok (.iconst 0, 1) := by decide +kernel
theorem dX5_fittingSigns_1 : decode cX5_fittingSigns 1 = .ok (.istore_n 2, 1) := by decide +kernel
theorem dX5_fittingSigns_2 : decode cX5_fittingSigns 2 = .ok (.iload_n 2, 1) := by decide +kernel
theorem dX5_fittingSigns_3 : decode cX5_fittingSigns 3 = .ok (.aload_n 1, 1) := by decide +kernel
theorem dX5_fittingSigns_4 : decode cX5_fittingSigns 4 = .ok (.invokevirtual 79, 3) := by decide +kernel
theorem dX5_fittingSigns_7 : decode cX5_fittingSigns 7 = .ok (.if_icmp .ge 27, 3) := by decide +kernel
theorem dX5_fittingSigns_10 : decode cX5_fittingSigns 10 = .ok (.aload_n 0, 1) := by decide +kernel
theorem dX5_fittingSigns_11 : decode cX5_fittingSigns 11 = .ok (.aload_n 0, 1) := by decide +kernel
theorem dX5_fittingSigns_12 : decode cX5_fittingSigns 12 = .ok (.getfield 35, 3) := by decide +kernel
theorem dX5_fittingSigns_15 : decode cX5_fittingSigns 15 = .ok (.iload_n 2, 1) := by decide +kernel
theorem dX5_fittingSigns_16 : decode cX5_fittingSigns 16 = .ok (.iadd, 1) := by decide +kernel
theorem dX5_fittingSigns_17 : decode cX5_fittingSigns 17 = .ok (.invokevirtual 90, 3) := by decide +kernel
theorem dX5_fittingSigns_20 : decode cX5_fittingSigns 20 = .ok (.aload_n 1, 1) := by decide +kernel
theorem dX5_fittingSigns_21 : decode cX5_fittingSigns 21 = .ok (.iload_n 2, 1) := by decide +kernel
theorem dX5_fittingSigns_22 : decode cX5_fittingSigns 22 = .ok (.invokevirtual 94, 3) := by decide +kernel
theorem dX5_fittingSigns_25 : decode cX5_fittingSigns 25 = .ok (.if_icmp .ne 9, 3) := by decide +kernel
theorem dX5_fittingSigns_28 : decode cX5_fittingSigns 28 = .ok (.iinc 2 1, 3) := by decide +kernel
theorem dX5_fittingSigns_31 : decode cX5_fittingSigns 31 = .ok (.goto (-29), 3) := by decide +kernel
theorem dX5_fittingSigns_34 : decode cX5_fittingSigns 34 = .ok (.iload_n 2, 1) := by decide +kernel
theorem dX5_fittingSigns_35 : decode cX5_fittingSigns 35 = .ok (.ireturn, 1) := by decide +kernel
theorem dX5_readSign_0 : decode cX5_readSign 0 = .ok (.aload_n 0, 1) := by decide +kernel
theorem dX5_readSign_1 : decode cX5_readSign 1 = .ok (.aload_n 0, 1) := by decide +kernel
theorem dX5_readSign_2 : decode cX5_readSign 2 = .ok (.getfield 35, 3) := by decide +kernel
theorem dX5_readSign_5 : decode cX5_readSign 5 = .ok (.invokevirtual 90, 3) := by decide +kernel
theorem dX5_readSign_8 : decode cX5_readSign 8 = .ok (.iload_n 1, 1) := by decide +kernel
theorem dX5_readSign_9 : decode cX5_readSign 9 = .ok (.if_icmp .ne 7, 3) := by decide +kernel
theorem dX5_readSign_12 : decode cX5_readSign 12 = .ok (.iconst 1, 1) := by decide +kernel
theorem dX5_readSign_13 : decode cX5_readSign 13 = .ok (.goto 4, 3) := by decide +kernel
theorem dX5_readSign_16 : decode cX5_readSign 16 = .ok (.iconst 0, 1) := by decide +kernel
theorem dX5_readSign_17 : decode cX5_readSign 17 = .ok (.istore_n 2, 1) := by decide +kernel
theorem dX5_readSign_18 : decode cX5_readSign 18 = .ok (.iload_n 2, 1) := by decide +kernel
theorem dX5_readSign_19 : decode cX5_readSign 19 = .ok (.ifCond .eq 13, 3) := by decide +kernel
theorem dX5_readSign_22 : decode cX5_readSign 22 = .ok (.aload_n 0, 1) := by decide +kernel
theorem dX5_readSign_23 : decode cX5_readSign 23 = .ok (.dup, 1) := by decide +kernel
theorem dX5_readSign_24 : decode cX5_readSign 24 = .ok (.getfield 35, 3) := by decide +kernel
theorem dX5_readSign_27 : decode cX5_readSign 27 = .ok (.iconst 1, 1) := by decide +kernel
theorem dX5_readSign_28 : decode cX5_readSign 28 = .ok (.iadd, 1) := by decide +kernel
theorem dX5_readSign_29 : decode cX5_readSign 29 = .ok (.putfield 35, 3) := by decide +kernel
theorem dX5_readSign_32 : decode cX5_readSign 32 = .ok (.iload_n 2, 1) := by decide +kernel
theorem dX5_readSign_33 : decode cX5_readSign 33 = .ok (.ireturn, 1) := by decide +kernel
theorem dX5_readDigits_0 : decode cX5_readDigits 0 = .ok (.iconst (-1), 1) := by decide +kernel
theorem dX5_readDigits_1 : decode cX5_readDigits 1 = .ok (.istore_n 2, 1) := by decide +kernel
theorem dX5_readDigits_2 : decode cX5_readDigits 2 = .ok (.iconst 0, 1) := by decide +kernel
theorem dX5_readDigits_3 : decode cX5_readDigits 3 = .ok (.istore_n 3, 1) := by decide +kernel
theorem dX5_readDigits_4 : decode cX5_readDigits 4 = .ok (.iload_n 3, 1) := by decide +kernel
theorem dX5_readDigits_5 : decode cX5_readDigits 5 = .ok (.iload_n 1, 1) := by decide +kernel
theorem dX5_readDigits_6 : decode cX5_readDigits 6 = .ok (.if_icmp .ge 54, 3) := by decide +kernel
theorem dX5_readDigits_9 : decode cX5_readDigits 9 = .ok (.aload_n 0, 1) := by decide +kernel
theorem dX5_readDigits_10 : decode cX5_readDigits 10 = .ok (.aload_n 0, 1) := by decide +kernel
theorem dX5_readDigits_11 : decode cX5_readDigits 11 = .ok (.getfield 35, 3) := by decide +kernel
theorem dX5_readDigits_14 : decode cX5_readDigits 14 = .ok (.invokevirtual 90, 3) := by decide +kernel
theorem dX5_readDigits_17 : decode cX5_readDigits 17 = .ok (.invokestatic 97, 3) := by decide +kernel
theorem dX5_readDigits_20 : decode cX5_readDigits 20 = .ok (.ifCond .eq 40, 3) := by decide +kernel
theorem dX5_readDigits_23 : decode cX5_readDigits 23 = .ok (.iload_n 2, 1) := by decide +kernel
theorem dX5_readDigits_24 : decode cX5_readDigits 24 = .ok (.iconst 0, 1) := by decide +kernel
theorem dX5_readDigits_25 : decode cX5_readDigits 25 = .ok (.invokestatic 84, 3) := by decide +kernel
theorem dX5_readDigits_28 : decode cX5_readDigits 28 = .ok (.bipush 10, 2) := by decide +kernel
theorem dX5_readDigits_30 : decode cX5_readDigits 30 = .ok (.imul, 1) := by decide +kernel
theorem dX5_readDigits_31 : decode cX5_readDigits 31 = .ok (.aload_n 0, 1) := by decide +kernel
theorem dX5_readDigits_32 : decode cX5_readDigits 32 = .ok (.aload_n 0, 1) := by decide +kernel
theorem dX5_readDigits_33 : decode cX5_readDigits 33 = .ok (.getfield 35, 3) := by decide +kernel
theorem dX5_readDigits_36 : decode cX5_readDigits 36 = .ok (.invokevirtual 90, 3) := by decide +kernel
theorem dX5_readDigits_39 : decode cX5_readDigits 39 = .ok (.bipush 48, 2) := by decide +kernel
theorem dX5_readDigits_41 : decode cX5_readDigits 41 = .ok (.isub, 1) := by decide +kernel
theorem dX5_readDigits_42 : decode cX5_readDigits 42 = .ok (.iadd, 1) := by decide +kernel
theorem dX5_readDigits_43 : decode cX5_readDigits 43 = .ok (.istore_n 2, 1) := by decide +kernel
theorem dX5_readDigits_44 : decode cX5_readDigits 44 = .ok (.aload_n 0, 1) := by decide +kernel
theorem dX5_readDigits_45 : decode cX5_readDigits 45 = .ok (.dup, 1) := by decide +kernel
theorem dX5_readDigits_46 : decode cX5_readDigits 46 = .ok (.getfield 35, 3) := by decide +kernel
theorem dX5_readDigits_49 : decode cX5_readDigits 49 = .ok (.iconst 1, 1) := by decide +kernel
theorem dX5_readDigits_50 : decode cX5_readDigits 50 = .ok (.iadd, 1) := by decide +kernel
theorem dX5_readDigits_51 : decode cX5_readDigits 51 = .ok (.putfield 35, 3) := by decide +kernel
theorem dX5_readDigits_54 : decode cX5_readDigits 54 = .ok (.iinc 3 1, 3) := by decide +kernel
theorem dX5_readDigits_57 : decode cX5_readDigits 57 = .ok (.goto (-53), 3) := by decide +kernel
theorem dX5_readDigits_60 : decode cX5_readDigits 60 = .ok (.iload_n 2, 1) := by decide +kernel
theorem dX5_readDigits_61 : decode cX5_readDigits 61 = .ok (.ireturn, 1) := by decide +kernel
theorem dX5_isDigit_0 : decode cX5_isDigit 0 = .ok (.iload_n 0, 1) := by decide +kernel
theorem dX5_isDigit_1 : decode cX5_isDigit 1 = .ok (.bipush 48, 2) := by decide +kernel
theorem dX5_isDigit_3 : decode cX5_isDigit 3 = .ok (.if_icmp .lt 13, 3) := by decide +kernel
theorem dX5_isDigit_6 : decode cX5_isDigit 6 = .ok (.iload_n 0, 1) := by decide +kernel
theorem dX5_isDigit_7 : decode cX5_isDigit 7 = .ok (.bipush 57, 2) := by decide +kernel
theorem dX5_isDigit_9 : decode cX5_isDigit 9 = .ok (.if_icmp .gt 7, 3) := by decide +kernel
theorem dX5_isDigit_12 : decode cX5_isDigit 12 = .ok (.iconst 1, 1) := by decide +kernel
theorem dX5_isDigit_13 : decode cX5_isDigit 13 = .ok (.goto 4, 3) := by decide +kernel
theorem dX5_isDigit_16 : decode cX5_isDigit 16 = .ok (.iconst 0, 1) := by decide +kernel
theorem dX5_isDigit_17 : decode cX5_isDigit 17 = .ok (.ireturn, 1) := by decide +kernel
theorem dX5_signAt_0 : decode cX5_signAt 0 = .ok (.iload_n 1, 1) := by decide +kernel
theorem dX5_signAt_1 : decode cX5_signAt 1 = .ok (.ifCond .lt 26, 3) := by decide +kernel
theorem dX5_signAt_4 : decode cX5_signAt 4 = .ok (.iload_n 1, 1) := by decide +kernel
theorem dX5_signAt_5 : decode cX5_signAt 5 = .ok (.aload_n 0, 1) := by decide +kernel
theorem dX5_signAt_6 : decode cX5_signAt 6 = .ok (.getfield 28, 3) := by decide +kernel
theorem dX5_signAt_9 : decode cX5_signAt 9 = .ok (.if_icmp .ge 18, 3) := by decide +kernel
theorem dX5_signAt_12 : decode cX5_signAt 12 = .ok (.iload_n 1, 1) := by decide +kernel
theorem dX5_signAt_13 : decode cX5_signAt 13 = .ok (.bipush 60, 2) := by decide +kernel
theorem dX5_signAt_15 : decode cX5_signAt 15 = .ok (.if_icmp .ge 12, 3) := by decide +kernel
theorem dX5_signAt_18 : decode cX5_signAt 18 = .ok (.aload_n 0, 1) := by decide +kernel
theorem dX5_signAt_19 : decode cX5_signAt 19 = .ok (.getfield 9, 3) := by decide +kernel
theorem dX5_signAt_22 : decode cX5_signAt 22 = .ok (.iload_n 1, 1) := by decide +kernel
theorem dX5_signAt_23 : decode cX5_signAt 23 = .ok (.caload, 1) := by decide +kernel
theorem dX5_signAt_24 : decode cX5_signAt 24 = .ok (.goto 4, 3) := by decide +kernel
theorem dX5_signAt_27 : decode cX5_signAt 27 = .ok (.iconst 0, 1) := by decide +kernel
theorem dX5_signAt_28 : decode cX5_signAt 28 = .ok (.ireturn, 1) := by decide +kernel
theorem dX6_fewestGreatestFirst_0 : decode cX6_fewestGreatestFirst 0 = .ok (.iconst 0, 1) := by decide +kernel
theorem dX6_fewestGreatestFirst_1 : decode cX6_fewestGreatestFirst 1 = .ok (.istore_n 2, 1) := by decide +kernel
theorem dX6_fewestGreatestFirst_2 : decode cX6_fewestGreatestFirst 2 = .ok (.iconst 0, 1) := by decide +kernel
theorem dX6_fewestGreatestFirst_3 : decode cX6_fewestGreatestFirst 3 = .ok (.istore_n 3, 1) := by decide +kernel
theorem dX6_fewestGreatestFirst_4 : decode cX6_fewestGreatestFirst 4 = .ok (.iconst 1, 1) := by decide +kernel
theorem dX6_fewestGreatestFirst_5 : decode cX6_fewestGreatestFirst 5 = .ok (.istore 4, 2) := by decide +kernel
theorem dX6_fewestGreatestFirst_7 : decode cX6_fewestGreatestFirst 7 = .ok (.iload 4, 2) := by decide +kernel
theorem dX6_fewestGreatestFirst_9 : decode cX6_fewestGreatestFirst 9 = .ok (.aload_n 0, 1) := by decide +kernel
theorem dX6_fewestGreatestFirst_10 : decode cX6_fewestGreatestFirst 10 = .ok (.getfield 9, 3) := by decide +kernel
theorem dX6_fewestGreatestFirst_13 : decode cX6_fewestGreatestFirst 13 = .ok (.if_icmp .gt 40, 3) := by decide +kernel
theorem dX6_fewestGreatestFirst_16 : decode cX6_fewestGreatestFirst 16 = .ok (.aload_n 0, 1) := by decide +kernel
theorem dX6_fewestGreatestFirst_17 : decode cX6_fewestGreatestFirst 17 = .ok (.iload_n 2, 1) := by decide +kernel
theorem dX6_fewestGreatestFirst_18 : decode cX6_fewestGreatestFirst 18 = .ok (.invokestatic 15, 3) := by decide +kernel
theorem dX6_fewestGreatestFirst_21 : decode cX6_fewestGreatestFirst 21 = .ok (.istore 5, 2) := by decide +kernel
theorem dX6_fewestGreatestFirst_23 : decode cX6_fewestGreatestFirst 23 = .ok (.iload_n 2, 1) := by decide +kernel
theorem dX6_fewestGreatestFirst_24 : decode cX6_fewestGreatestFirst 24 = .ok (.iconst 1, 1) := by decide +kernel
theorem dX6_fewestGreatestFirst_25 : decode cX6_fewestGreatestFirst 25 = .ok (.iload 5, 2) := by decide +kernel
theorem dX6_fewestGreatestFirst_27 : decode cX6_fewestGreatestFirst 27 = .ok (.ishl, 1) := by decide +kernel
theorem dX6_fewestGreatestFirst_28 : decode cX6_fewestGreatestFirst 28 = .ok (.ior, 1) := by decide +kernel
theorem dX6_fewestGreatestFirst_29 : decode cX6_fewestGreatestFirst 29 = .ok (.istore_n 2, 1) := by decide +kernel
theorem dX6_fewestGreatestFirst_30 : decode cX6_fewestGreatestFirst 30 = .ok (.iload_n 3, 1) := by decide +kernel
theorem dX6_fewestGreatestFirst_31 : decode cX6_fewestGreatestFirst 31 = .ok (.aload_n 0, 1) := by decide +kernel
theorem dX6_fewestGreatestFirst_32 : decode cX6_fewestGreatestFirst 32 = .ok (.iload 5, 2) := by decide +kernel
theorem dX6_fewestGreatestFirst_34 : decode cX6_fewestGreatestFirst 34 = .ok (.invokevirtual 21, 3) := by decide +kernel
theorem dX6_fewestGreatestFirst_37 : decode cX6_fewestGreatestFirst 37 = .ok (.iadd, 1) := by decide +kernel
theorem dX6_fewestGreatestFirst_38 : decode cX6_fewestGreatestFirst 38 = .ok (.istore_n 3, 1) := by decide +kernel
theorem dX6_fewestGreatestFirst_39 : decode cX6_fewestGreatestFirst 39 = .ok (.iload_n 3, 1) := by decide +kernel
theorem dX6_fewestGreatestFirst_40 : decode cX6_fewestGreatestFirst 40 = .ok (.iload_n 1, 1) := by decide +kernel
theorem dX6_fewestGreatestFirst_41 : decode cX6_fewestGreatestFirst 41 = .ok (.if_icmp .lt 6, 3) := by decide +kernel
theorem dX6_fewestGreatestFirst_44 : decode cX6_fewestGreatestFirst 44 = .ok (.iload 4, 2) := by decide +kernel
theorem dX6_fewestGreatestFirst_46 : decode cX6_fewestGreatestFirst 46 = .ok (.ireturn, 1) := by decide +kernel
theorem dX6_fewestGreatestFirst_47 : decode cX6_fewestGreatestFirst 47 = .ok (.iinc 4 1, 3) := by decide +kernel
theorem dX6_fewestGreatestFirst_50 : decode cX6_fewestGreatestFirst 50 = .ok (.goto (-43), 3) := by decide +kernel
theorem dX6_fewestGreatestFirst_53 : decode cX6_fewestGreatestFirst 53 = .ok (.iconst (-1), 1) := by decide +kernel
theorem dX6_fewestGreatestFirst_54 : decode cX6_fewestGreatestFirst 54 = .ok (.ireturn, 1) := by decide +kernel
theorem dX6_greatestFree_0 : decode cX6_greatestFree 0 = .ok (.iconst 0, 1) := by decide +kernel
theorem dX6_greatestFree_1 : decode cX6_greatestFree 1 = .ok (.istore_n 2, 1) := by decide +kernel
theorem dX6_greatestFree_2 : decode cX6_greatestFree 2 = .ok (.iconst (-1), 1) := by decide +kernel
theorem dX6_greatestFree_3 : decode cX6_greatestFree 3 = .ok (.istore_n 3, 1) := by decide +kernel
theorem dX6_greatestFree_4 : decode cX6_greatestFree 4 = .ok (.iconst 0, 1) := by decide +kernel
theorem dX6_greatestFree_5 : decode cX6_greatestFree 5 = .ok (.istore 4, 2) := by decide +kernel
theorem dX6_greatestFree_7 : decode cX6_greatestFree 7 = .ok (.iload 4, 2) := by decide +kernel
theorem dX6_greatestFree_9 : decode cX6_greatestFree 9 = .ok (.aload_n 0, 1) := by decide +kernel
theorem dX6_greatestFree_10 : decode cX6_greatestFree 10 = .ok (.getfield 9, 3) := by decide +kernel
theorem dX6_greatestFree_13 : decode cX6_greatestFree 13 = .ok (.if_icmp .ge 50, 3) := by decide +kernel
theorem dX6_greatestFree_16 : decode cX6_greatestFree 16 = .ok (.iload_n 1, 1) := by decide +kernel
theorem dX6_greatestFree_17 : decode cX6_greatestFree 17 = .ok (.iload 4, 2) := by decide +kernel
theorem dX6_greatestFree_19 : decode cX6_greatestFree 19 = .ok (.invokestatic 25, 3) := by decide +kernel
theorem dX6_greatestFree_22 : decode cX6_greatestFree 22 = .ok (.ifCond .ne 7, 3) := by decide +kernel
theorem dX6_greatestFree_25 : decode cX6_greatestFree 25 = .ok (.iconst 1, 1) := by decide +kernel
theorem dX6_greatestFree_26 : decode cX6_greatestFree 26 = .ok (.goto 4, 3) := by decide +kernel
theorem dX6_greatestFree_29 : decode cX6_greatestFree 29 = .ok (.iconst 0, 1) := by decide +kernel
theorem dX6_greatestFree_30 : decode cX6_greatestFree 30 = .ok (.istore 5, 2) := by decide +kernel
theorem dX6_greatestFree_32 : decode cX6_greatestFree 32 = .ok (.iload 5, 2) := by decide +kernel
theorem dX6_greatestFree_34 : decode cX6_greatestFree 34 = .ok (.ifCond .eq 23, 3) := by decide +kernel
theorem dX6_greatestFree_37 : decode cX6_greatestFree 37 = .ok (.aload_n 0, 1) := by decide +kernel
theorem dX6_greatestFree_38 : decode cX6_greatestFree 38 = .ok (.iload 4, 2) := by decide +kernel
theorem dX6_greatestFree_40 : decode cX6_greatestFree 40 = .ok (.invokevirtual 21, 3) := by decide +kernel
theorem dX6_greatestFree_43 : decode cX6_greatestFree 43 = .ok (.iload_n 3, 1) := by decide +kernel
theorem dX6_greatestFree_44 : decode cX6_greatestFree 44 = .ok (.if_icmp .le 13, 3) := by decide +kernel
theorem dX6_greatestFree_47 : decode cX6_greatestFree 47 = .ok (.iload 4, 2) := by decide +kernel
theorem dX6_greatestFree_49 : decode cX6_greatestFree 49 = .ok (.istore_n 2, 1) := by decide +kernel
theorem dX6_greatestFree_50 : decode cX6_greatestFree 50 = .ok (.aload_n 0, 1) := by decide +kernel
theorem dX6_greatestFree_51 : decode cX6_greatestFree 51 = .ok (.iload 4, 2) := by decide +kernel
theorem dX6_greatestFree_53 : decode cX6_greatestFree 53 = .ok (.invokevirtual 21, 3) := by decide +kernel
theorem dX6_greatestFree_56 : decode cX6_greatestFree 56 = .ok (.istore_n 3, 1) := by decide +kernel
theorem dX6_greatestFree_57 : decode cX6_greatestFree 57 = .ok (.iinc 4 1, 3) := by decide +kernel
theorem dX6_greatestFree_60 : decode cX6_greatestFree 60 = .ok (.goto (-53), 3) := by decide +kernel
theorem dX6_greatestFree_63 : decode cX6_greatestFree 63 = .ok (.iload_n 2, 1) := by decide +kernel
theorem dX6_greatestFree_64 : decode cX6_greatestFree 64 = .ok (.ireturn, 1) := by decide +kernel
theorem dX6_fewestOfAllSets_0 : decode cX6_fewestOfAllSets 0 = .ok (.iconst (-1), 1) := by decide +kernel
theorem dX6_fewestOfAllSets_1 : decode cX6_fewestOfAllSets 1 = .ok (.istore_n 2, 1) := by decide +kernel
theorem dX6_fewestOfAllSets_2 : decode cX6_fewestOfAllSets 2 = .ok (.iconst 0, 1) := by decide +kernel
theorem dX6_fewestOfAllSets_3 : decode cX6_fewestOfAllSets 3 = .ok (.istore_n 3, 1) := by decide +kernel
theorem dX6_fewestOfAllSets_4 : decode cX6_fewestOfAllSets 4 = .ok (.iload_n 3, 1) := by decide +kernel
theorem dX6_fewestOfAllSets_5 : decode cX6_fewestOfAllSets 5 = .ok (.iconst 1, 1) := by decide +kernel
theorem dX6_fewestOfAllSets_6 : decode cX6_fewestOfAllSets 6 = .ok (.aload_n 0, 1) := by decide +kernel
theorem dX6_fewestOfAllSets_7 : decode cX6_fewestOfAllSets 7 = .ok (.getfield 9, 3) := by decide +kernel
theorem dX6_fewestOfAllSets_10 : decode cX6_fewestOfAllSets 10 = .ok (.ishl, 1) := by decide +kernel
theorem dX6_fewestOfAllSets_11 : decode cX6_fewestOfAllSets 11 = .ok (.if_icmp .ge 38, 3) := by decide +kernel
theorem dX6_fewestOfAllSets_14 : decode cX6_fewestOfAllSets 14 = .ok (.iload_n 3, 1) := by decide +kernel
theorem dX6_fewestOfAllSets_15 : decode cX6_fewestOfAllSets 15 = .ok (.invokestatic 29, 3) := by decide +kernel
theorem dX6_fewestOfAllSets_18 : decode cX6_fewestOfAllSets 18 = .ok (.istore 4, 2) := by decide +kernel
theorem dX6_fewestOfAllSets_20 : decode cX6_fewestOfAllSets 20 = .ok (.aload_n 0, 1) := by decide +kernel
theorem dX6_fewestOfAllSets_21 : decode cX6_fewestOfAllSets 21 = .ok (.iload_n 3, 1) := by decide +kernel
theorem dX6_fewestOfAllSets_22 : decode cX6_fewestOfAllSets 22 = .ok (.invokestatic 34, 3) := by decide +kernel
theorem dX6_fewestOfAllSets_25 : decode cX6_fewestOfAllSets 25 = .ok (.iload_n 1, 1) := by decide +kernel
theorem dX6_fewestOfAllSets_26 : decode cX6_fewestOfAllSets 26 = .ok (.if_icmp .lt 17, 3) := by decide +kernel
theorem dX6_fewestOfAllSets_29 : decode cX6_fewestOfAllSets 29 = .ok (.iload_n 2, 1) := by decide +kernel
theorem dX6_fewestOfAllSets_30 : decode cX6_fewestOfAllSets 30 = .ok (.iconst (-1), 1) := by decide +kernel
theorem dX6_fewestOfAllSets_31 : decode cX6_fewestOfAllSets 31 = .ok (.if_icmp .eq 9, 3) := by decide +kernel
theorem dX6_fewestOfAllSets_34 : decode cX6_fewestOfAllSets 34 = .ok (.iload 4, 2) := by decide +kernel
theorem dX6_fewestOfAllSets_36 : decode cX6_fewestOfAllSets 36 = .ok (.iload_n 2, 1) := by decide +kernel
theorem dX6_fewestOfAllSets_37 : decode cX6_fewestOfAllSets 37 = .ok (.if_icmp .ge 6, 3) := by decide +kernel
theorem dX6_fewestOfAllSets_40 : decode cX6_fewestOfAllSets 40 = .ok (.iload 4, 2) := by decide +kernel
theorem dX6_fewestOfAllSets_42 : decode cX6_fewestOfAllSets 42 = .ok (.istore_n 2, 1) := by decide +kernel
theorem dX6_fewestOfAllSets_43 : decode cX6_fewestOfAllSets 43 = .ok (.iinc 3 1, 3) := by decide +kernel
theorem dX6_fewestOfAllSets_46 : decode cX6_fewestOfAllSets 46 = .ok (.goto (-42), 3) := by decide +kernel
theorem dX6_fewestOfAllSets_49 : decode cX6_fewestOfAllSets 49 = .ok (.iload_n 2, 1) := by decide +kernel
theorem dX6_fewestOfAllSets_50 : decode cX6_fewestOfAllSets 50 = .ok (.ireturn, 1) := by decide +kernel
theorem dX6_setsWithExactly_0 : decode cX6_setsWithExactly 0 = .ok (.iconst 0, 1) := by decide +kernel
theorem dX6_setsWithExactly_1 : decode cX6_setsWithExactly 1 = .ok (.istore_n 2, 1) := by decide +kernel
theorem dX6_setsWithExactly_2 : decode cX6_setsWithExactly 2 = .ok (.iconst 0, 1) := by decide +kernel
theorem dX6_setsWithExactly_3 : decode cX6_setsWithExactly 3 = .ok (.istore_n 3, 1) := by decide +kernel
theorem dX6_setsWithExactly_4 : decode cX6_setsWithExactly 4 = .ok (.iload_n 3, 1) := by decide +kernel
theorem dX6_setsWithExactly_5 : decode cX6_setsWithExactly 5 = .ok (.iconst 1, 1) := by decide +kernel
theorem dX6_setsWithExactly_6 : decode cX6_setsWithExactly 6 = .ok (.aload_n 0, 1) := by decide +kernel
theorem dX6_setsWithExactly_7 : decode cX6_setsWithExactly 7 = .ok (.getfield 9, 3) := by decide +kernel
theorem dX6_setsWithExactly_10 : decode cX6_setsWithExactly 10 = .ok (.ishl, 1) := by decide +kernel
theorem dX6_setsWithExactly_11 : decode cX6_setsWithExactly 11 = .ok (.if_icmp .ge 21, 3) := by decide +kernel
theorem dX6_setsWithExactly_14 : decode cX6_setsWithExactly 14 = .ok (.aload_n 0, 1) := by decide +kernel
theorem dX6_setsWithExactly_15 : decode cX6_setsWithExactly 15 = .ok (.iload_n 3, 1) := by decide +kernel
theorem dX6_setsWithExactly_16 : decode cX6_setsWithExactly 16 = .ok (.invokestatic 34, 3) := by decide +kernel
theorem dX6_setsWithExactly_19 : decode cX6_setsWithExactly 19 = .ok (.iload_n 1, 1) := by decide +kernel
theorem dX6_setsWithExactly_20 : decode cX6_setsWithExactly 20 = .ok (.if_icmp .ne 6, 3) := by decide +kernel
theorem dX6_setsWithExactly_23 : decode cX6_setsWithExactly 23 = .ok (.iinc 2 1, 3) := by decide +kernel
theorem dX6_setsWithExactly_26 : decode cX6_setsWithExactly 26 = .ok (.iinc 3 1, 3) := by decide +kernel
theorem dX6_setsWithExactly_29 : decode cX6_setsWithExactly 29 = .ok (.goto (-25), 3) := by decide +kernel
theorem dX6_setsWithExactly_32 : decode cX6_setsWithExactly 32 = .ok (.iload_n 2, 1) := by decide +kernel
theorem dX6_setsWithExactly_33 : decode cX6_setsWithExactly 33 = .ok (.ireturn, 1) := by decide +kernel
theorem dX6_contains_0 : decode cX6_contains 0 = .ok (.iload_n 0, 1) := by decide +kernel
theorem dX6_contains_1 : decode cX6_contains 1 = .ok (.iconst 1, 1) := by decide +kernel
theorem dX6_contains_2 : decode cX6_contains 2 = .ok (.iload_n 1, 1) := by decide +kernel
theorem dX6_contains_3 : decode cX6_contains 3 = .ok (.ishl, 1) := by decide +kernel
theorem dX6_contains_4 : decode cX6_contains 4 = .ok (.iand, 1) := by decide +kernel
theorem dX6_contains_5 : decode cX6_contains 5 = .ok (.ifCond .eq 7, 3) := by decide +kernel
theorem dX6_contains_8 : decode cX6_contains 8 = .ok (.iconst 1, 1) := by decide +kernel
theorem dX6_contains_9 : decode cX6_contains 9 = .ok (.goto 4, 3) := by decide +kernel
theorem dX6_contains_12 : decode cX6_contains 12 = .ok (.iconst 0, 1) := by decide +kernel
theorem dX6_contains_13 : decode cX6_contains 13 = .ok (.ireturn, 1) := by decide +kernel
theorem dX6_sumOf_0 : decode cX6_sumOf 0 = .ok (.iconst 0, 1) := by decide +kernel
theorem dX6_sumOf_1 : decode cX6_sumOf 1 = .ok (.istore_n 2, 1) := by decide +kernel
theorem dX6_sumOf_2 : decode cX6_sumOf 2 = .ok (.iconst 0, 1) := by decide +kernel
theorem dX6_sumOf_3 : decode cX6_sumOf 3 = .ok (.istore_n 3, 1) := by decide +kernel
theorem dX6_sumOf_4 : decode cX6_sumOf 4 = .ok (.iload_n 3, 1) := by decide +kernel
theorem dX6_sumOf_5 : decode cX6_sumOf 5 = .ok (.aload_n 0, 1) := by decide +kernel
theorem dX6_sumOf_6 : decode cX6_sumOf 6 = .ok (.getfield 9, 3) := by decide +kernel
theorem dX6_sumOf_9 : decode cX6_sumOf 9 = .ok (.if_icmp .ge 25, 3) := by decide +kernel
theorem dX6_sumOf_12 : decode cX6_sumOf 12 = .ok (.iload_n 1, 1) := by decide +kernel
theorem dX6_sumOf_13 : decode cX6_sumOf 13 = .ok (.iload_n 3, 1) := by decide +kernel
theorem dX6_sumOf_14 : decode cX6_sumOf 14 = .ok (.invokestatic 25, 3) := by decide +kernel
theorem dX6_sumOf_17 : decode cX6_sumOf 17 = .ok (.ifCond .eq 11, 3) := by decide +kernel
theorem dX6_sumOf_20 : decode cX6_sumOf 20 = .ok (.iload_n 2, 1) := by decide +kernel
theorem dX6_sumOf_21 : decode cX6_sumOf 21 = .ok (.aload_n 0, 1) := by decide +kernel
theorem dX6_sumOf_22 : decode cX6_sumOf 22 = .ok (.iload_n 3, 1) := by decide +kernel
theorem dX6_sumOf_23 : decode cX6_sumOf 23 = .ok (.invokevirtual 21, 3) := by decide +kernel
theorem dX6_sumOf_26 : decode cX6_sumOf 26 = .ok (.iadd, 1) := by decide +kernel
theorem dX6_sumOf_27 : decode cX6_sumOf 27 = .ok (.istore_n 2, 1) := by decide +kernel
theorem dX6_sumOf_28 : decode cX6_sumOf 28 = .ok (.iinc 3 1, 3) := by decide +kernel
theorem dX6_sumOf_31 : decode cX6_sumOf 31 = .ok (.goto (-27), 3) := by decide +kernel
theorem dX6_sumOf_34 : decode cX6_sumOf 34 = .ok (.iload_n 2, 1) := by decide +kernel
theorem dX6_sumOf_35 : decode cX6_sumOf 35 = .ok (.ireturn, 1) := by decide +kernel
theorem dX7_init_0 : decode cX7_init 0 = .ok (.aload_n 0, 1) := by decide +kernel
theorem dX7_init_1 : decode cX7_init 1 = .ok (.invokespecial 3, 3) := by decide +kernel
theorem dX7_init_4 : decode cX7_init 4 = .ok (.aload_n 0, 1) := by decide +kernel
theorem dX7_init_5 : decode cX7_init 5 = .ok (.sipush 256, 3) := by decide +kernel
theorem dX7_init_8 : decode cX7_init 8 = .ok (.newarray .int, 2) := by decide +kernel
theorem dX7_init_10 : decode cX7_init 10 = .ok (.putfield 9, 3) := by decide +kernel
theorem dX7_init_13 : decode cX7_init 13 = .ok (.return_, 1) := by decide +kernel
theorem dX7_leastCost_0 : decode cX7_leastCost 0 = .ok (.aload_n 0, 1) := by decide +kernel
theorem dX7_leastCost_1 : decode cX7_leastCost 1 = .ok (.aload_n 1, 1) := by decide +kernel
theorem dX7_leastCost_2 : decode cX7_leastCost 2 = .ok (.invokevirtual 15, 3) := by decide +kernel
theorem dX7_leastCost_5 : decode cX7_leastCost 5 = .ok (.aload_n 0, 1) := by decide +kernel
theorem dX7_leastCost_6 : decode cX7_leastCost 6 = .ok (.iconst 0, 1) := by decide +kernel
theorem dX7_leastCost_7 : decode cX7_leastCost 7 = .ok (.invokevirtual 19, 3) := by decide +kernel
theorem dX7_leastCost_10 : decode cX7_leastCost 10 = .ok (.ireturn, 1) := by decide +kernel
theorem dX7_runner_0 : decode cX7_runner 0 = .ok (.aload_n 0, 1) := by decide +kernel
theorem dX7_runner_1 : decode cX7_runner 1 = .ok (.aload_n 1, 1) := by decide +kernel
theorem dX7_runner_2 : decode cX7_runner 2 = .ok (.invokevirtual 15, 3) := by decide +kernel
theorem dX7_runner_5 : decode cX7_runner 5 = .ok (.iconst 0, 1) := by decide +kernel
theorem dX7_runner_6 : decode cX7_runner 6 = .ok (.istore_n 3, 1) := by decide +kernel
theorem dX7_runner_7 : decode cX7_runner 7 = .ok (.iconst 0, 1) := by decide +kernel
theorem dX7_runner_8 : decode cX7_runner 8 = .ok (.istore 4, 2) := by decide +kernel
theorem dX7_runner_10 : decode cX7_runner 10 = .ok (.iload 4, 2) := by decide +kernel
theorem dX7_runner_12 : decode cX7_runner 12 = .ok (.iload_n 2, 1) := by decide +kernel
theorem dX7_runner_13 : decode cX7_runner 13 = .ok (.if_icmp .ge 22, 3) := by decide +kernel
theorem dX7_runner_16 : decode cX7_runner 16 = .ok (.iload_n 3, 1) := by decide +kernel
theorem dX7_runner_17 : decode cX7_runner 17 = .ok (.iconst 1, 1) := by decide +kernel
theorem dX7_runner_18 : decode cX7_runner 18 = .ok (.aload_n 0, 1) := by decide +kernel
theorem dX7_runner_19 : decode cX7_runner 19 = .ok (.aload_n 1, 1) := by decide +kernel
theorem dX7_runner_20 : decode cX7_runner 20 = .ok (.iload 4, 2) := by decide +kernel
theorem dX7_runner_22 : decode cX7_runner 22 = .ok (.iload_n 3, 1) := by decide +kernel
theorem dX7_runner_23 : decode cX7_runner 23 = .ok (.invokevirtual 23, 3) := by decide +kernel
theorem dX7_runner_26 : decode cX7_runner 26 = .ok (.ishl, 1) := by decide +kernel
theorem dX7_runner_27 : decode cX7_runner 27 = .ok (.ior, 1) := by decide +kernel
theorem dX7_runner_28 : decode cX7_runner 28 = .ok (.istore_n 3, 1) := by decide +kernel
theorem dX7_runner_29 : decode cX7_runner 29 = .ok (.iinc 4 1, 3) := by decide +kernel
theorem dX7_runner_32 : decode cX7_runner 32 = .ok (.goto (-22), 3) := by decide +kernel
theorem dX7_runner_35 : decode cX7_runner 35 = .ok (.aload_n 0, 1) := by decide +kernel
theorem dX7_runner_36 : decode cX7_runner 36 = .ok (.aload_n 1, 1) := by decide +kernel
theorem dX7_runner_37 : decode cX7_runner 37 = .ok (.iload_n 2, 1) := by decide +kernel
theorem dX7_runner_38 : decode cX7_runner 38 = .ok (.iload_n 3, 1) := by decide +kernel
theorem dX7_runner_39 : decode cX7_runner 39 = .ok (.invokevirtual 23, 3) := by decide +kernel
theorem dX7_runner_42 : decode cX7_runner 42 = .ok (.ireturn, 1) := by decide +kernel
theorem dX7_fillSets_0 : decode cX7_fillSets 0 = .ok (.sipush 255, 3) := by decide +kernel
theorem dX7_fillSets_3 : decode cX7_fillSets 3 = .ok (.istore_n 2, 1) := by decide +kernel
theorem dX7_fillSets_4 : decode cX7_fillSets 4 = .ok (.iload_n 2, 1) := by decide +kernel
theorem dX7_fillSets_5 : decode cX7_fillSets 5 = .ok (.ifCond .lt 46, 3) := by decide +kernel
theorem dX7_fillSets_8 : decode cX7_fillSets 8 = .ok (.iload_n 2, 1) := by decide +kernel
theorem dX7_fillSets_9 : decode cX7_fillSets 9 = .ok (.invokestatic 27, 3) := by decide +kernel
theorem dX7_fillSets_12 : decode cX7_fillSets 12 = .ok (.istore_n 3, 1) := by decide +kernel
theorem dX7_fillSets_13 : decode cX7_fillSets 13 = .ok (.aload_n 0, 1) := by decide +kernel
theorem dX7_fillSets_14 : decode cX7_fillSets 14 = .ok (.getfield 9, 3) := by decide +kernel
theorem dX7_fillSets_17 : decode cX7_fillSets 17 = .ok (.iload_n 2, 1) := by decide +kernel
theorem dX7_fillSets_18 : decode cX7_fillSets 18 = .ok (.iload_n 3, 1) := by decide +kernel
theorem dX7_fillSets_19 : decode cX7_fillSets 19 = .ok (.aload_n 1, 1) := by decide +kernel
theorem dX7_fillSets_20 : decode cX7_fillSets 20 = .ok (.getfield 32, 3) := by decide +kernel
theorem dX7_fillSets_23 : decode cX7_fillSets 23 = .ok (.if_icmp .lt 7, 3) := by decide +kernel
theorem dX7_fillSets_26 : decode cX7_fillSets 26 = .ok (.iconst 0, 1) := by decide +kernel
theorem dX7_fillSets_27 : decode cX7_fillSets 27 = .ok (.goto 17, 3) := by decide +kernel
theorem dX7_fillSets_30 : decode cX7_fillSets 30 = .ok (.aload_n 0, 1) := by decide +kernel
theorem dX7_fillSets_31 : decode cX7_fillSets 31 = .ok (.aload_n 1, 1) := by decide +kernel
theorem dX7_fillSets_32 : decode cX7_fillSets 32 = .ok (.iload_n 3, 1) := by decide +kernel
theorem dX7_fillSets_33 : decode cX7_fillSets 33 = .ok (.iload_n 2, 1) := by decide +kernel
theorem dX7_fillSets_34 : decode cX7_fillSets 34 = .ok (.aload_n 0, 1) := by decide +kernel
theorem dX7_fillSets_35 : decode cX7_fillSets 35 = .ok (.aload_n 1, 1) := by decide +kernel
theorem dX7_fillSets_36 : decode cX7_fillSets 36 = .ok (.iload_n 3, 1) := by decide +kernel
theorem dX7_fillSets_37 : decode cX7_fillSets 37 = .ok (.iload_n 2, 1) := by decide +kernel
theorem dX7_fillSets_38 : decode cX7_fillSets 38 = .ok (.invokevirtual 23, 3) := by decide +kernel
theorem dX7_fillSets_41 : decode cX7_fillSets 41 = .ok (.invokevirtual 38, 3) := by decide +kernel
theorem dX7_fillSets_44 : decode cX7_fillSets 44 = .ok (.iastore, 1) := by decide +kernel
theorem dX7_fillSets_45 : decode cX7_fillSets 45 = .ok (.iinc 2 (-1), 3) := by decide +kernel
theorem dX7_fillSets_48 : decode cX7_fillSets 48 = .ok (.goto (-44), 3) := by decide +kernel
theorem dX7_fillSets_51 : decode cX7_fillSets 51 = .ok (.return_, 1) := by decide +kernel
theorem dX7_cheapest_0 : decode cX7_cheapest 0 = .ok (.iconst 0, 1) := by decide +kernel
theorem dX7_cheapest_1 : decode cX7_cheapest 1 = .ok (.istore 4, 2) := by decide +kernel
theorem dX7_cheapest_3 : decode cX7_cheapest 3 = .ok (.ldc 42, 2) := by decide +kernel
theorem dX7_cheapest_5 : decode cX7_cheapest 5 = .ok (.istore 5, 2) := by decide +kernel
theorem dX7_cheapest_7 : decode cX7_cheapest 7 = .ok (.iconst 0, 1) := by decide +kernel
theorem dX7_cheapest_8 : decode cX7_cheapest 8 = .ok (.istore 6, 2) := by decide +kernel
theorem dX7_cheapest_10 : decode cX7_cheapest 10 = .ok (.iload 6, 2) := by decide +kernel
theorem dX7_cheapest_12 : decode cX7_cheapest 12 = .ok (.aload_n 1, 1) := by decide +kernel
theorem dX7_cheapest_13 : decode cX7_cheapest 13 = .ok (.getfield 43, 3) := by decide +kernel
theorem dX7_cheapest_16 : decode cX7_cheapest 16 = .ok (.if_icmp .ge 35, 3) := by decide +kernel
theorem dX7_cheapest_19 : decode cX7_cheapest 19 = .ok (.aload_n 0, 1) := by decide +kernel
theorem dX7_cheapest_20 : decode cX7_cheapest 20 = .ok (.aload_n 1, 1) := by decide +kernel
theorem dX7_cheapest_21 : decode cX7_cheapest 21 = .ok (.iload_n 2, 1) := by decide +kernel
theorem dX7_cheapest_22 : decode cX7_cheapest 22 = .ok (.iload_n 3, 1) := by decide +kernel
theorem dX7_cheapest_23 : decode cX7_cheapest 23 = .ok (.iload 6, 2) := by decide +kernel
theorem dX7_cheapest_25 : decode cX7_cheapest 25 = .ok (.invokevirtual 38, 3) := by decide +kernel
theorem dX7_cheapest_28 : decode cX7_cheapest 28 = .ok (.istore 7, 2) := by decide +kernel
theorem dX7_cheapest_30 : decode cX7_cheapest 30 = .ok (.iload 7, 2) := by decide +kernel
theorem dX7_cheapest_32 : decode cX7_cheapest 32 = .ok (.iload 5, 2) := by decide +kernel
theorem dX7_cheapest_34 : decode cX7_cheapest 34 = .ok (.if_icmp .ge 11, 3) := by decide +kernel
theorem dX7_cheapest_37 : decode cX7_cheapest 37 = .ok (.iload 6, 2) := by decide +kernel
theorem dX7_cheapest_39 : decode cX7_cheapest 39 = .ok (.istore 4, 2) := by decide +kernel
theorem dX7_cheapest_41 : decode cX7_cheapest 41 = .ok (.iload 7, 2) := by decide +kernel
theorem dX7_cheapest_43 : decode cX7_cheapest 43 = .ok (.istore 5, 2) := by decide +kernel
theorem dX7_cheapest_45 : decode cX7_cheapest 45 = .ok (.iinc 6 1, 3) := by decide +kernel
theorem dX7_cheapest_48 : decode cX7_cheapest 48 = .ok (.goto (-38), 3) := by decide +kernel
theorem dX7_cheapest_51 : decode cX7_cheapest 51 = .ok (.iload 4, 2) := by decide +kernel
theorem dX7_cheapest_53 : decode cX7_cheapest 53 = .ok (.ireturn, 1) := by decide +kernel
theorem dX7_costWith_0 : decode cX7_costWith 0 = .ok (.iconst 1, 1) := by decide +kernel
theorem dX7_costWith_1 : decode cX7_costWith 1 = .ok (.iload 4, 2) := by decide +kernel
theorem dX7_costWith_3 : decode cX7_costWith 3 = .ok (.ishl, 1) := by decide +kernel
theorem dX7_costWith_4 : decode cX7_costWith 4 = .ok (.istore 5, 2) := by decide +kernel
theorem dX7_costWith_6 : decode cX7_costWith 6 = .ok (.iload_n 3, 1) := by decide +kernel
theorem dX7_costWith_7 : decode cX7_costWith 7 = .ok (.iload 5, 2) := by decide +kernel
theorem dX7_costWith_9 : decode cX7_costWith 9 = .ok (.iand, 1) := by decide +kernel
theorem dX7_costWith_10 : decode cX7_costWith 10 = .ok (.ifCond .eq 8, 3) := by decide +kernel
theorem dX7_costWith_13 : decode cX7_costWith 13 = .ok (.ldc 42, 2) := by decide +kernel
theorem dX7_costWith_15 : decode cX7_costWith 15 = .ok (.goto 19, 3) := by decide +kernel
theorem dX7_costWith_18 : decode cX7_costWith 18 = .ok (.aload_n 1, 1) := by decide +kernel
theorem dX7_costWith_19 : decode cX7_costWith 19 = .ok (.iload 4, 2) := by decide +kernel
theorem dX7_costWith_21 : decode cX7_costWith 21 = .ok (.iload_n 2, 1) := by decide +kernel
theorem dX7_costWith_22 : decode cX7_costWith 22 = .ok (.invokevirtual 46, 3) := by decide +kernel
theorem dX7_costWith_25 : decode cX7_costWith 25 = .ok (.aload_n 0, 1) := by decide +kernel
theorem dX7_costWith_26 : decode cX7_costWith 26 = .ok (.iload_n 3, 1) := by decide +kernel
theorem dX7_costWith_27 : decode cX7_costWith 27 = .ok (.iload 5, 2) := by decide +kernel
theorem dX7_costWith_29 : decode cX7_costWith 29 = .ok (.ior, 1) := by decide +kernel
theorem dX7_costWith_30 : decode cX7_costWith 30 = .ok (.invokevirtual 19, 3) := by decide +kernel
theorem dX7_costWith_33 : decode cX7_costWith 33 = .ok (.iadd, 1) := by decide +kernel
theorem dX7_costWith_34 : decode cX7_costWith 34 = .ok (.ireturn, 1) := by decide +kernel
theorem dX7_behind_0 : decode cX7_behind 0 = .ok (.iload_n 1, 1) := by decide +kernel
theorem dX7_behind_1 : decode cX7_behind 1 = .ok (.ifCond .lt 21, 3) := by decide +kernel
theorem dX7_behind_4 : decode cX7_behind 4 = .ok (.iload_n 1, 1) := by decide +kernel
theorem dX7_behind_5 : decode cX7_behind 5 = .ok (.aload_n 0, 1) := by decide +kernel
theorem dX7_behind_6 : decode cX7_behind 6 = .ok (.getfield 9, 3) := by decide +kernel
theorem dX7_behind_9 : decode cX7_behind 9 = .ok (.arraylength, 1) := by decide +kernel
theorem dX7_behind_10 : decode cX7_behind 10 = .ok (.if_icmp .ge 12, 3) := by decide +kernel
theorem dX7_behind_13 : decode cX7_behind 13 = .ok (.aload_n 0, 1) := by decide +kernel
theorem dX7_behind_14 : decode cX7_behind 14 = .ok (.getfield 9, 3) := by decide +kernel
theorem dX7_behind_17 : decode cX7_behind 17 = .ok (.iload_n 1, 1) := by decide +kernel
theorem dX7_behind_18 : decode cX7_behind 18 = .ok (.iaload, 1) := by decide +kernel
theorem dX7_behind_19 : decode cX7_behind 19 = .ok (.goto 5, 3) := by decide +kernel
theorem dX7_behind_22 : decode cX7_behind 22 = .ok (.ldc 42, 2) := by decide +kernel
theorem dX7_behind_24 : decode cX7_behind 24 = .ok (.ireturn, 1) := by decide +kernel
theorem dX8_init_0 : decode cX8_init 0 = .ok (.aload_n 0, 1) := by decide +kernel
theorem dX8_init_1 : decode cX8_init 1 = .ok (.invokespecial 3, 3) := by decide +kernel
theorem dX8_init_4 : decode cX8_init 4 = .ok (.aload_n 0, 1) := by decide +kernel
theorem dX8_init_5 : decode cX8_init 5 = .ok (.bipush 8, 2) := by decide +kernel
theorem dX8_init_7 : decode cX8_init 7 = .ok (.newarray .int, 2) := by decide +kernel
theorem dX8_init_9 : decode cX8_init 9 = .ok (.putfield 9, 3) := by decide +kernel
theorem dX8_init_12 : decode cX8_init 12 = .ok (.aload_n 0, 1) := by decide +kernel
theorem dX8_init_13 : decode cX8_init 13 = .ok (.bipush 8, 2) := by decide +kernel
theorem dX8_init_15 : decode cX8_init 15 = .ok (.newarray .int, 2) := by decide +kernel
theorem dX8_init_17 : decode cX8_init 17 = .ok (.putfield 15, 3) := by decide +kernel
theorem dX8_init_20 : decode cX8_init 20 = .ok (.aload_n 0, 1) := by decide +kernel
theorem dX8_init_21 : decode cX8_init 21 = .ok (.bipush 8, 2) := by decide +kernel
theorem dX8_init_23 : decode cX8_init 23 = .ok (.newarray .int, 2) := by decide +kernel
theorem dX8_init_25 : decode cX8_init 25 = .ok (.putfield 18, 3) := by decide +kernel
theorem dX8_init_28 : decode cX8_init 28 = .ok (.aload_n 0, 1) := by decide +kernel
theorem dX8_init_29 : decode cX8_init 29 = .ok (.bipush 8, 2) := by decide +kernel
theorem dX8_init_31 : decode cX8_init 31 = .ok (.newarray .int, 2) := by decide +kernel
theorem dX8_init_33 : decode cX8_init 33 = .ok (.putfield 21, 3) := by decide +kernel
theorem dX8_init_36 : decode cX8_init 36 = .ok (.aload_n 0, 1) := by decide +kernel
theorem dX8_init_37 : decode cX8_init 37 = .ok (.bipush 8, 2) := by decide +kernel
theorem dX8_init_39 : decode cX8_init 39 = .ok (.newarray .int, 2) := by decide +kernel
theorem dX8_init_41 : decode cX8_init 41 = .ok (.putfield 24, 3) := by decide +kernel
theorem dX8_init_44 : decode cX8_init 44 = .ok (.aload_n 0, 1) := by decide +kernel
theorem dX8_init_45 : decode cX8_init 45 = .ok (.iconst 3, 1) := by decide +kernel
theorem dX8_init_46 : decode cX8_init 46 = .ok (.newarray .int, 2) := by decide +kernel
theorem dX8_init_48 : decode cX8_init 48 = .ok (.putfield 27, 3) := by decide +kernel
theorem dX8_init_51 : decode cX8_init 51 = .ok (.aload_n 0, 1) := by decide +kernel
theorem dX8_init_52 : decode cX8_init 52 = .ok (.iconst 3, 1) := by decide +kernel
theorem dX8_init_53 : decode cX8_init 53 = .ok (.newarray .int, 2) := by decide +kernel
theorem dX8_init_55 : decode cX8_init 55 = .ok (.putfield 30, 3) := by decide +kernel
theorem dX8_init_58 : decode cX8_init 58 = .ok (.aload_n 0, 1) := by decide +kernel
theorem dX8_init_59 : decode cX8_init 59 = .ok (.bipush 6, 2) := by decide +kernel
theorem dX8_init_61 : decode cX8_init 61 = .ok (.newarray .int, 2) := by decide +kernel
theorem dX8_init_63 : decode cX8_init 63 = .ok (.putfield 33, 3) := by decide +kernel
theorem dX8_init_66 : decode cX8_init 66 = .ok (.aload_n 0, 1) := by decide +kernel
theorem dX8_init_67 : decode cX8_init 67 = .ok (.iconst 0, 1) := by decide +kernel
theorem dX8_init_68 : decode cX8_init 68 = .ok (.putfield 36, 3) := by decide +kernel
theorem dX8_init_71 : decode cX8_init 71 = .ok (.aload_n 0, 1) := by decide +kernel
theorem dX8_init_72 : decode cX8_init 72 = .ok (.iconst 0, 1) := by decide +kernel
theorem dX8_init_73 : decode cX8_init 73 = .ok (.putfield 40, 3) := by decide +kernel
theorem dX8_init_76 : decode cX8_init 76 = .ok (.aload_n 0, 1) := by decide +kernel
theorem dX8_init_77 : decode cX8_init 77 = .ok (.iconst 0, 1) := by decide +kernel
theorem dX8_init_78 : decode cX8_init 78 = .ok (.putfield 43, 3) := by decide +kernel
theorem dX8_init_81 : decode cX8_init 81 = .ok (.aload_n 0, 1) := by decide +kernel
theorem dX8_init_82 : decode cX8_init 82 = .ok (.iconst 5, 1) := by decide +kernel
theorem dX8_init_83 : decode cX8_init 83 = .ok (.putfield 46, 3) := by decide +kernel
theorem dX8_init_86 : decode cX8_init 86 = .ok (.return_, 1) := by decide +kernel
theorem dX8_copyFrom_0 : decode cX8_copyFrom 0 = .ok (.aload_n 1, 1) := by decide +kernel
theorem dX8_copyFrom_1 : decode cX8_copyFrom 1 = .ok (.getfield 9, 3) := by decide +kernel
theorem dX8_copyFrom_4 : decode cX8_copyFrom 4 = .ok (.iconst 0, 1) := by decide +kernel
theorem dX8_copyFrom_5 : decode cX8_copyFrom 5 = .ok (.aload_n 0, 1) := by decide +kernel
theorem dX8_copyFrom_6 : decode cX8_copyFrom 6 = .ok (.getfield 9, 3) := by decide +kernel
theorem dX8_copyFrom_9 : decode cX8_copyFrom 9 = .ok (.iconst 0, 1) := by decide +kernel
theorem dX8_copyFrom_10 : decode cX8_copyFrom 10 = .ok (.bipush 8, 2) := by decide +kernel
theorem dX8_copyFrom_12 : decode cX8_copyFrom 12 = .ok (.invokestatic 49, 3) := by decide +kernel
theorem dX8_copyFrom_15 : decode cX8_copyFrom 15 = .ok (.aload_n 1, 1) := by decide +kernel
theorem dX8_copyFrom_16 : decode cX8_copyFrom 16 = .ok (.getfield 15, 3) := by decide +kernel
theorem dX8_copyFrom_19 : decode cX8_copyFrom 19 = .ok (.iconst 0, 1) := by decide +kernel
theorem dX8_copyFrom_20 : decode cX8_copyFrom 20 = .ok (.aload_n 0, 1) := by decide +kernel
theorem dX8_copyFrom_21 : decode cX8_copyFrom 21 = .ok (.getfield 15, 3) := by decide +kernel
theorem dX8_copyFrom_24 : decode cX8_copyFrom 24 = .ok (.iconst 0, 1) := by decide +kernel
theorem dX8_copyFrom_25 : decode cX8_copyFrom 25 = .ok (.bipush 8, 2) := by decide +kernel
theorem dX8_copyFrom_27 : decode cX8_copyFrom 27 = .ok (.invokestatic 49, 3) := by decide +kernel
theorem dX8_copyFrom_30 : decode cX8_copyFrom 30 = .ok (.aload_n 1, 1) := by decide +kernel
theorem dX8_copyFrom_31 : decode cX8_copyFrom 31 = .ok (.getfield 18, 3) := by decide +kernel
theorem dX8_copyFrom_34 : decode cX8_copyFrom 34 = .ok (.iconst 0, 1) := by decide +kernel
theorem dX8_copyFrom_35 : decode cX8_copyFrom 35 = .ok (.aload_n 0, 1) := by decide +kernel
theorem dX8_copyFrom_36 : decode cX8_copyFrom 36 = .ok (.getfield 18, 3) := by decide +kernel
theorem dX8_copyFrom_39 : decode cX8_copyFrom 39 = .ok (.iconst 0, 1) := by decide +kernel
theorem dX8_copyFrom_40 : decode cX8_copyFrom 40 = .ok (.bipush 8, 2) := by decide +kernel
theorem dX8_copyFrom_42 : decode cX8_copyFrom 42 = .ok (.invokestatic 49, 3) := by decide +kernel
theorem dX8_copyFrom_45 : decode cX8_copyFrom 45 = .ok (.aload_n 1, 1) := by decide +kernel
theorem dX8_copyFrom_46 : decode cX8_copyFrom 46 = .ok (.getfield 21, 3) := by decide +kernel
theorem dX8_copyFrom_49 : decode cX8_copyFrom 49 = .ok (.iconst 0, 1) := by decide +kernel
theorem dX8_copyFrom_50 : decode cX8_copyFrom 50 = .ok (.aload_n 0, 1) := by decide +kernel
theorem dX8_copyFrom_51 : decode cX8_copyFrom 51 = .ok (.getfield 21, 3) := by decide +kernel
theorem dX8_copyFrom_54 : decode cX8_copyFrom 54 = .ok (.iconst 0, 1) := by decide +kernel
theorem dX8_copyFrom_55 : decode cX8_copyFrom 55 = .ok (.bipush 8, 2) := by decide +kernel
theorem dX8_copyFrom_57 : decode cX8_copyFrom 57 = .ok (.invokestatic 49, 3) := by decide +kernel
theorem dX8_copyFrom_60 : decode cX8_copyFrom 60 = .ok (.aload_n 1, 1) := by decide +kernel
theorem dX8_copyFrom_61 : decode cX8_copyFrom 61 = .ok (.getfield 24, 3) := by decide +kernel
theorem dX8_copyFrom_64 : decode cX8_copyFrom 64 = .ok (.iconst 0, 1) := by decide +kernel
theorem dX8_copyFrom_65 : decode cX8_copyFrom 65 = .ok (.aload_n 0, 1) := by decide +kernel
theorem dX8_copyFrom_66 : decode cX8_copyFrom 66 = .ok (.getfield 24, 3) := by decide +kernel
theorem dX8_copyFrom_69 : decode cX8_copyFrom 69 = .ok (.iconst 0, 1) := by decide +kernel
theorem dX8_copyFrom_70 : decode cX8_copyFrom 70 = .ok (.bipush 8, 2) := by decide +kernel
theorem dX8_copyFrom_72 : decode cX8_copyFrom 72 = .ok (.invokestatic 49, 3) := by decide +kernel
theorem dX8_copyFrom_75 : decode cX8_copyFrom 75 = .ok (.aload_n 1, 1) := by decide +kernel
theorem dX8_copyFrom_76 : decode cX8_copyFrom 76 = .ok (.getfield 27, 3) := by decide +kernel
theorem dX8_copyFrom_79 : decode cX8_copyFrom 79 = .ok (.iconst 0, 1) := by decide +kernel
theorem dX8_copyFrom_80 : decode cX8_copyFrom 80 = .ok (.aload_n 0, 1) := by decide +kernel
theorem dX8_copyFrom_81 : decode cX8_copyFrom 81 = .ok (.getfield 27, 3) := by decide +kernel
theorem dX8_copyFrom_84 : decode cX8_copyFrom 84 = .ok (.iconst 0, 1) := by decide +kernel
theorem dX8_copyFrom_85 : decode cX8_copyFrom 85 = .ok (.iconst 3, 1) := by decide +kernel
theorem dX8_copyFrom_86 : decode cX8_copyFrom 86 = .ok (.invokestatic 49, 3) := by decide +kernel
theorem dX8_copyFrom_89 : decode cX8_copyFrom 89 = .ok (.aload_n 1, 1) := by decide +kernel
theorem dX8_copyFrom_90 : decode cX8_copyFrom 90 = .ok (.getfield 30, 3) := by decide +kernel
theorem dX8_copyFrom_93 : decode cX8_copyFrom 93 = .ok (.iconst 0, 1) := by decide +kernel
theorem dX8_copyFrom_94 : decode cX8_copyFrom 94 = .ok (.aload_n 0, 1) := by decide +kernel
theorem dX8_copyFrom_95 : decode cX8_copyFrom 95 = .ok (.getfield 30, 3) := by decide +kernel
theorem dX8_copyFrom_98 : decode cX8_copyFrom 98 = .ok (.iconst 0, 1) := by decide +kernel
theorem dX8_copyFrom_99 : decode cX8_copyFrom 99 = .ok (.iconst 3, 1) := by decide +kernel
theorem dX8_copyFrom_100 : decode cX8_copyFrom 100 = .ok (.invokestatic 49, 3) := by decide +kernel
theorem dX8_copyFrom_103 : decode cX8_copyFrom 103 = .ok (.aload_n 1, 1) := by decide +kernel
theorem dX8_copyFrom_104 : decode cX8_copyFrom 104 = .ok (.getfield 33, 3) := by decide +kernel
theorem dX8_copyFrom_107 : decode cX8_copyFrom 107 = .ok (.iconst 0, 1) := by decide +kernel
theorem dX8_copyFrom_108 : decode cX8_copyFrom 108 = .ok (.aload_n 0, 1) := by decide +kernel
theorem dX8_copyFrom_109 : decode cX8_copyFrom 109 = .ok (.getfield 33, 3) := by decide +kernel
theorem dX8_copyFrom_112 : decode cX8_copyFrom 112 = .ok (.iconst 0, 1) := by decide +kernel
theorem dX8_copyFrom_113 : decode cX8_copyFrom 113 = .ok (.bipush 6, 2) := by decide +kernel
theorem dX8_copyFrom_115 : decode cX8_copyFrom 115 = .ok (.invokestatic 49, 3) := by decide +kernel
theorem dX8_copyFrom_118 : decode cX8_copyFrom 118 = .ok (.aload_n 0, 1) := by decide +kernel
theorem dX8_copyFrom_119 : decode cX8_copyFrom 119 = .ok (.aload_n 1, 1) := by decide +kernel
theorem dX8_copyFrom_120 : decode cX8_copyFrom 120 = .ok (.getfield 36, 3) := by decide +kernel
theorem dX8_copyFrom_123 : decode cX8_copyFrom 123 = .ok (.putfield 36, 3) := by decide +kernel
theorem dX8_copyFrom_126 : decode cX8_copyFrom 126 = .ok (.aload_n 0, 1) := by decide +kernel
theorem dX8_copyFrom_127 : decode cX8_copyFrom 127 = .ok (.aload_n 1, 1) := by decide +kernel
theorem dX8_copyFrom_128 : decode cX8_copyFrom 128 = .ok (.getfield 40, 3) := by decide +kernel
theorem dX8_copyFrom_131 : decode cX8_copyFrom 131 = .ok (.putfield 40, 3) := by decide +kernel
theorem dX8_copyFrom_134 : decode cX8_copyFrom 134 = .ok (.aload_n 0, 1) := by decide +kernel
theorem dX8_copyFrom_135 : decode cX8_copyFrom 135 = .ok (.aload_n 1, 1) := by decide +kernel
theorem dX8_copyFrom_136 : decode cX8_copyFrom 136 = .ok (.getfield 43, 3) := by decide +kernel
theorem dX8_copyFrom_139 : decode cX8_copyFrom 139 = .ok (.putfield 43, 3) := by decide +kernel
theorem dX8_copyFrom_142 : decode cX8_copyFrom 142 = .ok (.aload_n 0, 1) := by decide +kernel
theorem dX8_copyFrom_143 : decode cX8_copyFrom 143 = .ok (.aload_n 1, 1) := by decide +kernel
theorem dX8_copyFrom_144 : decode cX8_copyFrom 144 = .ok (.getfield 46, 3) := by decide +kernel
theorem dX8_copyFrom_147 : decode cX8_copyFrom 147 = .ok (.putfield 46, 3) := by decide +kernel
theorem dX8_copyFrom_150 : decode cX8_copyFrom 150 = .ok (.return_, 1) := by decide +kernel
theorem dX8_hasPendulum_0 : decode cX8_hasPendulum 0 = .ok (.iload_n 1, 1) := by decide +kernel
theorem dX8_hasPendulum_1 : decode cX8_hasPendulum 1 = .ok (.ifCond .lt 21, 3) := by decide +kernel
theorem dX8_hasPendulum_4 : decode cX8_hasPendulum 4 = .ok (.iload_n 1, 1) := by decide +kernel
theorem dX8_hasPendulum_5 : decode cX8_hasPendulum 5 = .ok (.aload_n 0, 1) := by decide +kernel
theorem dX8_hasPendulum_6 : decode cX8_hasPendulum 6 = .ok (.getfield 36, 3) := by decide +kernel
theorem dX8_hasPendulum_9 : decode cX8_hasPendulum 9 = .ok (.if_icmp .ge 13, 3) := by decide +kernel
theorem dX8_hasPendulum_12 : decode cX8_hasPendulum 12 = .ok (.iload_n 1, 1) := by decide +kernel
theorem dX8_hasPendulum_13 : decode cX8_hasPendulum 13 = .ok (.bipush 8, 2) := by decide +kernel
theorem dX8_hasPendulum_15 : decode cX8_hasPendulum 15 = .ok (.if_icmp .ge 7, 3) := by decide +kernel
theorem dX8_hasPendulum_18 : decode cX8_hasPendulum 18 = .ok (.iconst 1, 1) := by decide +kernel
theorem dX8_hasPendulum_19 : decode cX8_hasPendulum 19 = .ok (.goto 4, 3) := by decide +kernel
theorem dX8_hasPendulum_22 : decode cX8_hasPendulum 22 = .ok (.iconst 0, 1) := by decide +kernel
theorem dX8_hasPendulum_23 : decode cX8_hasPendulum 23 = .ok (.ireturn, 1) := by decide +kernel
theorem dX8_hasLeg_0 : decode cX8_hasLeg 0 = .ok (.iload_n 1, 1) := by decide +kernel
theorem dX8_hasLeg_1 : decode cX8_hasLeg 1 = .ok (.ifCond .lt 21, 3) := by decide +kernel
theorem dX8_hasLeg_4 : decode cX8_hasLeg 4 = .ok (.iload_n 1, 1) := by decide +kernel
theorem dX8_hasLeg_5 : decode cX8_hasLeg 5 = .ok (.aload_n 0, 1) := by decide +kernel
theorem dX8_hasLeg_6 : decode cX8_hasLeg 6 = .ok (.getfield 40, 3) := by decide +kernel
theorem dX8_hasLeg_9 : decode cX8_hasLeg 9 = .ok (.if_icmp .ge 13, 3) := by decide +kernel
theorem dX8_hasLeg_12 : decode cX8_hasLeg 12 = .ok (.iload_n 1, 1) := by decide +kernel
theorem dX8_hasLeg_13 : decode cX8_hasLeg 13 = .ok (.bipush 6, 2) := by decide +kernel
theorem dX8_hasLeg_15 : decode cX8_hasLeg 15 = .ok (.if_icmp .ge 7, 3) := by decide +kernel
theorem dX8_hasLeg_18 : decode cX8_hasLeg 18 = .ok (.iconst 1, 1) := by decide +kernel
theorem dX8_hasLeg_19 : decode cX8_hasLeg 19 = .ok (.goto 4, 3) := by decide +kernel
theorem dX8_hasLeg_22 : decode cX8_hasLeg 22 = .ok (.iconst 0, 1) := by decide +kernel
theorem dX8_hasLeg_23 : decode cX8_hasLeg 23 = .ok (.ireturn, 1) := by decide +kernel
theorem dX8_isSwinging_0 : decode cX8_isSwinging 0 = .ok (.aload_n 0, 1) := by decide +kernel
theorem dX8_isSwinging_1 : decode cX8_isSwinging 1 = .ok (.iload_n 1, 1) := by decide +kernel
theorem dX8_isSwinging_2 : decode cX8_isSwinging 2 = .ok (.invokevirtual 55, 3) := by decide +kernel
theorem dX8_isSwinging_5 : decode cX8_isSwinging 5 = .ok (.ifCond .eq 16, 3) := by decide +kernel
theorem dX8_isSwinging_8 : decode cX8_isSwinging 8 = .ok (.aload_n 0, 1) := by decide +kernel
theorem dX8_isSwinging_9 : decode cX8_isSwinging 9 = .ok (.getfield 18, 3) := by decide +kernel
theorem dX8_isSwinging_12 : decode cX8_isSwinging 12 = .ok (.iload_n 1, 1) := by decide +kernel
theorem dX8_isSwinging_13 : decode cX8_isSwinging 13 = .ok (.iaload, 1) := by decide +kernel
theorem dX8_isSwinging_14 : decode cX8_isSwinging 14 = .ok (.ifCond .le 7, 3) := by decide +kernel
theorem dX8_isSwinging_17 : decode cX8_isSwinging 17 = .ok (.iconst 1, 1) := by decide +kernel
theorem dX8_isSwinging_18 : decode cX8_isSwinging 18 = .ok (.goto 4, 3) := by decide +kernel
theorem dX8_isSwinging_21 : decode cX8_isSwinging 21 = .ok (.iconst 0, 1) := by decide +kernel
theorem dX8_isSwinging_22 : decode cX8_isSwinging 22 = .ok (.ireturn, 1) := by decide +kernel
theorem dX8_lengthAt_0 : decode cX8_lengthAt 0 = .ok (.aload_n 0, 1) := by decide +kernel
theorem dX8_lengthAt_1 : decode cX8_lengthAt 1 = .ok (.iload_n 1, 1) := by decide +kernel
theorem dX8_lengthAt_2 : decode cX8_lengthAt 2 = .ok (.invokevirtual 55, 3) := by decide +kernel
theorem dX8_lengthAt_5 : decode cX8_lengthAt 5 = .ok (.ifCond .eq 12, 3) := by decide +kernel
theorem dX8_lengthAt_8 : decode cX8_lengthAt 8 = .ok (.aload_n 0, 1) := by decide +kernel
theorem dX8_lengthAt_9 : decode cX8_lengthAt 9 = .ok (.getfield 9, 3) := by decide +kernel
theorem dX8_lengthAt_12 : decode cX8_lengthAt 12 = .ok (.iload_n 1, 1) := by decide +kernel
theorem dX8_lengthAt_13 : decode cX8_lengthAt 13 = .ok (.iaload, 1) := by decide +kernel
theorem dX8_lengthAt_14 : decode cX8_lengthAt 14 = .ok (.goto 4, 3) := by decide +kernel
theorem dX8_lengthAt_17 : decode cX8_lengthAt 17 = .ok (.iconst 0, 1) := by decide +kernel
theorem dX8_lengthAt_18 : decode cX8_lengthAt 18 = .ok (.ireturn, 1) := by decide +kernel
theorem dX8_periodAt_0 : decode cX8_periodAt 0 = .ok (.aload_n 0, 1) := by decide +kernel
theorem dX8_periodAt_1 : decode cX8_periodAt 1 = .ok (.iload_n 1, 1) := by decide +kernel
theorem dX8_periodAt_2 : decode cX8_periodAt 2 = .ok (.invokevirtual 55, 3) := by decide +kernel
theorem dX8_periodAt_5 : decode cX8_periodAt 5 = .ok (.ifCond .eq 12, 3) := by decide +kernel
theorem dX8_periodAt_8 : decode cX8_periodAt 8 = .ok (.aload_n 0, 1) := by decide +kernel
theorem dX8_periodAt_9 : decode cX8_periodAt 9 = .ok (.getfield 15, 3) := by decide +kernel
theorem dX8_periodAt_12 : decode cX8_periodAt 12 = .ok (.iload_n 1, 1) := by decide +kernel
theorem dX8_periodAt_13 : decode cX8_periodAt 13 = .ok (.iaload, 1) := by decide +kernel
theorem dX8_periodAt_14 : decode cX8_periodAt 14 = .ok (.goto 4, 3) := by decide +kernel
theorem dX8_periodAt_17 : decode cX8_periodAt 17 = .ok (.iconst 0, 1) := by decide +kernel
theorem dX8_periodAt_18 : decode cX8_periodAt 18 = .ok (.ireturn, 1) := by decide +kernel
theorem dX8_amplitudeAt_0 : decode cX8_amplitudeAt 0 = .ok (.aload_n 0, 1) := by decide +kernel
theorem dX8_amplitudeAt_1 : decode cX8_amplitudeAt 1 = .ok (.iload_n 1, 1) := by decide +kernel
theorem dX8_amplitudeAt_2 : decode cX8_amplitudeAt 2 = .ok (.invokevirtual 55, 3) := by decide +kernel
theorem dX8_amplitudeAt_5 : decode cX8_amplitudeAt 5 = .ok (.ifCond .eq 12, 3) := by decide +kernel
theorem dX8_amplitudeAt_8 : decode cX8_amplitudeAt 8 = .ok (.aload_n 0, 1) := by decide +kernel
theorem dX8_amplitudeAt_9 : decode cX8_amplitudeAt 9 = .ok (.getfield 18, 3) := by decide +kernel
theorem dX8_amplitudeAt_12 : decode cX8_amplitudeAt 12 = .ok (.iload_n 1, 1) := by decide +kernel
theorem dX8_amplitudeAt_13 : decode cX8_amplitudeAt 13 = .ok (.iaload, 1) := by decide +kernel
theorem dX8_amplitudeAt_14 : decode cX8_amplitudeAt 14 = .ok (.goto 4, 3) := by decide +kernel
theorem dX8_amplitudeAt_17 : decode cX8_amplitudeAt 17 = .ok (.iconst 0, 1) := by decide +kernel
theorem dX8_amplitudeAt_18 : decode cX8_amplitudeAt 18 = .ok (.ireturn, 1) := by decide +kernel
theorem dX8_startAt_0 : decode cX8_startAt 0 = .ok (.aload_n 0, 1) := by decide +kernel
theorem dX8_startAt_1 : decode cX8_startAt 1 = .ok (.iload_n 1, 1) := by decide +kernel
theorem dX8_startAt_2 : decode cX8_startAt 2 = .ok (.invokevirtual 55, 3) := by decide +kernel
theorem dX8_startAt_5 : decode cX8_startAt 5 = .ok (.ifCond .eq 12, 3) := by decide +kernel
theorem dX8_startAt_8 : decode cX8_startAt 8 = .ok (.aload_n 0, 1) := by decide +kernel
theorem dX8_startAt_9 : decode cX8_startAt 9 = .ok (.getfield 21, 3) := by decide +kernel
theorem dX8_startAt_12 : decode cX8_startAt 12 = .ok (.iload_n 1, 1) := by decide +kernel
theorem dX8_startAt_13 : decode cX8_startAt 13 = .ok (.iaload, 1) := by decide +kernel
theorem dX8_startAt_14 : decode cX8_startAt 14 = .ok (.goto 4, 3) := by decide +kernel
theorem dX8_startAt_17 : decode cX8_startAt 17 = .ok (.iconst 0, 1) := by decide +kernel
theorem dX8_startAt_18 : decode cX8_startAt 18 = .ok (.ireturn, 1) := by decide +kernel
theorem dX8_swingsAt_0 : decode cX8_swingsAt 0 = .ok (.aload_n 0, 1) := by decide +kernel
theorem dX8_swingsAt_1 : decode cX8_swingsAt 1 = .ok (.iload_n 1, 1) := by decide +kernel
theorem dX8_swingsAt_2 : decode cX8_swingsAt 2 = .ok (.invokevirtual 55, 3) := by decide +kernel
theorem dX8_swingsAt_5 : decode cX8_swingsAt 5 = .ok (.ifCond .eq 12, 3) := by decide +kernel
theorem dX8_swingsAt_8 : decode cX8_swingsAt 8 = .ok (.aload_n 0, 1) := by decide +kernel
theorem dX8_swingsAt_9 : decode cX8_swingsAt 9 = .ok (.getfield 24, 3) := by decide +kernel
theorem dX8_swingsAt_12 : decode cX8_swingsAt 12 = .ok (.iload_n 1, 1) := by decide +kernel
theorem dX8_swingsAt_13 : decode cX8_swingsAt 13 = .ok (.iaload, 1) := by decide +kernel
theorem dX8_swingsAt_14 : decode cX8_swingsAt 14 = .ok (.goto 4, 3) := by decide +kernel
theorem dX8_swingsAt_17 : decode cX8_swingsAt 17 = .ok (.iconst 0, 1) := by decide +kernel
theorem dX8_swingsAt_18 : decode cX8_swingsAt 18 = .ok (.ireturn, 1) := by decide +kernel
theorem dX8_wishAt_0 : decode cX8_wishAt 0 = .ok (.aload_n 0, 1) := by decide +kernel
theorem dX8_wishAt_1 : decode cX8_wishAt 1 = .ok (.iload_n 1, 1) := by decide +kernel
theorem dX8_wishAt_2 : decode cX8_wishAt 2 = .ok (.invokevirtual 59, 3) := by decide +kernel
theorem dX8_wishAt_5 : decode cX8_wishAt 5 = .ok (.ifCond .eq 12, 3) := by decide +kernel
theorem dX8_wishAt_8 : decode cX8_wishAt 8 = .ok (.aload_n 0, 1) := by decide +kernel
theorem dX8_wishAt_9 : decode cX8_wishAt 9 = .ok (.getfield 33, 3) := by decide +kernel
theorem dX8_wishAt_12 : decode cX8_wishAt 12 = .ok (.iload_n 1, 1) := by decide +kernel
theorem dX8_wishAt_13 : decode cX8_wishAt 13 = .ok (.iaload, 1) := by decide +kernel
theorem dX8_wishAt_14 : decode cX8_wishAt 14 = .ok (.goto 4, 3) := by decide +kernel
theorem dX8_wishAt_17 : decode cX8_wishAt 17 = .ok (.iconst 0, 1) := by decide +kernel
theorem dX8_wishAt_18 : decode cX8_wishAt 18 = .ok (.ireturn, 1) := by decide +kernel
theorem dX8_recordAt_0 : decode cX8_recordAt 0 = .ok (.iload_n 1, 1) := by decide +kernel
theorem dX8_recordAt_1 : decode cX8_recordAt 1 = .ok (.invokestatic 62, 3) := by decide +kernel
theorem dX8_recordAt_4 : decode cX8_recordAt 4 = .ok (.ifCond .eq 12, 3) := by decide +kernel
theorem dX8_recordAt_7 : decode cX8_recordAt 7 = .ok (.aload_n 0, 1) := by decide +kernel
theorem dX8_recordAt_8 : decode cX8_recordAt 8 = .ok (.getfield 27, 3) := by decide +kernel
theorem dX8_recordAt_11 : decode cX8_recordAt 11 = .ok (.iload_n 1, 1) := by decide +kernel
theorem dX8_recordAt_12 : decode cX8_recordAt 12 = .ok (.iaload, 1) := by decide +kernel
theorem dX8_recordAt_13 : decode cX8_recordAt 13 = .ok (.goto 4, 3) := by decide +kernel
theorem dX8_recordAt_16 : decode cX8_recordAt 16 = .ok (.iconst 0, 1) := by decide +kernel
theorem dX8_recordAt_17 : decode cX8_recordAt 17 = .ok (.ireturn, 1) := by decide +kernel
theorem dX8_holderAt_0 : decode cX8_holderAt 0 = .ok (.iload_n 1, 1) := by decide +kernel
theorem dX8_holderAt_1 : decode cX8_holderAt 1 = .ok (.invokestatic 62, 3) := by decide +kernel
theorem dX8_holderAt_4 : decode cX8_holderAt 4 = .ok (.ifCond .eq 21, 3) := by decide +kernel
theorem dX8_holderAt_7 : decode cX8_holderAt 7 = .ok (.aload_n 0, 1) := by decide +kernel
theorem dX8_holderAt_8 : decode cX8_holderAt 8 = .ok (.getfield 27, 3) := by decide +kernel
theorem dX8_holderAt_11 : decode cX8_holderAt 11 = .ok (.iload_n 1, 1) := by decide +kernel
theorem dX8_holderAt_12 : decode cX8_holderAt 12 = .ok (.iaload, 1) := by decide +kernel
theorem dX8_holderAt_13 : decode cX8_holderAt 13 = .ok (.ifCond .le 12, 3) := by decide +kernel
theorem dX8_holderAt_16 : decode cX8_holderAt 16 = .ok (.aload_n 0, 1) := by decide +kernel
theorem dX8_holderAt_17 : decode cX8_holderAt 17 = .ok (.getfield 30, 3) := by decide +kernel
theorem dX8_holderAt_20 : decode cX8_holderAt 20 = .ok (.iload_n 1, 1) := by decide +kernel
theorem dX8_holderAt_21 : decode cX8_holderAt 21 = .ok (.iaload, 1) := by decide +kernel
theorem dX8_holderAt_22 : decode cX8_holderAt 22 = .ok (.goto 4, 3) := by decide +kernel
theorem dX8_holderAt_25 : decode cX8_holderAt 25 = .ok (.iconst (-1), 1) := by decide +kernel
theorem dX8_holderAt_26 : decode cX8_holderAt 26 = .ok (.ireturn, 1) := by decide +kernel
theorem dX8_isKind_0 : decode cX8_isKind 0 = .ok (.iload_n 0, 1) := by decide +kernel
theorem dX8_isKind_1 : decode cX8_isKind 1 = .ok (.ifCond .lt 12, 3) := by decide +kernel
theorem dX8_isKind_4 : decode cX8_isKind 4 = .ok (.iload_n 0, 1) := by decide +kernel
theorem dX8_isKind_5 : decode cX8_isKind 5 = .ok (.iconst 3, 1) := by decide +kernel
theorem dX8_isKind_6 : decode cX8_isKind 6 = .ok (.if_icmp .ge 7, 3) := by decide +kernel
theorem dX8_isKind_9 : decode cX8_isKind 9 = .ok (.iconst 1, 1) := by decide +kernel
theorem dX8_isKind_10 : decode cX8_isKind 10 = .ok (.goto 4, 3) := by decide +kernel
theorem dX8_isKind_13 : decode cX8_isKind 13 = .ok (.iconst 0, 1) := by decide +kernel
theorem dX8_isKind_14 : decode cX8_isKind 14 = .ok (.ireturn, 1) := by decide +kernel
theorem dX8_refusalToHang_0 : decode cX8_refusalToHang 0 = .ok (.iload_n 1, 1) := by decide +kernel
theorem dX8_refusalToHang_1 : decode cX8_refusalToHang 1 = .ok (.iconst 1, 1) := by decide +kernel
theorem dX8_refusalToHang_2 : decode cX8_refusalToHang 2 = .ok (.if_icmp .lt 9, 3) := by decide +kernel
theorem dX8_refusalToHang_5 : decode cX8_refusalToHang 5 = .ok (.iload_n 1, 1) := by decide +kernel
theorem dX8_refusalToHang_6 : decode cX8_refusalToHang 6 = .ok (.bipush 99, 2) := by decide +kernel
theorem dX8_refusalToHang_8 : decode cX8_refusalToHang 8 = .ok (.if_icmp .le 5, 3) := by decide +kernel
theorem dX8_refusalToHang_11 : decode cX8_refusalToHang 11 = .ok (.iconst 2, 1) := by decide +kernel
theorem dX8_refusalToHang_12 : decode cX8_refusalToHang 12 = .ok (.ireturn, 1) := by decide +kernel
theorem dX8_refusalToHang_13 : decode cX8_refusalToHang 13 = .ok (.aload_n 0, 1) := by decide +kernel
theorem dX8_refusalToHang_14 : decode cX8_refusalToHang 14 = .ok (.getfield 36, 3) := by decide +kernel
theorem dX8_refusalToHang_17 : decode cX8_refusalToHang 17 = .ok (.bipush 8, 2) := by decide +kernel
theorem dX8_refusalToHang_19 : decode cX8_refusalToHang 19 = .ok (.if_icmp .lt 7, 3) := by decide +kernel
theorem dX8_refusalToHang_22 : decode cX8_refusalToHang 22 = .ok (.iconst 3, 1) := by decide +kernel
theorem dX8_refusalToHang_23 : decode cX8_refusalToHang 23 = .ok (.goto 4, 3) := by decide +kernel
theorem dX8_refusalToHang_26 : decode cX8_refusalToHang 26 = .ok (.iconst 0, 1) := by decide +kernel
theorem dX8_refusalToHang_27 : decode cX8_refusalToHang 27 = .ok (.ireturn, 1) := by decide +kernel
theorem dX8_hang_0 : decode cX8_hang 0 = .ok (.aload_n 0, 1) := by decide +kernel
theorem dX8_hang_1 : decode cX8_hang 1 = .ok (.iload_n 1, 1) := by decide +kernel
theorem dX8_hang_2 : decode cX8_hang 2 = .ok (.invokevirtual 65, 3) := by decide +kernel
theorem dX8_hang_5 : decode cX8_hang 5 = .ok (.ifCond .eq 5, 3) := by decide +kernel
theorem dX8_hang_8 : decode cX8_hang 8 = .ok (.iconst (-1), 1) := by decide +kernel
theorem dX8_hang_9 : decode cX8_hang 9 = .ok (.ireturn, 1) := by decide +kernel
theorem dX8_hang_10 : decode cX8_hang 10 = .ok (.aload_n 0, 1) := by decide +kernel
theorem dX8_hang_11 : decode cX8_hang 11 = .ok (.getfield 36, 3) := by decide +kernel
theorem dX8_hang_14 : decode cX8_hang 14 = .ok (.istore_n 2, 1) := by decide +kernel
theorem dX8_hang_15 : decode cX8_hang 15 = .ok (.aload_n 0, 1) := by decide +kernel
theorem dX8_hang_16 : decode cX8_hang 16 = .ok (.getfield 9, 3) := by decide +kernel
theorem dX8_hang_19 : decode cX8_hang 19 = .ok (.iload_n 2, 1) := by decide +kernel
theorem dX8_hang_20 : decode cX8_hang 20 = .ok (.iload_n 1, 1) := by decide +kernel
theorem dX8_hang_21 : decode cX8_hang 21 = .ok (.iastore, 1) := by decide +kernel
theorem dX8_hang_22 : decode cX8_hang 22 = .ok (.aload_n 0, 1) := by decide +kernel
theorem dX8_hang_23 : decode cX8_hang 23 = .ok (.getfield 15, 3) := by decide +kernel
theorem dX8_hang_26 : decode cX8_hang 26 = .ok (.iload_n 2, 1) := by decide +kernel
theorem dX8_hang_27 : decode cX8_hang 27 = .ok (.iload_n 1, 1) := by decide +kernel
theorem dX8_hang_28 : decode cX8_hang 28 = .ok (.invokestatic 69, 3) := by decide +kernel
theorem dX8_hang_31 : decode cX8_hang 31 = .ok (.invokestatic 72, 3) := by decide +kernel
theorem dX8_hang_34 : decode cX8_hang 34 = .ok (.iastore, 1) := by decide +kernel
theorem dX8_hang_35 : decode cX8_hang 35 = .ok (.aload_n 0, 1) := by decide +kernel
theorem dX8_hang_36 : decode cX8_hang 36 = .ok (.getfield 18, 3) := by decide +kernel
theorem dX8_hang_39 : decode cX8_hang 39 = .ok (.iload_n 2, 1) := by decide +kernel
theorem dX8_hang_40 : decode cX8_hang 40 = .ok (.iconst 0, 1) := by decide +kernel
theorem dX8_hang_41 : decode cX8_hang 41 = .ok (.iastore, 1) := by decide +kernel
theorem dX8_hang_42 : decode cX8_hang 42 = .ok (.aload_n 0, 1) := by decide +kernel
theorem dX8_hang_43 : decode cX8_hang 43 = .ok (.getfield 21, 3) := by decide +kernel
theorem dX8_hang_46 : decode cX8_hang 46 = .ok (.iload_n 2, 1) := by decide +kernel
theorem dX8_hang_47 : decode cX8_hang 47 = .ok (.iconst 0, 1) := by decide +kernel
theorem dX8_hang_48 : decode cX8_hang 48 = .ok (.iastore, 1) := by decide +kernel
theorem dX8_hang_49 : decode cX8_hang 49 = .ok (.aload_n 0, 1) := by decide +kernel
theorem dX8_hang_50 : decode cX8_hang 50 = .ok (.getfield 24, 3) := by decide +kernel
theorem dX8_hang_53 : decode cX8_hang 53 = .ok (.iload_n 2, 1) := by decide +kernel
theorem dX8_hang_54 : decode cX8_hang 54 = .ok (.iconst 0, 1) := by decide +kernel
theorem dX8_hang_55 : decode cX8_hang 55 = .ok (.iastore, 1) := by decide +kernel
theorem dX8_hang_56 : decode cX8_hang 56 = .ok (.aload_n 0, 1) := by decide +kernel
theorem dX8_hang_57 : decode cX8_hang 57 = .ok (.iload_n 2, 1) := by decide +kernel
theorem dX8_hang_58 : decode cX8_hang 58 = .ok (.iconst 1, 1) := by decide +kernel
theorem dX8_hang_59 : decode cX8_hang 59 = .ok (.iadd, 1) := by decide +kernel
theorem dX8_hang_60 : decode cX8_hang 60 = .ok (.putfield 36, 3) := by decide +kernel
theorem dX8_hang_63 : decode cX8_hang 63 = .ok (.iload_n 2, 1) := by decide +kernel
theorem dX8_hang_64 : decode cX8_hang 64 = .ok (.ireturn, 1) := by decide +kernel
theorem dX8_squareOfPeriod_0 : decode cX8_squareOfPeriod 0 = .ok (.bipush 36, 2) := by decide +kernel
theorem dX8_squareOfPeriod_2 : decode cX8_squareOfPeriod 2 = .ok (.iload_n 0, 1) := by decide +kernel
theorem dX8_squareOfPeriod_3 : decode cX8_squareOfPeriod 3 = .ok (.imul, 1) := by decide +kernel
theorem dX8_squareOfPeriod_4 : decode cX8_squareOfPeriod 4 = .ok (.ireturn, 1) := by decide +kernel
theorem dX8_refusalToSwingUp_0 : decode cX8_refusalToSwingUp 0 = .ok (.aload_n 0, 1) := by decide +kernel
theorem dX8_refusalToSwingUp_1 : decode cX8_refusalToSwingUp 1 = .ok (.iload_n 1, 1) := by decide +kernel
theorem dX8_refusalToSwingUp_2 : decode cX8_refusalToSwingUp 2 = .ok (.invokevirtual 55, 3) := by decide +kernel
theorem dX8_refusalToSwingUp_5 : decode cX8_refusalToSwingUp 5 = .ok (.ifCond .ne 5, 3) := by decide +kernel
theorem dX8_refusalToSwingUp_8 : decode cX8_refusalToSwingUp 8 = .ok (.iconst 1, 1) := by decide +kernel
theorem dX8_refusalToSwingUp_9 : decode cX8_refusalToSwingUp 9 = .ok (.ireturn, 1) := by decide +kernel
theorem dX8_refusalToSwingUp_10 : decode cX8_refusalToSwingUp 10 = .ok (.iload_n 2, 1) := by decide +kernel
theorem dX8_refusalToSwingUp_11 : decode cX8_refusalToSwingUp 11 = .ok (.iconst 1, 1) := by decide +kernel
theorem dX8_refusalToSwingUp_12 : decode cX8_refusalToSwingUp 12 = .ok (.if_icmp .lt 9, 3) := by decide +kernel
theorem dX8_refusalToSwingUp_15 : decode cX8_refusalToSwingUp 15 = .ok (.iload_n 2, 1) := by decide +kernel
theorem dX8_refusalToSwingUp_16 : decode cX8_refusalToSwingUp 16 = .ok (.bipush 60, 2) := by decide +kernel
theorem dX8_refusalToSwingUp_18 : decode cX8_refusalToSwingUp 18 = .ok (.if_icmp .le 5, 3) := by decide +kernel
theorem dX8_refusalToSwingUp_21 : decode cX8_refusalToSwingUp 21 = .ok (.iconst 2, 1) := by decide +kernel
theorem dX8_refusalToSwingUp_22 : decode cX8_refusalToSwingUp 22 = .ok (.ireturn, 1) := by decide +kernel
theorem dX8_refusalToSwingUp_23 : decode cX8_refusalToSwingUp 23 = .ok (.aload_n 0, 1) := by decide +kernel
theorem dX8_refusalToSwingUp_24 : decode cX8_refusalToSwingUp 24 = .ok (.getfield 18, 3) := by decide +kernel
theorem dX8_refusalToSwingUp_27 : decode cX8_refusalToSwingUp 27 = .ok (.iload_n 1, 1) := by decide +kernel
theorem dX8_refusalToSwingUp_28 : decode cX8_refusalToSwingUp 28 = .ok (.iaload, 1) := by decide +kernel
theorem dX8_refusalToSwingUp_29 : decode cX8_refusalToSwingUp 29 = .ok (.iload_n 2, 1) := by decide +kernel
theorem dX8_refusalToSwingUp_30 : decode cX8_refusalToSwingUp 30 = .ok (.iadd, 1) := by decide +kernel
theorem dX8_refusalToSwingUp_31 : decode cX8_refusalToSwingUp 31 = .ok (.bipush 60, 2) := by decide +kernel
theorem dX8_refusalToSwingUp_33 : decode cX8_refusalToSwingUp 33 = .ok (.if_icmp .le 7, 3) := by decide +kernel
theorem dX8_refusalToSwingUp_36 : decode cX8_refusalToSwingUp 36 = .ok (.iconst 3, 1) := by decide +kernel
theorem dX8_refusalToSwingUp_37 : decode cX8_refusalToSwingUp 37 = .ok (.goto 4, 3) := by decide +kernel
theorem dX8_refusalToSwingUp_40 : decode cX8_refusalToSwingUp 40 = .ok (.iconst 0, 1) := by decide +kernel
theorem dX8_refusalToSwingUp_41 : decode cX8_refusalToSwingUp 41 = .ok (.ireturn, 1) := by decide +kernel
theorem dX8_swingUp_0 : decode cX8_swingUp 0 = .ok (.aload_n 0, 1) := by decide +kernel
theorem dX8_swingUp_1 : decode cX8_swingUp 1 = .ok (.iload_n 1, 1) := by decide +kernel
theorem dX8_swingUp_2 : decode cX8_swingUp 2 = .ok (.iload_n 2, 1) := by decide +kernel
theorem dX8_swingUp_3 : decode cX8_swingUp 3 = .ok (.invokevirtual 77, 3) := by decide +kernel
theorem dX8_swingUp_6 : decode cX8_swingUp 6 = .ok (.ifCond .eq 5, 3) := by decide +kernel
theorem dX8_swingUp_9 : decode cX8_swingUp 9 = .ok (.iconst (-1), 1) := by decide +kernel
theorem dX8_swingUp_10 : decode cX8_swingUp 10 = .ok (.ireturn, 1) := by decide +kernel
theorem dX8_swingUp_11 : decode cX8_swingUp 11 = .ok (.aload_n 0, 1) := by decide +kernel
theorem dX8_swingUp_12 : decode cX8_swingUp 12 = .ok (.getfield 18, 3) := by decide +kernel
theorem dX8_swingUp_15 : decode cX8_swingUp 15 = .ok (.iload_n 1, 1) := by decide +kernel
theorem dX8_swingUp_16 : decode cX8_swingUp 16 = .ok (.iaload, 1) := by decide +kernel
theorem dX8_swingUp_17 : decode cX8_swingUp 17 = .ok (.ifCond .ne 13, 3) := by decide +kernel
theorem dX8_swingUp_20 : decode cX8_swingUp 20 = .ok (.aload_n 0, 1) := by decide +kernel
theorem dX8_swingUp_21 : decode cX8_swingUp 21 = .ok (.getfield 21, 3) := by decide +kernel
theorem dX8_swingUp_24 : decode cX8_swingUp 24 = .ok (.iload_n 1, 1) := by decide +kernel
theorem dX8_swingUp_25 : decode cX8_swingUp 25 = .ok (.aload_n 0, 1) := by decide +kernel
theorem dX8_swingUp_26 : decode cX8_swingUp 26 = .ok (.getfield 43, 3) := by decide +kernel
theorem dX8_swingUp_29 : decode cX8_swingUp 29 = .ok (.iastore, 1) := by decide +kernel
theorem dX8_swingUp_30 : decode cX8_swingUp 30 = .ok (.aload_n 0, 1) := by decide +kernel
theorem dX8_swingUp_31 : decode cX8_swingUp 31 = .ok (.getfield 18, 3) := by decide +kernel
theorem dX8_swingUp_34 : decode cX8_swingUp 34 = .ok (.iload_n 1, 1) := by decide +kernel
theorem dX8_swingUp_35 : decode cX8_swingUp 35 = .ok (.dup2, 1) := by decide +kernel
theorem dX8_swingUp_36 : decode cX8_swingUp 36 = .ok (.iaload, 1) := by decide +kernel
theorem dX8_swingUp_37 : decode cX8_swingUp 37 = .ok (.iload_n 2, 1) := by decide +kernel
theorem dX8_swingUp_38 : decode cX8_swingUp 38 = .ok (.iadd, 1) := by decide +kernel
theorem dX8_swingUp_39 : decode cX8_swingUp 39 = .ok (.iastore, 1) := by decide +kernel
theorem dX8_swingUp_40 : decode cX8_swingUp 40 = .ok (.aload_n 0, 1) := by decide +kernel
theorem dX8_swingUp_41 : decode cX8_swingUp 41 = .ok (.aload_n 0, 1) := by decide +kernel
theorem dX8_swingUp_42 : decode cX8_swingUp 42 = .ok (.iload_n 1, 1) := by decide +kernel
theorem dX8_swingUp_43 : decode cX8_swingUp 43 = .ok (.invokevirtual 81, 3) := by decide +kernel
theorem dX8_swingUp_46 : decode cX8_swingUp 46 = .ok (.iload_n 1, 1) := by decide +kernel
theorem dX8_swingUp_47 : decode cX8_swingUp 47 = .ok (.aload_n 0, 1) := by decide +kernel
theorem dX8_swingUp_48 : decode cX8_swingUp 48 = .ok (.getfield 18, 3) := by decide +kernel
theorem dX8_swingUp_51 : decode cX8_swingUp 51 = .ok (.iload_n 1, 1) := by decide +kernel
theorem dX8_swingUp_52 : decode cX8_swingUp 52 = .ok (.iaload, 1) := by decide +kernel
theorem dX8_swingUp_53 : decode cX8_swingUp 53 = .ok (.invokevirtual 84, 3) := by decide +kernel
theorem dX8_swingUp_56 : decode cX8_swingUp 56 = .ok (.aload_n 0, 1) := by decide +kernel
theorem dX8_swingUp_57 : decode cX8_swingUp 57 = .ok (.getfield 18, 3) := by decide +kernel
theorem dX8_swingUp_60 : decode cX8_swingUp 60 = .ok (.iload_n 1, 1) := by decide +kernel
theorem dX8_swingUp_61 : decode cX8_swingUp 61 = .ok (.iaload, 1) := by decide +kernel
theorem dX8_swingUp_62 : decode cX8_swingUp 62 = .ok (.ireturn, 1) := by decide +kernel
theorem dX8_noteRecord_0 : decode cX8_noteRecord 0 = .ok (.iload_n 1, 1) := by decide +kernel
theorem dX8_noteRecord_1 : decode cX8_noteRecord 1 = .ok (.invokestatic 62, 3) := by decide +kernel
theorem dX8_noteRecord_4 : decode cX8_noteRecord 4 = .ok (.ifCond .eq 27, 3) := by decide +kernel
theorem dX8_noteRecord_7 : decode cX8_noteRecord 7 = .ok (.iload_n 3, 1) := by decide +kernel
theorem dX8_noteRecord_8 : decode cX8_noteRecord 8 = .ok (.aload_n 0, 1) := by decide +kernel
theorem dX8_noteRecord_9 : decode cX8_noteRecord 9 = .ok (.getfield 27, 3) := by decide +kernel
theorem dX8_noteRecord_12 : decode cX8_noteRecord 12 = .ok (.iload_n 1, 1) := by decide +kernel
theorem dX8_noteRecord_13 : decode cX8_noteRecord 13 = .ok (.iaload, 1) := by decide +kernel
theorem dX8_noteRecord_14 : decode cX8_noteRecord 14 = .ok (.if_icmp .le 17, 3) := by decide +kernel
theorem dX8_noteRecord_17 : decode cX8_noteRecord 17 = .ok (.aload_n 0, 1) := by decide +kernel
theorem dX8_noteRecord_18 : decode cX8_noteRecord 18 = .ok (.getfield 27, 3) := by decide +kernel
theorem dX8_noteRecord_21 : decode cX8_noteRecord 21 = .ok (.iload_n 1, 1) := by decide +kernel
theorem dX8_noteRecord_22 : decode cX8_noteRecord 22 = .ok (.iload_n 3, 1) := by decide +kernel
theorem dX8_noteRecord_23 : decode cX8_noteRecord 23 = .ok (.iastore, 1) := by decide +kernel
theorem dX8_noteRecord_24 : decode cX8_noteRecord 24 = .ok (.aload_n 0, 1) := by decide +kernel
theorem dX8_noteRecord_25 : decode cX8_noteRecord 25 = .ok (.getfield 30, 3) := by decide +kernel
theorem dX8_noteRecord_28 : decode cX8_noteRecord 28 = .ok (.iload_n 1, 1) := by decide +kernel
theorem dX8_noteRecord_29 : decode cX8_noteRecord 29 = .ok (.iload_n 2, 1) := by decide +kernel
theorem dX8_noteRecord_30 : decode cX8_noteRecord 30 = .ok (.iastore, 1) := by decide +kernel
theorem dX8_noteRecord_31 : decode cX8_noteRecord 31 = .ok (.return_, 1) := by decide +kernel
theorem dX8_refusalToStop_0 : decode cX8_refusalToStop 0 = .ok (.aload_n 0, 1) := by decide +kernel
theorem dX8_refusalToStop_1 : decode cX8_refusalToStop 1 = .ok (.iload_n 1, 1) := by decide +kernel
theorem dX8_refusalToStop_2 : decode cX8_refusalToStop 2 = .ok (.invokevirtual 55, 3) := by decide +kernel
theorem dX8_refusalToStop_5 : decode cX8_refusalToStop 5 = .ok (.ifCond .ne 5, 3) := by decide +kernel
theorem dX8_refusalToStop_8 : decode cX8_refusalToStop 8 = .ok (.iconst 1, 1) := by decide +kernel
theorem dX8_refusalToStop_9 : decode cX8_refusalToStop 9 = .ok (.ireturn, 1) := by decide +kernel
theorem dX8_refusalToStop_10 : decode cX8_refusalToStop 10 = .ok (.aload_n 0, 1) := by decide +kernel
theorem dX8_refusalToStop_11 : decode cX8_refusalToStop 11 = .ok (.getfield 18, 3) := by decide +kernel
theorem dX8_refusalToStop_14 : decode cX8_refusalToStop 14 = .ok (.iload_n 1, 1) := by decide +kernel
theorem dX8_refusalToStop_15 : decode cX8_refusalToStop 15 = .ok (.iaload, 1) := by decide +kernel
theorem dX8_refusalToStop_16 : decode cX8_refusalToStop 16 = .ok (.ifCond .ne 7, 3) := by decide +kernel
theorem dX8_refusalToStop_19 : decode cX8_refusalToStop 19 = .ok (.iconst 3, 1) := by decide +kernel
theorem dX8_refusalToStop_20 : decode cX8_refusalToStop 20 = .ok (.goto 4, 3) := by decide +kernel
theorem dX8_refusalToStop_23 : decode cX8_refusalToStop 23 = .ok (.iconst 0, 1) := by decide +kernel
theorem dX8_refusalToStop_24 : decode cX8_refusalToStop 24 = .ok (.ireturn, 1) := by decide +kernel
theorem dX8_stop_0 : decode cX8_stop 0 = .ok (.aload_n 0, 1) := by decide +kernel
theorem dX8_stop_1 : decode cX8_stop 1 = .ok (.iload_n 1, 1) := by decide +kernel
theorem dX8_stop_2 : decode cX8_stop 2 = .ok (.invokevirtual 88, 3) := by decide +kernel
theorem dX8_stop_5 : decode cX8_stop 5 = .ok (.ifCond .eq 5, 3) := by decide +kernel
theorem dX8_stop_8 : decode cX8_stop 8 = .ok (.iconst (-1), 1) := by decide +kernel
theorem dX8_stop_9 : decode cX8_stop 9 = .ok (.ireturn, 1) := by decide +kernel
theorem dX8_stop_10 : decode cX8_stop 10 = .ok (.aload_n 0, 1) := by decide +kernel
theorem dX8_stop_11 : decode cX8_stop 11 = .ok (.getfield 18, 3) := by decide +kernel
theorem dX8_stop_14 : decode cX8_stop 14 = .ok (.iload_n 1, 1) := by decide +kernel
theorem dX8_stop_15 : decode cX8_stop 15 = .ok (.iaload, 1) := by decide +kernel
theorem dX8_stop_16 : decode cX8_stop 16 = .ok (.istore_n 2, 1) := by decide +kernel
theorem dX8_stop_17 : decode cX8_stop 17 = .ok (.aload_n 0, 1) := by decide +kernel
theorem dX8_stop_18 : decode cX8_stop 18 = .ok (.getfield 18, 3) := by decide +kernel
theorem dX8_stop_21 : decode cX8_stop 21 = .ok (.iload_n 1, 1) := by decide +kernel
theorem dX8_stop_22 : decode cX8_stop 22 = .ok (.iconst 0, 1) := by decide +kernel
theorem dX8_stop_23 : decode cX8_stop 23 = .ok (.iastore, 1) := by decide +kernel
theorem dX8_stop_24 : decode cX8_stop 24 = .ok (.iload_n 2, 1) := by decide +kernel
theorem dX8_stop_25 : decode cX8_stop 25 = .ok (.ireturn, 1) := by decide +kernel
theorem dX8_refusalOfFriction_0 : decode cX8_refusalOfFriction 0 = .ok (.iload_n 1, 1) := by decide +kernel
theorem dX8_refusalOfFriction_1 : decode cX8_refusalOfFriction 1 = .ok (.ifCond .lt 9, 3) := by decide +kernel
theorem dX8_refusalOfFriction_4 : decode cX8_refusalOfFriction 4 = .ok (.iload_n 1, 1) := by decide +kernel
theorem dX8_refusalOfFriction_5 : decode cX8_refusalOfFriction 5 = .ok (.bipush 30, 2) := by decide +kernel
theorem dX8_refusalOfFriction_7 : decode cX8_refusalOfFriction 7 = .ok (.if_icmp .le 7, 3) := by decide +kernel
theorem dX8_refusalOfFriction_10 : decode cX8_refusalOfFriction 10 = .ok (.iconst 2, 1) := by decide +kernel
theorem dX8_refusalOfFriction_11 : decode cX8_refusalOfFriction 11 = .ok (.goto 4, 3) := by decide +kernel
theorem dX8_refusalOfFriction_14 : decode cX8_refusalOfFriction 14 = .ok (.iconst 0, 1) := by decide +kernel
theorem dX8_refusalOfFriction_15 : decode cX8_refusalOfFriction 15 = .ok (.ireturn, 1) := by decide +kernel
theorem dX8_changeFriction_0 : decode cX8_changeFriction 0 = .ok (.aload_n 0, 1) := by decide +kernel
theorem dX8_changeFriction_1 : decode cX8_changeFriction 1 = .ok (.iload_n 1, 1) := by decide +kernel
theorem dX8_changeFriction_2 : decode cX8_changeFriction 2 = .ok (.invokevirtual 91, 3) := by decide +kernel
theorem dX8_changeFriction_5 : decode cX8_changeFriction 5 = .ok (.ifCond .eq 5, 3) := by decide +kernel
theorem dX8_changeFriction_8 : decode cX8_changeFriction 8 = .ok (.iconst (-1), 1) := by decide +kernel
theorem dX8_changeFriction_9 : decode cX8_changeFriction 9 = .ok (.ireturn, 1) := by decide +kernel
theorem dX8_changeFriction_10 : decode cX8_changeFriction 10 = .ok (.aload_n 0, 1) := by decide +kernel
theorem dX8_changeFriction_11 : decode cX8_changeFriction 11 = .ok (.getfield 46, 3) := by decide +kernel
theorem dX8_changeFriction_14 : decode cX8_changeFriction 14 = .ok (.istore_n 2, 1) := by decide +kernel
theorem dX8_changeFriction_15 : decode cX8_changeFriction 15 = .ok (.aload_n 0, 1) := by decide +kernel
theorem dX8_changeFriction_16 : decode cX8_changeFriction 16 = .ok (.iload_n 1, 1) := by decide +kernel
theorem dX8_changeFriction_17 : decode cX8_changeFriction 17 = .ok (.putfield 46, 3) := by decide +kernel
theorem dX8_changeFriction_20 : decode cX8_changeFriction 20 = .ok (.iload_n 2, 1) := by decide +kernel
theorem dX8_changeFriction_21 : decode cX8_changeFriction 21 = .ok (.ireturn, 1) := by decide +kernel
theorem dX8_refusalToWait_0 : decode cX8_refusalToWait 0 = .ok (.iload_n 1, 1) := by decide +kernel
theorem dX8_refusalToWait_1 : decode cX8_refusalToWait 1 = .ok (.iconst 1, 1) := by decide +kernel
theorem dX8_refusalToWait_2 : decode cX8_refusalToWait 2 = .ok (.if_icmp .lt 10, 3) := by decide +kernel
theorem dX8_refusalToWait_5 : decode cX8_refusalToWait 5 = .ok (.iload_n 1, 1) := by decide +kernel
theorem dX8_refusalToWait_6 : decode cX8_refusalToWait 6 = .ok (.sipush 500, 3) := by decide +kernel
theorem dX8_refusalToWait_9 : decode cX8_refusalToWait 9 = .ok (.if_icmp .le 7, 3) := by decide +kernel
theorem dX8_refusalToWait_12 : decode cX8_refusalToWait 12 = .ok (.iconst 2, 1) := by decide +kernel
theorem dX8_refusalToWait_13 : decode cX8_refusalToWait 13 = .ok (.goto 4, 3) := by decide +kernel
theorem dX8_refusalToWait_16 : decode cX8_refusalToWait 16 = .ok (.iconst 0, 1) := by decide +kernel
theorem dX8_refusalToWait_17 : decode cX8_refusalToWait 17 = .ok (.ireturn, 1) := by decide +kernel
theorem dX8_waitFor_0 : decode cX8_waitFor 0 = .ok (.aload_n 0, 1) := by decide +kernel
theorem dX8_waitFor_1 : decode cX8_waitFor 1 = .ok (.iload_n 1, 1) := by decide +kernel
theorem dX8_waitFor_2 : decode cX8_waitFor 2 = .ok (.invokevirtual 94, 3) := by decide +kernel
theorem dX8_waitFor_5 : decode cX8_waitFor 5 = .ok (.ifCond .eq 5, 3) := by decide +kernel
theorem dX8_waitFor_8 : decode cX8_waitFor 8 = .ok (.iconst (-1), 1) := by decide +kernel
theorem dX8_waitFor_9 : decode cX8_waitFor 9 = .ok (.ireturn, 1) := by decide +kernel
theorem dX8_waitFor_10 : decode cX8_waitFor 10 = .ok (.iconst 0, 1) := by decide +kernel
theorem dX8_waitFor_11 : decode cX8_waitFor 11 = .ok (.istore_n 2, 1) := by decide +kernel
theorem dX8_waitFor_12 : decode cX8_waitFor 12 = .ok (.iconst 0, 1) := by decide +kernel
theorem dX8_waitFor_13 : decode cX8_waitFor 13 = .ok (.istore_n 3, 1) := by decide +kernel
theorem dX8_waitFor_14 : decode cX8_waitFor 14 = .ok (.iload_n 3, 1) := by decide +kernel
theorem dX8_waitFor_15 : decode cX8_waitFor 15 = .ok (.iload_n 1, 1) := by decide +kernel
theorem dX8_waitFor_16 : decode cX8_waitFor 16 = .ok (.if_icmp .ge 26, 3) := by decide +kernel
theorem dX8_waitFor_19 : decode cX8_waitFor 19 = .ok (.aload_n 0, 1) := by decide +kernel
theorem dX8_waitFor_20 : decode cX8_waitFor 20 = .ok (.dup, 1) := by decide +kernel
theorem dX8_waitFor_21 : decode cX8_waitFor 21 = .ok (.getfield 43, 3) := by decide +kernel
theorem dX8_waitFor_24 : decode cX8_waitFor 24 = .ok (.iconst 1, 1) := by decide +kernel
theorem dX8_waitFor_25 : decode cX8_waitFor 25 = .ok (.iadd, 1) := by decide +kernel
theorem dX8_waitFor_26 : decode cX8_waitFor 26 = .ok (.putfield 43, 3) := by decide +kernel
theorem dX8_waitFor_29 : decode cX8_waitFor 29 = .ok (.iload_n 2, 1) := by decide +kernel
theorem dX8_waitFor_30 : decode cX8_waitFor 30 = .ok (.aload_n 0, 1) := by decide +kernel
theorem dX8_waitFor_31 : decode cX8_waitFor 31 = .ok (.invokevirtual 97, 3) := by decide +kernel
theorem dX8_waitFor_34 : decode cX8_waitFor 34 = .ok (.iadd, 1) := by decide +kernel
theorem dX8_waitFor_35 : decode cX8_waitFor 35 = .ok (.istore_n 2, 1) := by decide +kernel
theorem dX8_waitFor_36 : decode cX8_waitFor 36 = .ok (.iinc 3 1, 3) := by decide +kernel
theorem dX8_waitFor_39 : decode cX8_waitFor 39 = .ok (.goto (-25), 3) := by decide +kernel
theorem dX8_waitFor_42 : decode cX8_waitFor 42 = .ok (.iload_n 2, 1) := by decide +kernel
theorem dX8_waitFor_43 : decode cX8_waitFor 43 = .ok (.ireturn, 1) := by decide +kernel
theorem dX8_swingAll_0 : decode cX8_swingAll 0 = .ok (.iconst 0, 1) := by decide +kernel
theorem dX8_swingAll_1 : decode cX8_swingAll 1 = .ok (.istore_n 1, 1) := by decide +kernel
theorem dX8_swingAll_2 : decode cX8_swingAll 2 = .ok (.iconst 0, 1) := by decide +kernel
theorem dX8_swingAll_3 : decode cX8_swingAll 3 = .ok (.istore_n 2, 1) := by decide +kernel
theorem dX8_swingAll_4 : decode cX8_swingAll 4 = .ok (.iload_n 2, 1) := by decide +kernel
theorem dX8_swingAll_5 : decode cX8_swingAll 5 = .ok (.aload_n 0, 1) := by decide +kernel
theorem dX8_swingAll_6 : decode cX8_swingAll 6 = .ok (.getfield 36, 3) := by decide +kernel
theorem dX8_swingAll_9 : decode cX8_swingAll 9 = .ok (.if_icmp .ge 69, 3) := by decide +kernel
theorem dX8_swingAll_12 : decode cX8_swingAll 12 = .ok (.aload_n 0, 1) := by decide +kernel
theorem dX8_swingAll_13 : decode cX8_swingAll 13 = .ok (.iload_n 2, 1) := by decide +kernel
theorem dX8_swingAll_14 : decode cX8_swingAll 14 = .ok (.invokevirtual 101, 3) := by decide +kernel
theorem dX8_swingAll_17 : decode cX8_swingAll 17 = .ok (.ifCond .eq 55, 3) := by decide +kernel
theorem dX8_swingAll_20 : decode cX8_swingAll 20 = .ok (.aload_n 0, 1) := by decide +kernel
theorem dX8_swingAll_21 : decode cX8_swingAll 21 = .ok (.getfield 15, 3) := by decide +kernel
theorem dX8_swingAll_24 : decode cX8_swingAll 24 = .ok (.iload_n 2, 1) := by decide +kernel
theorem dX8_swingAll_25 : decode cX8_swingAll 25 = .ok (.iaload, 1) := by decide +kernel
theorem dX8_swingAll_26 : decode cX8_swingAll 26 = .ok (.aload_n 0, 1) := by decide +kernel
theorem dX8_swingAll_27 : decode cX8_swingAll 27 = .ok (.getfield 43, 3) := by decide +kernel
theorem dX8_swingAll_30 : decode cX8_swingAll 30 = .ok (.aload_n 0, 1) := by decide +kernel
theorem dX8_swingAll_31 : decode cX8_swingAll 31 = .ok (.getfield 21, 3) := by decide +kernel
theorem dX8_swingAll_34 : decode cX8_swingAll 34 = .ok (.iload_n 2, 1) := by decide +kernel
theorem dX8_swingAll_35 : decode cX8_swingAll 35 = .ok (.iaload, 1) := by decide +kernel
theorem dX8_swingAll_36 : decode cX8_swingAll 36 = .ok (.isub, 1) := by decide +kernel
theorem dX8_swingAll_37 : decode cX8_swingAll 37 = .ok (.invokestatic 104, 3) := by decide +kernel
theorem dX8_swingAll_40 : decode cX8_swingAll 40 = .ok (.ifCond .eq 32, 3) := by decide +kernel
theorem dX8_swingAll_43 : decode cX8_swingAll 43 = .ok (.aload_n 0, 1) := by decide +kernel
theorem dX8_swingAll_44 : decode cX8_swingAll 44 = .ok (.getfield 18, 3) := by decide +kernel
theorem dX8_swingAll_47 : decode cX8_swingAll 47 = .ok (.iload_n 2, 1) := by decide +kernel
theorem dX8_swingAll_48 : decode cX8_swingAll 48 = .ok (.aload_n 0, 1) := by decide +kernel
theorem dX8_swingAll_49 : decode cX8_swingAll 49 = .ok (.aload_n 0, 1) := by decide +kernel
theorem dX8_swingAll_50 : decode cX8_swingAll 50 = .ok (.getfield 18, 3) := by decide +kernel
theorem dX8_swingAll_53 : decode cX8_swingAll 53 = .ok (.iload_n 2, 1) := by decide +kernel
theorem dX8_swingAll_54 : decode cX8_swingAll 54 = .ok (.iaload, 1) := by decide +kernel
theorem dX8_swingAll_55 : decode cX8_swingAll 55 = .ok (.invokevirtual 108, 3) := by decide +kernel
theorem dX8_swingAll_58 : decode cX8_swingAll 58 = .ok (.iastore, 1) := by decide +kernel
theorem dX8_swingAll_59 : decode cX8_swingAll 59 = .ok (.aload_n 0, 1) := by decide +kernel
theorem dX8_swingAll_60 : decode cX8_swingAll 60 = .ok (.getfield 24, 3) := by decide +kernel
theorem dX8_swingAll_63 : decode cX8_swingAll 63 = .ok (.iload_n 2, 1) := by decide +kernel
theorem dX8_swingAll_64 : decode cX8_swingAll 64 = .ok (.dup2, 1) := by decide +kernel
theorem dX8_swingAll_65 : decode cX8_swingAll 65 = .ok (.iaload, 1) := by decide +kernel
theorem dX8_swingAll_66 : decode cX8_swingAll 66 = .ok (.iconst 1, 1) := by decide +kernel
theorem dX8_swingAll_67 : decode cX8_swingAll 67 = .ok (.iadd, 1) := by decide +kernel
theorem dX8_swingAll_68 : decode cX8_swingAll 68 = .ok (.iastore, 1) := by decide +kernel
theorem dX8_swingAll_69 : decode cX8_swingAll 69 = .ok (.iinc 1 1, 3) := by decide +kernel
theorem dX8_swingAll_72 : decode cX8_swingAll 72 = .ok (.iinc 2 1, 3) := by decide +kernel
theorem dX8_swingAll_75 : decode cX8_swingAll 75 = .ok (.goto (-71), 3) := by decide +kernel
theorem dX8_swingAll_78 : decode cX8_swingAll 78 = .ok (.iload_n 1, 1) := by decide +kernel
theorem dX8_swingAll_79 : decode cX8_swingAll 79 = .ok (.ireturn, 1) := by decide +kernel
theorem dX8_afterSwing_0 : decode cX8_afterSwing 0 = .ok (.iload_n 1, 1) := by decide +kernel
theorem dX8_afterSwing_1 : decode cX8_afterSwing 1 = .ok (.iconst 1, 1) := by decide +kernel
theorem dX8_afterSwing_2 : decode cX8_afterSwing 2 = .ok (.iload_n 1, 1) := by decide +kernel
theorem dX8_afterSwing_3 : decode cX8_afterSwing 3 = .ok (.aload_n 0, 1) := by decide +kernel
theorem dX8_afterSwing_4 : decode cX8_afterSwing 4 = .ok (.getfield 46, 3) := by decide +kernel
theorem dX8_afterSwing_7 : decode cX8_afterSwing 7 = .ok (.imul, 1) := by decide +kernel
theorem dX8_afterSwing_8 : decode cX8_afterSwing 8 = .ok (.bipush 100, 2) := by decide +kernel
theorem dX8_afterSwing_10 : decode cX8_afterSwing 10 = .ok (.idiv, 1) := by decide +kernel
theorem dX8_afterSwing_11 : decode cX8_afterSwing 11 = .ok (.invokestatic 111, 3) := by decide +kernel
theorem dX8_afterSwing_14 : decode cX8_afterSwing 14 = .ok (.isub, 1) := by decide +kernel
theorem dX8_afterSwing_15 : decode cX8_afterSwing 15 = .ok (.ireturn, 1) := by decide +kernel
theorem dX8_refusalToAppendLeg_0 : decode cX8_refusalToAppendLeg 0 = .ok (.iload_n 1, 1) := by decide +kernel
theorem dX8_refusalToAppendLeg_1 : decode cX8_refusalToAppendLeg 1 = .ok (.iconst 1, 1) := by decide +kernel
theorem dX8_refusalToAppendLeg_2 : decode cX8_refusalToAppendLeg 2 = .ok (.if_icmp .lt 9, 3) := by decide +kernel
theorem dX8_refusalToAppendLeg_5 : decode cX8_refusalToAppendLeg 5 = .ok (.iload_n 1, 1) := by decide +kernel
theorem dX8_refusalToAppendLeg_6 : decode cX8_refusalToAppendLeg 6 = .ok (.bipush 60, 2) := by decide +kernel
theorem dX8_refusalToAppendLeg_8 : decode cX8_refusalToAppendLeg 8 = .ok (.if_icmp .le 5, 3) := by decide +kernel
theorem dX8_refusalToAppendLeg_11 : decode cX8_refusalToAppendLeg 11 = .ok (.iconst 2, 1) := by decide +kernel
theorem dX8_refusalToAppendLeg_12 : decode cX8_refusalToAppendLeg 12 = .ok (.ireturn, 1) := by decide +kernel
theorem dX8_refusalToAppendLeg_13 : decode cX8_refusalToAppendLeg 13 = .ok (.aload_n 0, 1) := by decide +kernel
theorem dX8_refusalToAppendLeg_14 : decode cX8_refusalToAppendLeg 14 = .ok (.getfield 40, 3) := by decide +kernel
theorem dX8_refusalToAppendLeg_17 : decode cX8_refusalToAppendLeg 17 = .ok (.bipush 6, 2) := by decide +kernel
theorem dX8_refusalToAppendLeg_19 : decode cX8_refusalToAppendLeg 19 = .ok (.if_icmp .lt 7, 3) := by decide +kernel
theorem dX8_refusalToAppendLeg_22 : decode cX8_refusalToAppendLeg 22 = .ok (.iconst 3, 1) := by decide +kernel
theorem dX8_refusalToAppendLeg_23 : decode cX8_refusalToAppendLeg 23 = .ok (.goto 4, 3) := by decide +kernel
theorem dX8_refusalToAppendLeg_26 : decode cX8_refusalToAppendLeg 26 = .ok (.iconst 0, 1) := by decide +kernel
theorem dX8_refusalToAppendLeg_27 : decode cX8_refusalToAppendLeg 27 = .ok (.ireturn, 1) := by decide +kernel
theorem dX8_appendLeg_0 : decode cX8_appendLeg 0 = .ok (.aload_n 0, 1) := by decide +kernel
theorem dX8_appendLeg_1 : decode cX8_appendLeg 1 = .ok (.iload_n 1, 1) := by decide +kernel
theorem dX8_appendLeg_2 : decode cX8_appendLeg 2 = .ok (.invokevirtual 116, 3) := by decide +kernel
theorem dX8_appendLeg_5 : decode cX8_appendLeg 5 = .ok (.ifCond .eq 5, 3) := by decide +kernel
theorem dX8_appendLeg_8 : decode cX8_appendLeg 8 = .ok (.iconst (-1), 1) := by decide +kernel
theorem dX8_appendLeg_9 : decode cX8_appendLeg 9 = .ok (.ireturn, 1) := by decide +kernel
theorem dX8_appendLeg_10 : decode cX8_appendLeg 10 = .ok (.aload_n 0, 1) := by decide +kernel
theorem dX8_appendLeg_11 : decode cX8_appendLeg 11 = .ok (.getfield 33, 3) := by decide +kernel
theorem dX8_appendLeg_14 : decode cX8_appendLeg 14 = .ok (.aload_n 0, 1) := by decide +kernel
theorem dX8_appendLeg_15 : decode cX8_appendLeg 15 = .ok (.getfield 40, 3) := by decide +kernel
theorem dX8_appendLeg_18 : decode cX8_appendLeg 18 = .ok (.iload_n 1, 1) := by decide +kernel
theorem dX8_appendLeg_19 : decode cX8_appendLeg 19 = .ok (.iastore, 1) := by decide +kernel
theorem dX8_appendLeg_20 : decode cX8_appendLeg 20 = .ok (.aload_n 0, 1) := by decide +kernel
theorem dX8_appendLeg_21 : decode cX8_appendLeg 21 = .ok (.dup, 1) := by decide +kernel
theorem dX8_appendLeg_22 : decode cX8_appendLeg 22 = .ok (.getfield 40, 3) := by decide +kernel
theorem dX8_appendLeg_25 : decode cX8_appendLeg 25 = .ok (.iconst 1, 1) := by decide +kernel
theorem dX8_appendLeg_26 : decode cX8_appendLeg 26 = .ok (.iadd, 1) := by decide +kernel
theorem dX8_appendLeg_27 : decode cX8_appendLeg 27 = .ok (.putfield 40, 3) := by decide +kernel
theorem dX8_appendLeg_30 : decode cX8_appendLeg 30 = .ok (.aload_n 0, 1) := by decide +kernel
theorem dX8_appendLeg_31 : decode cX8_appendLeg 31 = .ok (.getfield 40, 3) := by decide +kernel
theorem dX8_appendLeg_34 : decode cX8_appendLeg 34 = .ok (.ireturn, 1) := by decide +kernel
theorem dX8_refusalToDropLeg_0 : decode cX8_refusalToDropLeg 0 = .ok (.aload_n 0, 1) := by decide +kernel
theorem dX8_refusalToDropLeg_1 : decode cX8_refusalToDropLeg 1 = .ok (.iload_n 1, 1) := by decide +kernel
theorem dX8_refusalToDropLeg_2 : decode cX8_refusalToDropLeg 2 = .ok (.invokevirtual 59, 3) := by decide +kernel
theorem dX8_refusalToDropLeg_5 : decode cX8_refusalToDropLeg 5 = .ok (.ifCond .eq 7, 3) := by decide +kernel
theorem dX8_refusalToDropLeg_8 : decode cX8_refusalToDropLeg 8 = .ok (.iconst 0, 1) := by decide +kernel
theorem dX8_refusalToDropLeg_9 : decode cX8_refusalToDropLeg 9 = .ok (.goto 4, 3) := by decide +kernel
theorem dX8_refusalToDropLeg_12 : decode cX8_refusalToDropLeg 12 = .ok (.iconst 1, 1) := by decide +kernel
theorem dX8_refusalToDropLeg_13 : decode cX8_refusalToDropLeg 13 = .ok (.ireturn, 1) := by decide +kernel
theorem dX8_dropLeg_0 : decode cX8_dropLeg 0 = .ok (.aload_n 0, 1) := by decide +kernel
theorem dX8_dropLeg_1 : decode cX8_dropLeg 1 = .ok (.iload_n 1, 1) := by decide +kernel
theorem dX8_dropLeg_2 : decode cX8_dropLeg 2 = .ok (.invokevirtual 119, 3) := by decide +kernel
theorem dX8_dropLeg_5 : decode cX8_dropLeg 5 = .ok (.ifCond .eq 5, 3) := by decide +kernel
theorem dX8_dropLeg_8 : decode cX8_dropLeg 8 = .ok (.iconst (-1), 1) := by decide +kernel
theorem dX8_dropLeg_9 : decode cX8_dropLeg 9 = .ok (.ireturn, 1) := by decide +kernel
theorem dX8_dropLeg_10 : decode cX8_dropLeg 10 = .ok (.aload_n 0, 1) := by decide +kernel
theorem dX8_dropLeg_11 : decode cX8_dropLeg 11 = .ok (.getfield 33, 3) := by decide +kernel
theorem dX8_dropLeg_14 : decode cX8_dropLeg 14 = .ok (.iload_n 1, 1) := by decide +kernel
theorem dX8_dropLeg_15 : decode cX8_dropLeg 15 = .ok (.iaload, 1) := by decide +kernel
theorem dX8_dropLeg_16 : decode cX8_dropLeg 16 = .ok (.istore_n 2, 1) := by decide +kernel
theorem dX8_dropLeg_17 : decode cX8_dropLeg 17 = .ok (.aload_n 0, 1) := by decide +kernel
theorem dX8_dropLeg_18 : decode cX8_dropLeg 18 = .ok (.dup, 1) := by decide +kernel
theorem dX8_dropLeg_19 : decode cX8_dropLeg 19 = .ok (.getfield 40, 3) := by decide +kernel
theorem dX8_dropLeg_22 : decode cX8_dropLeg 22 = .ok (.iconst 1, 1) := by decide +kernel
theorem dX8_dropLeg_23 : decode cX8_dropLeg 23 = .ok (.isub, 1) := by decide +kernel
theorem dX8_dropLeg_24 : decode cX8_dropLeg 24 = .ok (.putfield 40, 3) := by decide +kernel
theorem dX8_dropLeg_27 : decode cX8_dropLeg 27 = .ok (.iload_n 1, 1) := by decide +kernel
theorem dX8_dropLeg_28 : decode cX8_dropLeg 28 = .ok (.istore_n 3, 1) := by decide +kernel
theorem dX8_dropLeg_29 : decode cX8_dropLeg 29 = .ok (.iload_n 3, 1) := by decide +kernel
theorem dX8_dropLeg_30 : decode cX8_dropLeg 30 = .ok (.aload_n 0, 1) := by decide +kernel
theorem dX8_dropLeg_31 : decode cX8_dropLeg 31 = .ok (.getfield 40, 3) := by decide +kernel
theorem dX8_dropLeg_34 : decode cX8_dropLeg 34 = .ok (.if_icmp .ge 23, 3) := by decide +kernel
theorem dX8_dropLeg_37 : decode cX8_dropLeg 37 = .ok (.aload_n 0, 1) := by decide +kernel
theorem dX8_dropLeg_38 : decode cX8_dropLeg 38 = .ok (.getfield 33, 3) := by decide +kernel
theorem dX8_dropLeg_41 : decode cX8_dropLeg 41 = .ok (.iload_n 3, 1) := by decide +kernel
theorem dX8_dropLeg_42 : decode cX8_dropLeg 42 = .ok (.aload_n 0, 1) := by decide +kernel
theorem dX8_dropLeg_43 : decode cX8_dropLeg 43 = .ok (.getfield 33, 3) := by decide +kernel
theorem dX8_dropLeg_46 : decode cX8_dropLeg 46 = .ok (.iload_n 3, 1) := by decide +kernel
theorem dX8_dropLeg_47 : decode cX8_dropLeg 47 = .ok (.iconst 1, 1) := by decide +kernel
theorem dX8_dropLeg_48 : decode cX8_dropLeg 48 = .ok (.iadd, 1) := by decide +kernel
theorem dX8_dropLeg_49 : decode cX8_dropLeg 49 = .ok (.iaload, 1) := by decide +kernel
theorem dX8_dropLeg_50 : decode cX8_dropLeg 50 = .ok (.iastore, 1) := by decide +kernel
theorem dX8_dropLeg_51 : decode cX8_dropLeg 51 = .ok (.iinc 3 1, 3) := by decide +kernel
theorem dX8_dropLeg_54 : decode cX8_dropLeg 54 = .ok (.goto (-25), 3) := by decide +kernel
theorem dX8_dropLeg_57 : decode cX8_dropLeg 57 = .ok (.iload_n 2, 1) := by decide +kernel
theorem dX8_dropLeg_58 : decode cX8_dropLeg 58 = .ok (.ireturn, 1) := by decide +kernel
theorem dX8_kindOf_0 : decode cX8_kindOf 0 = .ok (.aload_n 0, 1) := by decide +kernel
theorem dX8_kindOf_1 : decode cX8_kindOf 1 = .ok (.iload_n 1, 1) := by decide +kernel
theorem dX8_kindOf_2 : decode cX8_kindOf 2 = .ok (.invokevirtual 122, 3) := by decide +kernel
theorem dX8_kindOf_5 : decode cX8_kindOf 5 = .ok (.istore_n 2, 1) := by decide +kernel
theorem dX8_kindOf_6 : decode cX8_kindOf 6 = .ok (.iload_n 2, 1) := by decide +kernel
theorem dX8_kindOf_7 : decode cX8_kindOf 7 = .ok (.bipush 30, 2) := by decide +kernel
theorem dX8_kindOf_9 : decode cX8_kindOf 9 = .ok (.if_icmp .ge 5, 3) := by decide +kernel
theorem dX8_kindOf_12 : decode cX8_kindOf 12 = .ok (.iconst 0, 1) := by decide +kernel
theorem dX8_kindOf_13 : decode cX8_kindOf 13 = .ok (.ireturn, 1) := by decide +kernel
theorem dX8_kindOf_14 : decode cX8_kindOf 14 = .ok (.iload_n 2, 1) := by decide +kernel
theorem dX8_kindOf_15 : decode cX8_kindOf 15 = .ok (.bipush 60, 2) := by decide +kernel
theorem dX8_kindOf_17 : decode cX8_kindOf 17 = .ok (.if_icmp .ge 7, 3) := by decide +kernel
theorem dX8_kindOf_20 : decode cX8_kindOf 20 = .ok (.iconst 1, 1) := by decide +kernel
theorem dX8_kindOf_21 : decode cX8_kindOf 21 = .ok (.goto 4, 3) := by decide +kernel
theorem dX8_kindOf_24 : decode cX8_kindOf 24 = .ok (.iconst 2, 1) := by decide +kernel
theorem dX8_kindOf_25 : decode cX8_kindOf 25 = .ok (.ireturn, 1) := by decide +kernel
theorem dX8_holdsRecord_0 : decode cX8_holdsRecord 0 = .ok (.aload_n 0, 1) := by decide +kernel
theorem dX8_holdsRecord_1 : decode cX8_holdsRecord 1 = .ok (.iload_n 1, 1) := by decide +kernel
theorem dX8_holdsRecord_2 : decode cX8_holdsRecord 2 = .ok (.invokevirtual 55, 3) := by decide +kernel
theorem dX8_holdsRecord_5 : decode cX8_holdsRecord 5 = .ok (.ifCond .eq 20, 3) := by decide +kernel
theorem dX8_holdsRecord_8 : decode cX8_holdsRecord 8 = .ok (.aload_n 0, 1) := by decide +kernel
theorem dX8_holdsRecord_9 : decode cX8_holdsRecord 9 = .ok (.aload_n 0, 1) := by decide +kernel
theorem dX8_holdsRecord_10 : decode cX8_holdsRecord 10 = .ok (.iload_n 1, 1) := by decide +kernel
theorem dX8_holdsRecord_11 : decode cX8_holdsRecord 11 = .ok (.invokevirtual 81, 3) := by decide +kernel
theorem dX8_holdsRecord_14 : decode cX8_holdsRecord 14 = .ok (.invokevirtual 125, 3) := by decide +kernel
theorem dX8_holdsRecord_17 : decode cX8_holdsRecord 17 = .ok (.iload_n 1, 1) := by decide +kernel
theorem dX8_holdsRecord_18 : decode cX8_holdsRecord 18 = .ok (.if_icmp .ne 7, 3) := by decide +kernel
theorem dX8_holdsRecord_21 : decode cX8_holdsRecord 21 = .ok (.iconst 1, 1) := by decide +kernel
theorem dX8_holdsRecord_22 : decode cX8_holdsRecord 22 = .ok (.goto 4, 3) := by decide +kernel
theorem dX8_holdsRecord_25 : decode cX8_holdsRecord 25 = .ok (.iconst 0, 1) := by decide +kernel
theorem dX8_holdsRecord_26 : decode cX8_holdsRecord 26 = .ok (.ireturn, 1) := by decide +kernel
theorem dX8_ranked_0 : decode cX8_ranked 0 = .ok (.iconst 0, 1) := by decide +kernel
theorem dX8_ranked_1 : decode cX8_ranked 1 = .ok (.istore_n 2, 1) := by decide +kernel
theorem dX8_ranked_2 : decode cX8_ranked 2 = .ok (.iload_n 2, 1) := by decide +kernel
theorem dX8_ranked_3 : decode cX8_ranked 3 = .ok (.aload_n 0, 1) := by decide +kernel
theorem dX8_ranked_4 : decode cX8_ranked 4 = .ok (.getfield 36, 3) := by decide +kernel
theorem dX8_ranked_7 : decode cX8_ranked 7 = .ok (.if_icmp .ge 20, 3) := by decide +kernel
theorem dX8_ranked_10 : decode cX8_ranked 10 = .ok (.aload_n 0, 1) := by decide +kernel
theorem dX8_ranked_11 : decode cX8_ranked 11 = .ok (.iload_n 2, 1) := by decide +kernel
theorem dX8_ranked_12 : decode cX8_ranked 12 = .ok (.invokevirtual 128, 3) := by decide +kernel
theorem dX8_ranked_15 : decode cX8_ranked 15 = .ok (.iload_n 1, 1) := by decide +kernel
theorem dX8_ranked_16 : decode cX8_ranked 16 = .ok (.if_icmp .ne 5, 3) := by decide +kernel
theorem dX8_ranked_19 : decode cX8_ranked 19 = .ok (.iload_n 2, 1) := by decide +kernel
theorem dX8_ranked_20 : decode cX8_ranked 20 = .ok (.ireturn, 1) := by decide +kernel
theorem dX8_ranked_21 : decode cX8_ranked 21 = .ok (.iinc 2 1, 3) := by decide +kernel
theorem dX8_ranked_24 : decode cX8_ranked 24 = .ok (.goto (-22), 3) := by decide +kernel
theorem dX8_ranked_27 : decode cX8_ranked 27 = .ok (.iconst (-1), 1) := by decide +kernel
theorem dX8_ranked_28 : decode cX8_ranked 28 = .ok (.ireturn, 1) := by decide +kernel
theorem dX8_rankOf_0 : decode cX8_rankOf 0 = .ok (.iconst 0, 1) := by decide +kernel
theorem dX8_rankOf_1 : decode cX8_rankOf 1 = .ok (.istore_n 2, 1) := by decide +kernel
theorem dX8_rankOf_2 : decode cX8_rankOf 2 = .ok (.iconst 0, 1) := by decide +kernel
theorem dX8_rankOf_3 : decode cX8_rankOf 3 = .ok (.istore_n 3, 1) := by decide +kernel
theorem dX8_rankOf_4 : decode cX8_rankOf 4 = .ok (.iload_n 3, 1) := by decide +kernel
theorem dX8_rankOf_5 : decode cX8_rankOf 5 = .ok (.aload_n 0, 1) := by decide +kernel
theorem dX8_rankOf_6 : decode cX8_rankOf 6 = .ok (.getfield 36, 3) := by decide +kernel
theorem dX8_rankOf_9 : decode cX8_rankOf 9 = .ok (.if_icmp .ge 21, 3) := by decide +kernel
theorem dX8_rankOf_12 : decode cX8_rankOf 12 = .ok (.aload_n 0, 1) := by decide +kernel
theorem dX8_rankOf_13 : decode cX8_rankOf 13 = .ok (.iload_n 3, 1) := by decide +kernel
theorem dX8_rankOf_14 : decode cX8_rankOf 14 = .ok (.iload_n 1, 1) := by decide +kernel
theorem dX8_rankOf_15 : decode cX8_rankOf 15 = .ok (.invokevirtual 131, 3) := by decide +kernel
theorem dX8_rankOf_18 : decode cX8_rankOf 18 = .ok (.ifCond .eq 6, 3) := by decide +kernel
theorem dX8_rankOf_21 : decode cX8_rankOf 21 = .ok (.iinc 2 1, 3) := by decide +kernel
theorem dX8_rankOf_24 : decode cX8_rankOf 24 = .ok (.iinc 3 1, 3) := by decide +kernel
theorem dX8_rankOf_27 : decode cX8_rankOf 27 = .ok (.goto (-23), 3) := by decide +kernel
theorem dX8_rankOf_30 : decode cX8_rankOf 30 = .ok (.iload_n 2, 1) := by decide +kernel
theorem dX8_rankOf_31 : decode cX8_rankOf 31 = .ok (.ireturn, 1) := by decide +kernel
theorem dX8_isAhead_0 : decode cX8_isAhead 0 = .ok (.aload_n 0, 1) := by decide +kernel
theorem dX8_isAhead_1 : decode cX8_isAhead 1 = .ok (.iload_n 1, 1) := by decide +kernel
theorem dX8_isAhead_2 : decode cX8_isAhead 2 = .ok (.invokevirtual 134, 3) := by decide +kernel
theorem dX8_isAhead_5 : decode cX8_isAhead 5 = .ok (.aload_n 0, 1) := by decide +kernel
theorem dX8_isAhead_6 : decode cX8_isAhead 6 = .ok (.iload_n 2, 1) := by decide +kernel
theorem dX8_isAhead_7 : decode cX8_isAhead 7 = .ok (.invokevirtual 134, 3) := by decide +kernel
theorem dX8_isAhead_10 : decode cX8_isAhead 10 = .ok (.if_icmp .eq 22, 3) := by decide +kernel
theorem dX8_isAhead_13 : decode cX8_isAhead 13 = .ok (.aload_n 0, 1) := by decide +kernel
theorem dX8_isAhead_14 : decode cX8_isAhead 14 = .ok (.iload_n 1, 1) := by decide +kernel
theorem dX8_isAhead_15 : decode cX8_isAhead 15 = .ok (.invokevirtual 134, 3) := by decide +kernel
theorem dX8_isAhead_18 : decode cX8_isAhead 18 = .ok (.aload_n 0, 1) := by decide +kernel
theorem dX8_isAhead_19 : decode cX8_isAhead 19 = .ok (.iload_n 2, 1) := by decide +kernel
theorem dX8_isAhead_20 : decode cX8_isAhead 20 = .ok (.invokevirtual 134, 3) := by decide +kernel
theorem dX8_isAhead_23 : decode cX8_isAhead 23 = .ok (.if_icmp .le 7, 3) := by decide +kernel
theorem dX8_isAhead_26 : decode cX8_isAhead 26 = .ok (.iconst 1, 1) := by decide +kernel
theorem dX8_isAhead_27 : decode cX8_isAhead 27 = .ok (.goto 4, 3) := by decide +kernel
theorem dX8_isAhead_30 : decode cX8_isAhead 30 = .ok (.iconst 0, 1) := by decide +kernel
theorem dX8_isAhead_31 : decode cX8_isAhead 31 = .ok (.ireturn, 1) := by decide +kernel
theorem dX8_isAhead_32 : decode cX8_isAhead 32 = .ok (.aload_n 0, 1) := by decide +kernel
theorem dX8_isAhead_33 : decode cX8_isAhead 33 = .ok (.iload_n 1, 1) := by decide +kernel
theorem dX8_isAhead_34 : decode cX8_isAhead 34 = .ok (.invokevirtual 137, 3) := by decide +kernel
theorem dX8_isAhead_37 : decode cX8_isAhead 37 = .ok (.aload_n 0, 1) := by decide +kernel
theorem dX8_isAhead_38 : decode cX8_isAhead 38 = .ok (.iload_n 2, 1) := by decide +kernel
theorem dX8_isAhead_39 : decode cX8_isAhead 39 = .ok (.invokevirtual 137, 3) := by decide +kernel
theorem dX8_isAhead_42 : decode cX8_isAhead 42 = .ok (.if_icmp .eq 22, 3) := by decide +kernel
theorem dX8_isAhead_45 : decode cX8_isAhead 45 = .ok (.aload_n 0, 1) := by decide +kernel
theorem dX8_isAhead_46 : decode cX8_isAhead 46 = .ok (.iload_n 1, 1) := by decide +kernel
theorem dX8_isAhead_47 : decode cX8_isAhead 47 = .ok (.invokevirtual 137, 3) := by decide +kernel
theorem dX8_isAhead_50 : decode cX8_isAhead 50 = .ok (.aload_n 0, 1) := by decide +kernel
theorem dX8_isAhead_51 : decode cX8_isAhead 51 = .ok (.iload_n 2, 1) := by decide +kernel
theorem dX8_isAhead_52 : decode cX8_isAhead 52 = .ok (.invokevirtual 137, 3) := by decide +kernel
theorem dX8_isAhead_55 : decode cX8_isAhead 55 = .ok (.if_icmp .le 7, 3) := by decide +kernel
theorem dX8_isAhead_58 : decode cX8_isAhead 58 = .ok (.iconst 1, 1) := by decide +kernel
theorem dX8_isAhead_59 : decode cX8_isAhead 59 = .ok (.goto 4, 3) := by decide +kernel
theorem dX8_isAhead_62 : decode cX8_isAhead 62 = .ok (.iconst 0, 1) := by decide +kernel
theorem dX8_isAhead_63 : decode cX8_isAhead 63 = .ok (.ireturn, 1) := by decide +kernel
theorem dX8_isAhead_64 : decode cX8_isAhead 64 = .ok (.iload_n 1, 1) := by decide +kernel
theorem dX8_isAhead_65 : decode cX8_isAhead 65 = .ok (.iload_n 2, 1) := by decide +kernel
theorem dX8_isAhead_66 : decode cX8_isAhead 66 = .ok (.if_icmp .ge 7, 3) := by decide +kernel
theorem dX8_isAhead_69 : decode cX8_isAhead 69 = .ok (.iconst 1, 1) := by decide +kernel
theorem dX8_isAhead_70 : decode cX8_isAhead 70 = .ok (.goto 4, 3) := by decide +kernel
theorem dX8_isAhead_73 : decode cX8_isAhead 73 = .ok (.iconst 0, 1) := by decide +kernel
theorem dX8_isAhead_74 : decode cX8_isAhead 74 = .ok (.ireturn, 1) := by decide +kernel
theorem dX8_swingingCount_0 : decode cX8_swingingCount 0 = .ok (.iconst 0, 1) := by decide +kernel
theorem dX8_swingingCount_1 : decode cX8_swingingCount 1 = .ok (.istore_n 1, 1) := by decide +kernel
theorem dX8_swingingCount_2 : decode cX8_swingingCount 2 = .ok (.iconst 0, 1) := by decide +kernel
theorem dX8_swingingCount_3 : decode cX8_swingingCount 3 = .ok (.istore_n 2, 1) := by decide +kernel
theorem dX8_swingingCount_4 : decode cX8_swingingCount 4 = .ok (.iload_n 2, 1) := by decide +kernel
theorem dX8_swingingCount_5 : decode cX8_swingingCount 5 = .ok (.aload_n 0, 1) := by decide +kernel
theorem dX8_swingingCount_6 : decode cX8_swingingCount 6 = .ok (.getfield 36, 3) := by decide +kernel
theorem dX8_swingingCount_9 : decode cX8_swingingCount 9 = .ok (.if_icmp .ge 20, 3) := by decide +kernel
theorem dX8_swingingCount_12 : decode cX8_swingingCount 12 = .ok (.aload_n 0, 1) := by decide +kernel
theorem dX8_swingingCount_13 : decode cX8_swingingCount 13 = .ok (.iload_n 2, 1) := by decide +kernel
theorem dX8_swingingCount_14 : decode cX8_swingingCount 14 = .ok (.invokevirtual 101, 3) := by decide +kernel
theorem dX8_swingingCount_17 : decode cX8_swingingCount 17 = .ok (.ifCond .eq 6, 3) := by decide +kernel
theorem dX8_swingingCount_20 : decode cX8_swingingCount 20 = .ok (.iinc 1 1, 3) := by decide +kernel
theorem dX8_swingingCount_23 : decode cX8_swingingCount 23 = .ok (.iinc 2 1, 3) := by decide +kernel
theorem dX8_swingingCount_26 : decode cX8_swingingCount 26 = .ok (.goto (-22), 3) := by decide +kernel
theorem dX8_swingingCount_29 : decode cX8_swingingCount 29 = .ok (.iload_n 1, 1) := by decide +kernel
theorem dX8_swingingCount_30 : decode cX8_swingingCount 30 = .ok (.ireturn, 1) := by decide +kernel
theorem dX8_amplitudeSum_0 : decode cX8_amplitudeSum 0 = .ok (.iconst 0, 1) := by decide +kernel
theorem dX8_amplitudeSum_1 : decode cX8_amplitudeSum 1 = .ok (.istore_n 1, 1) := by decide +kernel
theorem dX8_amplitudeSum_2 : decode cX8_amplitudeSum 2 = .ok (.iconst 0, 1) := by decide +kernel
theorem dX8_amplitudeSum_3 : decode cX8_amplitudeSum 3 = .ok (.istore_n 2, 1) := by decide +kernel
theorem dX8_amplitudeSum_4 : decode cX8_amplitudeSum 4 = .ok (.iload_n 2, 1) := by decide +kernel
theorem dX8_amplitudeSum_5 : decode cX8_amplitudeSum 5 = .ok (.aload_n 0, 1) := by decide +kernel
theorem dX8_amplitudeSum_6 : decode cX8_amplitudeSum 6 = .ok (.getfield 36, 3) := by decide +kernel
theorem dX8_amplitudeSum_9 : decode cX8_amplitudeSum 9 = .ok (.if_icmp .ge 17, 3) := by decide +kernel
theorem dX8_amplitudeSum_12 : decode cX8_amplitudeSum 12 = .ok (.iload_n 1, 1) := by decide +kernel
theorem dX8_amplitudeSum_13 : decode cX8_amplitudeSum 13 = .ok (.aload_n 0, 1) := by decide +kernel
theorem dX8_amplitudeSum_14 : decode cX8_amplitudeSum 14 = .ok (.iload_n 2, 1) := by decide +kernel
theorem dX8_amplitudeSum_15 : decode cX8_amplitudeSum 15 = .ok (.invokevirtual 134, 3) := by decide +kernel
theorem dX8_amplitudeSum_18 : decode cX8_amplitudeSum 18 = .ok (.iadd, 1) := by decide +kernel
theorem dX8_amplitudeSum_19 : decode cX8_amplitudeSum 19 = .ok (.istore_n 1, 1) := by decide +kernel
theorem dX8_amplitudeSum_20 : decode cX8_amplitudeSum 20 = .ok (.iinc 2 1, 3) := by decide +kernel
theorem dX8_amplitudeSum_23 : decode cX8_amplitudeSum 23 = .ok (.goto (-19), 3) := by decide +kernel
theorem dX8_amplitudeSum_26 : decode cX8_amplitudeSum 26 = .ok (.iload_n 1, 1) := by decide +kernel
theorem dX8_amplitudeSum_27 : decode cX8_amplitudeSum 27 = .ok (.ireturn, 1) := by decide +kernel
theorem dX8_misfit_0 : decode cX8_misfit 0 = .ok (.aload_n 0, 1) := by decide +kernel
theorem dX8_misfit_1 : decode cX8_misfit 1 = .ok (.iload_n 1, 1) := by decide +kernel
theorem dX8_misfit_2 : decode cX8_misfit 2 = .ok (.invokevirtual 55, 3) := by decide +kernel
theorem dX8_misfit_5 : decode cX8_misfit 5 = .ok (.ifCond .eq 11, 3) := by decide +kernel
theorem dX8_misfit_8 : decode cX8_misfit 8 = .ok (.aload_n 0, 1) := by decide +kernel
theorem dX8_misfit_9 : decode cX8_misfit 9 = .ok (.iload_n 2, 1) := by decide +kernel
theorem dX8_misfit_10 : decode cX8_misfit 10 = .ok (.invokevirtual 59, 3) := by decide +kernel
theorem dX8_misfit_13 : decode cX8_misfit 13 = .ok (.ifCond .ne 6, 3) := by decide +kernel
theorem dX8_misfit_16 : decode cX8_misfit 16 = .ok (.ldc 140, 2) := by decide +kernel
theorem dX8_misfit_18 : decode cX8_misfit 18 = .ok (.ireturn, 1) := by decide +kernel
theorem dX8_misfit_19 : decode cX8_misfit 19 = .ok (.aload_n 0, 1) := by decide +kernel
theorem dX8_misfit_20 : decode cX8_misfit 20 = .ok (.getfield 15, 3) := by decide +kernel
theorem dX8_misfit_23 : decode cX8_misfit 23 = .ok (.iload_n 1, 1) := by decide +kernel
theorem dX8_misfit_24 : decode cX8_misfit 24 = .ok (.iaload, 1) := by decide +kernel
theorem dX8_misfit_25 : decode cX8_misfit 25 = .ok (.aload_n 0, 1) := by decide +kernel
theorem dX8_misfit_26 : decode cX8_misfit 26 = .ok (.getfield 33, 3) := by decide +kernel
theorem dX8_misfit_29 : decode cX8_misfit 29 = .ok (.iload_n 2, 1) := by decide +kernel
theorem dX8_misfit_30 : decode cX8_misfit 30 = .ok (.iaload, 1) := by decide +kernel
theorem dX8_misfit_31 : decode cX8_misfit 31 = .ok (.isub, 1) := by decide +kernel
theorem dX8_misfit_32 : decode cX8_misfit 32 = .ok (.invokestatic 141, 3) := by decide +kernel
theorem dX8_misfit_35 : decode cX8_misfit 35 = .ok (.ireturn, 1) := by decide +kernel
theorem dX8_swingsInWeek_0 : decode cX8_swingsInWeek 0 = .ok (.sipush 168, 3) := by decide +kernel
theorem dX8_swingsInWeek_3 : decode cX8_swingsInWeek 3 = .ok (.aload_n 0, 1) := by decide +kernel
theorem dX8_swingsInWeek_4 : decode cX8_swingsInWeek 4 = .ok (.iload_n 1, 1) := by decide +kernel
theorem dX8_swingsInWeek_5 : decode cX8_swingsInWeek 5 = .ok (.invokevirtual 144, 3) := by decide +kernel
theorem dX8_swingsInWeek_8 : decode cX8_swingsInWeek 8 = .ok (.invokestatic 147, 3) := by decide +kernel
theorem dX8_swingsInWeek_11 : decode cX8_swingsInWeek 11 = .ok (.ireturn, 1) := by decide +kernel
theorem dX8_nextSwing_0 : decode cX8_nextSwing 0 = .ok (.aload_n 0, 1) := by decide +kernel
theorem dX8_nextSwing_1 : decode cX8_nextSwing 1 = .ok (.iload_n 1, 1) := by decide +kernel
theorem dX8_nextSwing_2 : decode cX8_nextSwing 2 = .ok (.invokevirtual 144, 3) := by decide +kernel
theorem dX8_nextSwing_5 : decode cX8_nextSwing 5 = .ok (.istore_n 2, 1) := by decide +kernel
theorem dX8_nextSwing_6 : decode cX8_nextSwing 6 = .ok (.aload_n 0, 1) := by decide +kernel
theorem dX8_nextSwing_7 : decode cX8_nextSwing 7 = .ok (.getfield 43, 3) := by decide +kernel
theorem dX8_nextSwing_10 : decode cX8_nextSwing 10 = .ok (.iload_n 2, 1) := by decide +kernel
theorem dX8_nextSwing_11 : decode cX8_nextSwing 11 = .ok (.iadd, 1) := by decide +kernel
theorem dX8_nextSwing_12 : decode cX8_nextSwing 12 = .ok (.aload_n 0, 1) := by decide +kernel
theorem dX8_nextSwing_13 : decode cX8_nextSwing 13 = .ok (.getfield 43, 3) := by decide +kernel
theorem dX8_nextSwing_16 : decode cX8_nextSwing 16 = .ok (.aload_n 0, 1) := by decide +kernel
theorem dX8_nextSwing_17 : decode cX8_nextSwing 17 = .ok (.iload_n 1, 1) := by decide +kernel
theorem dX8_nextSwing_18 : decode cX8_nextSwing 18 = .ok (.invokevirtual 150, 3) := by decide +kernel
theorem dX8_nextSwing_21 : decode cX8_nextSwing 21 = .ok (.isub, 1) := by decide +kernel
theorem dX8_nextSwing_22 : decode cX8_nextSwing 22 = .ok (.iload_n 2, 1) := by decide +kernel
theorem dX8_nextSwing_23 : decode cX8_nextSwing 23 = .ok (.invokestatic 153, 3) := by decide +kernel
theorem dX8_nextSwing_26 : decode cX8_nextSwing 26 = .ok (.isub, 1) := by decide +kernel
theorem dX8_nextSwing_27 : decode cX8_nextSwing 27 = .ok (.ireturn, 1) := by decide +kernel
theorem dX10_init_0 : decode cX10_init 0 = .ok (.aload_n 0, 1) := by decide +kernel
theorem dX10_init_1 : decode cX10_init 1 = .ok (.invokespecial 1, 3) := by decide +kernel
theorem dX10_init_4 : decode cX10_init 4 = .ok (.aload_n 0, 1) := by decide +kernel
theorem dX10_init_5 : decode cX10_init 5 = .ok (.new 7, 3) := by decide +kernel
theorem dX10_init_8 : decode cX10_init 8 = .ok (.dup, 1) := by decide +kernel
theorem dX10_init_9 : decode cX10_init 9 = .ok (.invokespecial 9, 3) := by decide +kernel
theorem dX10_init_12 : decode cX10_init 12 = .ok (.putfield 10, 3) := by decide +kernel
theorem dX10_init_15 : decode cX10_init 15 = .ok (.aload_n 0, 1) := by decide +kernel
theorem dX10_init_16 : decode cX10_init 16 = .ok (.new 7, 3) := by decide +kernel
theorem dX10_init_19 : decode cX10_init 19 = .ok (.dup, 1) := by decide +kernel
theorem dX10_init_20 : decode cX10_init 20 = .ok (.invokespecial 9, 3) := by decide +kernel
theorem dX10_init_23 : decode cX10_init 23 = .ok (.putfield 16, 3) := by decide +kernel
theorem dX10_init_26 : decode cX10_init 26 = .ok (.aload_n 0, 1) := by decide +kernel
theorem dX10_init_27 : decode cX10_init 27 = .ok (.new 7, 3) := by decide +kernel
theorem dX10_init_30 : decode cX10_init 30 = .ok (.dup, 1) := by decide +kernel
theorem dX10_init_31 : decode cX10_init 31 = .ok (.invokespecial 9, 3) := by decide +kernel
theorem dX10_init_34 : decode cX10_init 34 = .ok (.putfield 19, 3) := by decide +kernel
theorem dX10_init_37 : decode cX10_init 37 = .ok (.aload_n 0, 1) := by decide +kernel
theorem dX10_init_38 : decode cX10_init 38 = .ok (.new 22, 3) := by decide +kernel
theorem dX10_init_41 : decode cX10_init 41 = .ok (.dup, 1) := by decide +kernel
theorem dX10_init_42 : decode cX10_init 42 = .ok (.invokespecial 24, 3) := by decide +kernel
theorem dX10_init_45 : decode cX10_init 45 = .ok (.putfield 25, 3) := by decide +kernel
theorem dX10_init_48 : decode cX10_init 48 = .ok (.aload_n 0, 1) := by decide +kernel
theorem dX10_init_49 : decode cX10_init 49 = .ok (.new 29, 3) := by decide +kernel
theorem dX10_init_52 : decode cX10_init 52 = .ok (.dup, 1) := by decide +kernel
theorem dX10_init_53 : decode cX10_init 53 = .ok (.invokespecial 31, 3) := by decide +kernel
theorem dX10_init_56 : decode cX10_init 56 = .ok (.putfield 32, 3) := by decide +kernel
theorem dX10_init_59 : decode cX10_init 59 = .ok (.aload_n 0, 1) := by decide +kernel
theorem dX10_init_60 : decode cX10_init 60 = .ok (.new 36, 3) := by decide +kernel
theorem dX10_init_63 : decode cX10_init 63 = .ok (.dup, 1) := by decide +kernel
theorem dX10_init_64 : decode cX10_init 64 = .ok (.invokespecial 38, 3) := by decide +kernel
theorem dX10_init_67 : decode cX10_init 67 = .ok (.putfield 39, 3) := by decide +kernel
theorem dX10_init_70 : decode cX10_init 70 = .ok (.aload_n 0, 1) := by decide +kernel
theorem dX10_init_71 : decode cX10_init 71 = .ok (.new 43, 3) := by decide +kernel
theorem dX10_init_74 : decode cX10_init 74 = .ok (.dup, 1) := by decide +kernel
theorem dX10_init_75 : decode cX10_init 75 = .ok (.invokespecial 45, 3) := by decide +kernel
theorem dX10_init_78 : decode cX10_init 78 = .ok (.putfield 46, 3) := by decide +kernel
theorem dX10_init_81 : decode cX10_init 81 = .ok (.aload_n 0, 1) := by decide +kernel
theorem dX10_init_82 : decode cX10_init 82 = .ok (.new 50, 3) := by decide +kernel
theorem dX10_init_85 : decode cX10_init 85 = .ok (.dup, 1) := by decide +kernel
theorem dX10_init_86 : decode cX10_init 86 = .ok (.invokespecial 52, 3) := by decide +kernel
theorem dX10_init_89 : decode cX10_init 89 = .ok (.putfield 53, 3) := by decide +kernel
theorem dX10_init_92 : decode cX10_init 92 = .ok (.aload_n 0, 1) := by decide +kernel
theorem dX10_init_93 : decode cX10_init 93 = .ok (.iconst 0, 1) := by decide +kernel
theorem dX10_init_94 : decode cX10_init 94 = .ok (.putfield 57, 3) := by decide +kernel
theorem dX10_init_97 : decode cX10_init 97 = .ok (.aload_n 0, 1) := by decide +kernel
theorem dX10_init_98 : decode cX10_init 98 = .ok (.iconst (-1), 1) := by decide +kernel
theorem dX10_init_99 : decode cX10_init 99 = .ok (.putfield 61, 3) := by decide +kernel
theorem dX10_init_102 : decode cX10_init 102 = .ok (.aload_n 0, 1) := by decide +kernel
theorem dX10_init_103 : decode cX10_init 103 = .ok (.iconst (-1), 1) := by decide +kernel
theorem dX10_init_104 : decode cX10_init 104 = .ok (.putfield 65, 3) := by decide +kernel
theorem dX10_init_107 : decode cX10_init 107 = .ok (.return_, 1) := by decide +kernel
theorem dX10_addPendulum_0 : decode cX10_addPendulum 0 = .ok (.aload_n 0, 1) := by decide +kernel
theorem dX10_addPendulum_1 : decode cX10_addPendulum 1 = .ok (.getfield 10, 3) := by decide +kernel
theorem dX10_addPendulum_4 : decode cX10_addPendulum 4 = .ok (.iload_n 1, 1) := by decide +kernel
theorem dX10_addPendulum_5 : decode cX10_addPendulum 5 = .ok (.invokevirtual 68, 3) := by decide +kernel
theorem dX10_addPendulum_8 : decode cX10_addPendulum 8 = .ok (.invokestatic 72, 3) := by decide +kernel
theorem dX10_addPendulum_11 : decode cX10_addPendulum 11 = .ok (.aload_n 0, 1) := by decide +kernel
theorem dX10_addPendulum_12 : decode cX10_addPendulum 12 = .ok (.getfield 25, 3) := by decide +kernel
theorem dX10_addPendulum_15 : decode cX10_addPendulum 15 = .ok (.aload_n 0, 1) := by decide +kernel
theorem dX10_addPendulum_16 : decode cX10_addPendulum 16 = .ok (.getfield 10, 3) := by decide +kernel
theorem dX10_addPendulum_19 : decode cX10_addPendulum 19 = .ok (.invokevirtual 76, 3) := by decide +kernel
theorem dX10_addPendulum_22 : decode cX10_addPendulum 22 = .ok (.aload_n 0, 1) := by decide +kernel
theorem dX10_addPendulum_23 : decode cX10_addPendulum 23 = .ok (.getfield 10, 3) := by decide +kernel
theorem dX10_addPendulum_26 : decode cX10_addPendulum 26 = .ok (.iload_n 1, 1) := by decide +kernel
theorem dX10_addPendulum_27 : decode cX10_addPendulum 27 = .ok (.invokevirtual 80, 3) := by decide +kernel
theorem dX10_addPendulum_30 : decode cX10_addPendulum 30 = .ok (.ireturn, 1) := by decide +kernel
theorem dX10_push_0 : decode cX10_push 0 = .ok (.aload_n 0, 1) := by decide +kernel
theorem dX10_push_1 : decode cX10_push 1 = .ok (.getfield 10, 3) := by decide +kernel
theorem dX10_push_4 : decode cX10_push 4 = .ok (.iload_n 1, 1) := by decide +kernel
theorem dX10_push_5 : decode cX10_push 5 = .ok (.iload_n 2, 1) := by decide +kernel
theorem dX10_push_6 : decode cX10_push 6 = .ok (.invokevirtual 83, 3) := by decide +kernel
theorem dX10_push_9 : decode cX10_push 9 = .ok (.invokestatic 72, 3) := by decide +kernel
theorem dX10_push_12 : decode cX10_push 12 = .ok (.aload_n 0, 1) := by decide +kernel
theorem dX10_push_13 : decode cX10_push 13 = .ok (.getfield 25, 3) := by decide +kernel
theorem dX10_push_16 : decode cX10_push 16 = .ok (.aload_n 0, 1) := by decide +kernel
theorem dX10_push_17 : decode cX10_push 17 = .ok (.getfield 10, 3) := by decide +kernel
theorem dX10_push_20 : decode cX10_push 20 = .ok (.invokevirtual 76, 3) := by decide +kernel
theorem dX10_push_23 : decode cX10_push 23 = .ok (.aload_n 0, 1) := by decide +kernel
theorem dX10_push_24 : decode cX10_push 24 = .ok (.getfield 10, 3) := by decide +kernel
theorem dX10_push_27 : decode cX10_push 27 = .ok (.iload_n 1, 1) := by decide +kernel
theorem dX10_push_28 : decode cX10_push 28 = .ok (.iload_n 2, 1) := by decide +kernel
theorem dX10_push_29 : decode cX10_push 29 = .ok (.invokevirtual 87, 3) := by decide +kernel
theorem dX10_push_32 : decode cX10_push 32 = .ok (.ireturn, 1) := by decide +kernel
theorem dX10_catchPendulum_0 : decode cX10_catchPendulum 0 = .ok (.aload_n 0, 1) := by decide +kernel
theorem dX10_catchPendulum_1 : decode cX10_catchPendulum 1 = .ok (.getfield 10, 3) := by decide +kernel
theorem dX10_catchPendulum_4 : decode cX10_catchPendulum 4 = .ok (.iload_n 1, 1) := by decide +kernel
theorem dX10_catchPendulum_5 : decode cX10_catchPendulum 5 = .ok (.invokevirtual 90, 3) := by decide +kernel
theorem dX10_catchPendulum_8 : decode cX10_catchPendulum 8 = .ok (.invokestatic 72, 3) := by decide +kernel
theorem dX10_catchPendulum_11 : decode cX10_catchPendulum 11 = .ok (.aload_n 0, 1) := by decide +kernel
theorem dX10_catchPendulum_12 : decode cX10_catchPendulum 12 = .ok (.getfield 25, 3) := by decide +kernel
theorem dX10_catchPendulum_15 : decode cX10_catchPendulum 15 = .ok (.aload_n 0, 1) := by decide +kernel
theorem dX10_catchPendulum_16 : decode cX10_catchPendulum 16 = .ok (.getfield 10, 3) := by decide +kernel
theorem dX10_catchPendulum_19 : decode cX10_catchPendulum 19 = .ok (.invokevirtual 76, 3) := by decide +kernel
theorem dX10_catchPendulum_22 : decode cX10_catchPendulum 22 = .ok (.aload_n 0, 1) := by decide +kernel
theorem dX10_catchPendulum_23 : decode cX10_catchPendulum 23 = .ok (.getfield 10, 3) := by decide +kernel
theorem dX10_catchPendulum_26 : decode cX10_catchPendulum 26 = .ok (.iload_n 1, 1) := by decide +kernel
theorem dX10_catchPendulum_27 : decode cX10_catchPendulum 27 = .ok (.invokevirtual 93, 3) := by decide +kernel
theorem dX10_catchPendulum_30 : decode cX10_catchPendulum 30 = .ok (.ireturn, 1) := by decide +kernel
theorem dX10_setFriction_0 : decode cX10_setFriction 0 = .ok (.aload_n 0, 1) := by decide +kernel
theorem dX10_setFriction_1 : decode cX10_setFriction 1 = .ok (.getfield 10, 3) := by decide +kernel
theorem dX10_setFriction_4 : decode cX10_setFriction 4 = .ok (.iload_n 1, 1) := by decide +kernel
theorem dX10_setFriction_5 : decode cX10_setFriction 5 = .ok (.invokevirtual 96, 3) := by decide +kernel
theorem dX10_setFriction_8 : decode cX10_setFriction 8 = .ok (.invokestatic 72, 3) := by decide +kernel
theorem dX10_setFriction_11 : decode cX10_setFriction 11 = .ok (.aload_n 0, 1) := by decide +kernel
theorem dX10_setFriction_12 : decode cX10_setFriction 12 = .ok (.getfield 25, 3) := by decide +kernel
theorem dX10_setFriction_15 : decode cX10_setFriction 15 = .ok (.aload_n 0, 1) := by decide +kernel
theorem dX10_setFriction_16 : decode cX10_setFriction 16 = .ok (.getfield 10, 3) := by decide +kernel
theorem dX10_setFriction_19 : decode cX10_setFriction 19 = .ok (.invokevirtual 76, 3) := by decide +kernel
theorem dX10_setFriction_22 : decode cX10_setFriction 22 = .ok (.aload_n 0, 1) := by decide +kernel
theorem dX10_setFriction_23 : decode cX10_setFriction 23 = .ok (.getfield 10, 3) := by decide +kernel
theorem dX10_setFriction_26 : decode cX10_setFriction 26 = .ok (.iload_n 1, 1) := by decide +kernel
theorem dX10_setFriction_27 : decode cX10_setFriction 27 = .ok (.invokevirtual 99, 3) := by decide +kernel
theorem dX10_setFriction_30 : decode cX10_setFriction 30 = .ok (.ireturn, 1) := by decide +kernel
theorem dX10_pass_0 : decode cX10_pass 0 = .ok (.aload_n 0, 1) := by decide +kernel
theorem dX10_pass_1 : decode cX10_pass 1 = .ok (.getfield 10, 3) := by decide +kernel
theorem dX10_pass_4 : decode cX10_pass 4 = .ok (.iload_n 1, 1) := by decide +kernel
theorem dX10_pass_5 : decode cX10_pass 5 = .ok (.invokevirtual 102, 3) := by decide +kernel
theorem dX10_pass_8 : decode cX10_pass 8 = .ok (.invokestatic 72, 3) := by decide +kernel
theorem dX10_pass_11 : decode cX10_pass 11 = .ok (.aload_n 0, 1) := by decide +kernel
theorem dX10_pass_12 : decode cX10_pass 12 = .ok (.getfield 25, 3) := by decide +kernel
theorem dX10_pass_15 : decode cX10_pass 15 = .ok (.aload_n 0, 1) := by decide +kernel
theorem dX10_pass_16 : decode cX10_pass 16 = .ok (.getfield 10, 3) := by decide +kernel
theorem dX10_pass_19 : decode cX10_pass 19 = .ok (.invokevirtual 76, 3) := by decide +kernel
theorem dX10_pass_22 : decode cX10_pass 22 = .ok (.aload_n 0, 1) := by decide +kernel
theorem dX10_pass_23 : decode cX10_pass 23 = .ok (.getfield 10, 3) := by decide +kernel
theorem dX10_pass_26 : decode cX10_pass 26 = .ok (.iload_n 1, 1) := by decide +kernel
theorem dX10_pass_27 : decode cX10_pass 27 = .ok (.invokevirtual 105, 3) := by decide +kernel
theorem dX10_pass_30 : decode cX10_pass 30 = .ok (.ireturn, 1) := by decide +kernel
theorem dX10_pendulumCount_0 : decode cX10_pendulumCount 0 = .ok (.aload_n 0, 1) := by decide +kernel
theorem dX10_pendulumCount_1 : decode cX10_pendulumCount 1 = .ok (.getfield 10, 3) := by decide +kernel
theorem dX10_pendulumCount_4 : decode cX10_pendulumCount 4 = .ok (.getfield 108, 3) := by decide +kernel
theorem dX10_pendulumCount_7 : decode cX10_pendulumCount 7 = .ok (.ireturn, 1) := by decide +kernel
theorem dX10_lengthOf_0 : decode cX10_lengthOf 0 = .ok (.aload_n 0, 1) := by decide +kernel
theorem dX10_lengthOf_1 : decode cX10_lengthOf 1 = .ok (.iload_n 1, 1) := by decide +kernel
theorem dX10_lengthOf_2 : decode cX10_lengthOf 2 = .ok (.invokevirtual 111, 3) := by decide +kernel
theorem dX10_lengthOf_5 : decode cX10_lengthOf 5 = .ok (.aload_n 0, 1) := by decide +kernel
theorem dX10_lengthOf_6 : decode cX10_lengthOf 6 = .ok (.getfield 10, 3) := by decide +kernel
theorem dX10_lengthOf_9 : decode cX10_lengthOf 9 = .ok (.iload_n 1, 1) := by decide +kernel
theorem dX10_lengthOf_10 : decode cX10_lengthOf 10 = .ok (.invokevirtual 114, 3) := by decide +kernel
theorem dX10_lengthOf_13 : decode cX10_lengthOf 13 = .ok (.ireturn, 1) := by decide +kernel
theorem dX10_classOf_0 : decode cX10_classOf 0 = .ok (.aload_n 0, 1) := by decide +kernel
theorem dX10_classOf_1 : decode cX10_classOf 1 = .ok (.iload_n 1, 1) := by decide +kernel
theorem dX10_classOf_2 : decode cX10_classOf 2 = .ok (.invokevirtual 111, 3) := by decide +kernel
theorem dX10_classOf_5 : decode cX10_classOf 5 = .ok (.aload_n 0, 1) := by decide +kernel
theorem dX10_classOf_6 : decode cX10_classOf 6 = .ok (.getfield 10, 3) := by decide +kernel
theorem dX10_classOf_9 : decode cX10_classOf 9 = .ok (.iload_n 1, 1) := by decide +kernel
theorem dX10_classOf_10 : decode cX10_classOf 10 = .ok (.invokevirtual 117, 3) := by decide +kernel
theorem dX10_classOf_13 : decode cX10_classOf 13 = .ok (.ireturn, 1) := by decide +kernel
theorem dX10_amplitudeOf_0 : decode cX10_amplitudeOf 0 = .ok (.aload_n 0, 1) := by decide +kernel
theorem dX10_amplitudeOf_1 : decode cX10_amplitudeOf 1 = .ok (.iload_n 1, 1) := by decide +kernel
theorem dX10_amplitudeOf_2 : decode cX10_amplitudeOf 2 = .ok (.invokevirtual 111, 3) := by decide +kernel
theorem dX10_amplitudeOf_5 : decode cX10_amplitudeOf 5 = .ok (.aload_n 0, 1) := by decide +kernel
theorem dX10_amplitudeOf_6 : decode cX10_amplitudeOf 6 = .ok (.getfield 10, 3) := by decide +kernel
theorem dX10_amplitudeOf_9 : decode cX10_amplitudeOf 9 = .ok (.iload_n 1, 1) := by decide +kernel
theorem dX10_amplitudeOf_10 : decode cX10_amplitudeOf 10 = .ok (.invokevirtual 120, 3) := by decide +kernel
theorem dX10_amplitudeOf_13 : decode cX10_amplitudeOf 13 = .ok (.ireturn, 1) := by decide +kernel
theorem dX10_startOf_0 : decode cX10_startOf 0 = .ok (.aload_n 0, 1) := by decide +kernel
theorem dX10_startOf_1 : decode cX10_startOf 1 = .ok (.iload_n 1, 1) := by decide +kernel
theorem dX10_startOf_2 : decode cX10_startOf 2 = .ok (.invokevirtual 111, 3) := by decide +kernel
theorem dX10_startOf_5 : decode cX10_startOf 5 = .ok (.aload_n 0, 1) := by decide +kernel
theorem dX10_startOf_6 : decode cX10_startOf 6 = .ok (.iload_n 1, 1) := by decide +kernel
theorem dX10_startOf_7 : decode cX10_startOf 7 = .ok (.invokevirtual 123, 3) := by decide +kernel
theorem dX10_startOf_10 : decode cX10_startOf 10 = .ok (.aload_n 0, 1) := by decide +kernel
theorem dX10_startOf_11 : decode cX10_startOf 11 = .ok (.getfield 10, 3) := by decide +kernel
theorem dX10_startOf_14 : decode cX10_startOf 14 = .ok (.iload_n 1, 1) := by decide +kernel
theorem dX10_startOf_15 : decode cX10_startOf 15 = .ok (.invokevirtual 126, 3) := by decide +kernel
theorem dX10_startOf_18 : decode cX10_startOf 18 = .ok (.ireturn, 1) := by decide +kernel
theorem dX10_periodOf_0 : decode cX10_periodOf 0 = .ok (.aload_n 0, 1) := by decide +kernel
theorem dX10_periodOf_1 : decode cX10_periodOf 1 = .ok (.iload_n 1, 1) := by decide +kernel
theorem dX10_periodOf_2 : decode cX10_periodOf 2 = .ok (.invokevirtual 111, 3) := by decide +kernel
theorem dX10_periodOf_5 : decode cX10_periodOf 5 = .ok (.aload_n 0, 1) := by decide +kernel
theorem dX10_periodOf_6 : decode cX10_periodOf 6 = .ok (.getfield 10, 3) := by decide +kernel
theorem dX10_periodOf_9 : decode cX10_periodOf 9 = .ok (.iload_n 1, 1) := by decide +kernel
theorem dX10_periodOf_10 : decode cX10_periodOf 10 = .ok (.invokevirtual 129, 3) := by decide +kernel
theorem dX10_periodOf_13 : decode cX10_periodOf 13 = .ok (.ireturn, 1) := by decide +kernel
theorem dX10_periodByEstimates_0 : decode cX10_periodByEstimates 0 = .ok (.aload_n 0, 1) := by decide +kernel
theorem dX10_periodByEstimates_1 : decode cX10_periodByEstimates 1 = .ok (.iload_n 1, 1) := by decide +kernel
theorem dX10_periodByEstimates_2 : decode cX10_periodByEstimates 2 = .ok (.invokevirtual 111, 3) := by decide +kernel
theorem dX10_periodByEstimates_5 : decode cX10_periodByEstimates 5 = .ok (.aload_n 0, 1) := by decide +kernel
theorem dX10_periodByEstimates_6 : decode cX10_periodByEstimates 6 = .ok (.getfield 10, 3) := by decide +kernel
theorem dX10_periodByEstimates_9 : decode cX10_periodByEstimates 9 = .ok (.iload_n 1, 1) := by decide +kernel
theorem dX10_periodByEstimates_10 : decode cX10_periodByEstimates 10 = .ok (.invokevirtual 114, 3) := by decide +kernel
theorem dX10_periodByEstimates_13 : decode cX10_periodByEstimates 13 = .ok (.invokestatic 132, 3) := by decide +kernel
theorem dX10_periodByEstimates_16 : decode cX10_periodByEstimates 16 = .ok (.invokestatic 135, 3) := by decide +kernel
theorem dX10_periodByEstimates_19 : decode cX10_periodByEstimates 19 = .ok (.ireturn, 1) := by decide +kernel
theorem dX10_swingsOf_0 : decode cX10_swingsOf 0 = .ok (.aload_n 0, 1) := by decide +kernel
theorem dX10_swingsOf_1 : decode cX10_swingsOf 1 = .ok (.iload_n 1, 1) := by decide +kernel
theorem dX10_swingsOf_2 : decode cX10_swingsOf 2 = .ok (.invokevirtual 111, 3) := by decide +kernel
theorem dX10_swingsOf_5 : decode cX10_swingsOf 5 = .ok (.aload_n 0, 1) := by decide +kernel
theorem dX10_swingsOf_6 : decode cX10_swingsOf 6 = .ok (.getfield 10, 3) := by decide +kernel
theorem dX10_swingsOf_9 : decode cX10_swingsOf 9 = .ok (.iload_n 1, 1) := by decide +kernel
theorem dX10_swingsOf_10 : decode cX10_swingsOf 10 = .ok (.invokevirtual 140, 3) := by decide +kernel
theorem dX10_swingsOf_13 : decode cX10_swingsOf 13 = .ok (.ireturn, 1) := by decide +kernel
theorem dX10_clock_0 : decode cX10_clock 0 = .ok (.aload_n 0, 1) := by decide +kernel
theorem dX10_clock_1 : decode cX10_clock 1 = .ok (.getfield 10, 3) := by decide +kernel
theorem dX10_clock_4 : decode cX10_clock 4 = .ok (.getfield 143, 3) := by decide +kernel
theorem dX10_clock_7 : decode cX10_clock 7 = .ok (.ireturn, 1) := by decide +kernel
theorem dX10_friction_0 : decode cX10_friction 0 = .ok (.aload_n 0, 1) := by decide +kernel
theorem dX10_friction_1 : decode cX10_friction 1 = .ok (.getfield 10, 3) := by decide +kernel
theorem dX10_friction_4 : decode cX10_friction 4 = .ok (.getfield 146, 3) := by decide +kernel
theorem dX10_friction_7 : decode cX10_friction 7 = .ok (.ireturn, 1) := by decide +kernel
theorem dX10_recordOf_0 : decode cX10_recordOf 0 = .ok (.aload_n 0, 1) := by decide +kernel
theorem dX10_recordOf_1 : decode cX10_recordOf 1 = .ok (.iload_n 1, 1) := by decide +kernel
theorem dX10_recordOf_2 : decode cX10_recordOf 2 = .ok (.invokevirtual 149, 3) := by decide +kernel
theorem dX10_recordOf_5 : decode cX10_recordOf 5 = .ok (.aload_n 0, 1) := by decide +kernel
theorem dX10_recordOf_6 : decode cX10_recordOf 6 = .ok (.getfield 10, 3) := by decide +kernel
theorem dX10_recordOf_9 : decode cX10_recordOf 9 = .ok (.iload_n 1, 1) := by decide +kernel
theorem dX10_recordOf_10 : decode cX10_recordOf 10 = .ok (.invokevirtual 152, 3) := by decide +kernel
theorem dX10_recordOf_13 : decode cX10_recordOf 13 = .ok (.ireturn, 1) := by decide +kernel
theorem dX10_holderOf_0 : decode cX10_holderOf 0 = .ok (.aload_n 0, 1) := by decide +kernel
theorem dX10_holderOf_1 : decode cX10_holderOf 1 = .ok (.iload_n 1, 1) := by decide +kernel
theorem dX10_holderOf_2 : decode cX10_holderOf 2 = .ok (.invokevirtual 149, 3) := by decide +kernel
theorem dX10_holderOf_5 : decode cX10_holderOf 5 = .ok (.aload_n 0, 1) := by decide +kernel
theorem dX10_holderOf_6 : decode cX10_holderOf 6 = .ok (.getfield 10, 3) := by decide +kernel
theorem dX10_holderOf_9 : decode cX10_holderOf 9 = .ok (.iload_n 1, 1) := by decide +kernel
theorem dX10_holderOf_10 : decode cX10_holderOf 10 = .ok (.invokevirtual 155, 3) := by decide +kernel
theorem dX10_holderOf_13 : decode cX10_holderOf 13 = .ok (.ireturn, 1) := by decide +kernel
theorem dX10_pendulumAtRank_0 : decode cX10_pendulumAtRank 0 = .ok (.aload_n 0, 1) := by decide +kernel
theorem dX10_pendulumAtRank_1 : decode cX10_pendulumAtRank 1 = .ok (.getfield 10, 3) := by decide +kernel
theorem dX10_pendulumAtRank_4 : decode cX10_pendulumAtRank 4 = .ok (.iload_n 1, 1) := by decide +kernel
theorem dX10_pendulumAtRank_5 : decode cX10_pendulumAtRank 5 = .ok (.invokevirtual 158, 3) := by decide +kernel
theorem dX10_pendulumAtRank_8 : decode cX10_pendulumAtRank 8 = .ok (.istore_n 2, 1) := by decide +kernel
theorem dX10_pendulumAtRank_9 : decode cX10_pendulumAtRank 9 = .ok (.iload_n 2, 1) := by decide +kernel
theorem dX10_pendulumAtRank_10 : decode cX10_pendulumAtRank 10 = .ok (.iconst (-1), 1) := by decide +kernel
theorem dX10_pendulumAtRank_11 : decode cX10_pendulumAtRank 11 = .ok (.if_icmp .ne 13, 3) := by decide +kernel
theorem dX10_pendulumAtRank_14 : decode cX10_pendulumAtRank 14 = .ok (.new 161, 3) := by decide +kernel
theorem dX10_pendulumAtRank_17 : decode cX10_pendulumAtRank 17 = .ok (.dup, 1) := by decide +kernel
theorem dX10_pendulumAtRank_18 : decode cX10_pendulumAtRank 18 = .ok (.ldc 163, 2) := by decide +kernel
theorem dX10_pendulumAtRank_20 : decode cX10_pendulumAtRank 20 = .ok (.invokespecial 165, 3) := by decide +kernel
theorem dX10_pendulumAtRank_23 : decode cX10_pendulumAtRank 23 = .ok (.athrow, 1) := by decide +kernel
theorem dX10_pendulumAtRank_24 : decode cX10_pendulumAtRank 24 = .ok (.iload_n 2, 1) := by decide +kernel
theorem dX10_pendulumAtRank_25 : decode cX10_pendulumAtRank 25 = .ok (.ireturn, 1) := by decide +kernel
theorem dX10_swingsToRest_0 : decode cX10_swingsToRest 0 = .ok (.aload_n 0, 1) := by decide +kernel
theorem dX10_swingsToRest_1 : decode cX10_swingsToRest 1 = .ok (.iload_n 1, 1) := by decide +kernel
theorem dX10_swingsToRest_2 : decode cX10_swingsToRest 2 = .ok (.invokevirtual 111, 3) := by decide +kernel
theorem dX10_swingsToRest_5 : decode cX10_swingsToRest 5 = .ok (.aload_n 0, 1) := by decide +kernel
theorem dX10_swingsToRest_6 : decode cX10_swingsToRest 6 = .ok (.getfield 32, 3) := by decide +kernel
theorem dX10_swingsToRest_9 : decode cX10_swingsToRest 9 = .ok (.aload_n 0, 1) := by decide +kernel
theorem dX10_swingsToRest_10 : decode cX10_swingsToRest 10 = .ok (.getfield 10, 3) := by decide +kernel
theorem dX10_swingsToRest_13 : decode cX10_swingsToRest 13 = .ok (.iload_n 1, 1) := by decide +kernel
theorem dX10_swingsToRest_14 : decode cX10_swingsToRest 14 = .ok (.invokevirtual 168, 3) := by decide +kernel
theorem dX10_swingsToRest_17 : decode cX10_swingsToRest 17 = .ok (.ireturn, 1) := by decide +kernel
theorem dX10_swingsToRestByTable_0 : decode cX10_swingsToRestByTable 0 = .ok (.aload_n 0, 1) := by decide +kernel
theorem dX10_swingsToRestByTable_1 : decode cX10_swingsToRestByTable 1 = .ok (.iload_n 1, 1) := by decide +kernel
theorem dX10_swingsToRestByTable_2 : decode cX10_swingsToRestByTable 2 = .ok (.invokevirtual 111, 3) := by decide +kernel
theorem dX10_swingsToRestByTable_5 : decode cX10_swingsToRestByTable 5 = .ok (.aload_n 0, 1) := by decide +kernel
theorem dX10_swingsToRestByTable_6 : decode cX10_swingsToRestByTable 6 = .ok (.getfield 32, 3) := by decide +kernel
theorem dX10_swingsToRestByTable_9 : decode cX10_swingsToRestByTable 9 = .ok (.aload_n 0, 1) := by decide +kernel
theorem dX10_swingsToRestByTable_10 : decode cX10_swingsToRestByTable 10 = .ok (.getfield 10, 3) := by decide +kernel
theorem dX10_swingsToRestByTable_13 : decode cX10_swingsToRestByTable 13 = .ok (.iload_n 1, 1) := by decide +kernel
theorem dX10_swingsToRestByTable_14 : decode cX10_swingsToRestByTable 14 = .ok (.invokevirtual 172, 3) := by decide +kernel
theorem dX10_swingsToRestByTable_17 : decode cX10_swingsToRestByTable 17 = .ok (.ireturn, 1) := by decide +kernel
theorem dX10_restTick_0 : decode cX10_restTick 0 = .ok (.aload_n 0, 1) := by decide +kernel
theorem dX10_restTick_1 : decode cX10_restTick 1 = .ok (.iload_n 1, 1) := by decide +kernel
theorem dX10_restTick_2 : decode cX10_restTick 2 = .ok (.invokevirtual 111, 3) := by decide +kernel
theorem dX10_restTick_5 : decode cX10_restTick 5 = .ok (.aload_n 0, 1) := by decide +kernel
theorem dX10_restTick_6 : decode cX10_restTick 6 = .ok (.iload_n 1, 1) := by decide +kernel
theorem dX10_restTick_7 : decode cX10_restTick 7 = .ok (.invokevirtual 123, 3) := by decide +kernel
theorem dX10_restTick_10 : decode cX10_restTick 10 = .ok (.aload_n 0, 1) := by decide +kernel
theorem dX10_restTick_11 : decode cX10_restTick 11 = .ok (.getfield 32, 3) := by decide +kernel
theorem dX10_restTick_14 : decode cX10_restTick 14 = .ok (.aload_n 0, 1) := by decide +kernel
theorem dX10_restTick_15 : decode cX10_restTick 15 = .ok (.getfield 10, 3) := by decide +kernel
theorem dX10_restTick_18 : decode cX10_restTick 18 = .ok (.iload_n 1, 1) := by decide +kernel
theorem dX10_restTick_19 : decode cX10_restTick 19 = .ok (.invokevirtual 175, 3) := by decide +kernel
theorem dX10_restTick_22 : decode cX10_restTick 22 = .ok (.ireturn, 1) := by decide +kernel
theorem dX10_amplitudeAfter_0 : decode cX10_amplitudeAfter 0 = .ok (.aload_n 0, 1) := by decide +kernel
theorem dX10_amplitudeAfter_1 : decode cX10_amplitudeAfter 1 = .ok (.iload_n 1, 1) := by decide +kernel
theorem dX10_amplitudeAfter_2 : decode cX10_amplitudeAfter 2 = .ok (.invokevirtual 111, 3) := by decide +kernel
theorem dX10_amplitudeAfter_5 : decode cX10_amplitudeAfter 5 = .ok (.iload_n 2, 1) := by decide +kernel
theorem dX10_amplitudeAfter_6 : decode cX10_amplitudeAfter 6 = .ok (.ifCond .lt 10, 3) := by decide +kernel
theorem dX10_amplitudeAfter_9 : decode cX10_amplitudeAfter 9 = .ok (.iload_n 2, 1) := by decide +kernel
theorem dX10_amplitudeAfter_10 : decode cX10_amplitudeAfter 10 = .ok (.sipush 500, 3) := by decide +kernel
theorem dX10_amplitudeAfter_13 : decode cX10_amplitudeAfter 13 = .ok (.if_icmp .le 13, 3) := by decide +kernel
theorem dX10_amplitudeAfter_16 : decode cX10_amplitudeAfter 16 = .ok (.new 178, 3) := by decide +kernel
theorem dX10_amplitudeAfter_19 : decode cX10_amplitudeAfter 19 = .ok (.dup, 1) := by decide +kernel
theorem dX10_amplitudeAfter_20 : decode cX10_amplitudeAfter 20 = .ok (.ldc 180, 2) := by decide +kernel
theorem dX10_amplitudeAfter_22 : decode cX10_amplitudeAfter 22 = .ok (.invokespecial 182, 3) := by decide +kernel
theorem dX10_amplitudeAfter_25 : decode cX10_amplitudeAfter 25 = .ok (.athrow, 1) := by decide +kernel
theorem dX10_amplitudeAfter_26 : decode cX10_amplitudeAfter 26 = .ok (.aload_n 0, 1) := by decide +kernel
theorem dX10_amplitudeAfter_27 : decode cX10_amplitudeAfter 27 = .ok (.getfield 32, 3) := by decide +kernel
theorem dX10_amplitudeAfter_30 : decode cX10_amplitudeAfter 30 = .ok (.aload_n 0, 1) := by decide +kernel
theorem dX10_amplitudeAfter_31 : decode cX10_amplitudeAfter 31 = .ok (.getfield 10, 3) := by decide +kernel
theorem dX10_amplitudeAfter_34 : decode cX10_amplitudeAfter 34 = .ok (.iload_n 1, 1) := by decide +kernel
theorem dX10_amplitudeAfter_35 : decode cX10_amplitudeAfter 35 = .ok (.iload_n 2, 1) := by decide +kernel
theorem dX10_amplitudeAfter_36 : decode cX10_amplitudeAfter 36 = .ok (.invokevirtual 183, 3) := by decide +kernel
theorem dX10_amplitudeAfter_39 : decode cX10_amplitudeAfter 39 = .ok (.ireturn, 1) := by decide +kernel
theorem dX10_meeting_0 : decode cX10_meeting 0 = .ok (.aload_n 0, 1) := by decide +kernel
theorem dX10_meeting_1 : decode cX10_meeting 1 = .ok (.iload_n 1, 1) := by decide +kernel
theorem dX10_meeting_2 : decode cX10_meeting 2 = .ok (.iload_n 2, 1) := by decide +kernel
theorem dX10_meeting_3 : decode cX10_meeting 3 = .ok (.invokevirtual 187, 3) := by decide +kernel
theorem dX10_meeting_6 : decode cX10_meeting 6 = .ok (.aload_n 0, 1) := by decide +kernel
theorem dX10_meeting_7 : decode cX10_meeting 7 = .ok (.getfield 10, 3) := by decide +kernel
theorem dX10_meeting_10 : decode cX10_meeting 10 = .ok (.iload_n 1, 1) := by decide +kernel
theorem dX10_meeting_11 : decode cX10_meeting 11 = .ok (.iload_n 2, 1) := by decide +kernel
theorem dX10_meeting_12 : decode cX10_meeting 12 = .ok (.invokestatic 191, 3) := by decide +kernel
theorem dX10_meeting_15 : decode cX10_meeting 15 = .ok (.invokestatic 196, 3) := by decide +kernel
theorem dX10_meeting_18 : decode cX10_meeting 18 = .ok (.ireturn, 1) := by decide +kernel
theorem dX10_meetingByDivisors_0 : decode cX10_meetingByDivisors 0 = .ok (.aload_n 0, 1) := by decide +kernel
theorem dX10_meetingByDivisors_1 : decode cX10_meetingByDivisors 1 = .ok (.iload_n 1, 1) := by decide +kernel
theorem dX10_meetingByDivisors_2 : decode cX10_meetingByDivisors 2 = .ok (.iload_n 2, 1) := by decide +kernel
theorem dX10_meetingByDivisors_3 : decode cX10_meetingByDivisors 3 = .ok (.invokevirtual 187, 3) := by decide +kernel
theorem dX10_meetingByDivisors_6 : decode cX10_meetingByDivisors 6 = .ok (.aload_n 0, 1) := by decide +kernel
theorem dX10_meetingByDivisors_7 : decode cX10_meetingByDivisors 7 = .ok (.getfield 10, 3) := by decide +kernel
theorem dX10_meetingByDivisors_10 : decode cX10_meetingByDivisors 10 = .ok (.iload_n 1, 1) := by decide +kernel
theorem dX10_meetingByDivisors_11 : decode cX10_meetingByDivisors 11 = .ok (.iload_n 2, 1) := by decide +kernel
theorem dX10_meetingByDivisors_12 : decode cX10_meetingByDivisors 12 = .ok (.invokestatic 199, 3) := by decide +kernel
theorem dX10_meetingByDivisors_15 : decode cX10_meetingByDivisors 15 = .ok (.invokestatic 196, 3) := by decide +kernel
theorem dX10_meetingByDivisors_18 : decode cX10_meetingByDivisors 18 = .ok (.ireturn, 1) := by decide +kernel
theorem dX10_meetingPairs_0 : decode cX10_meetingPairs 0 = .ok (.aload_n 0, 1) := by decide +kernel
theorem dX10_meetingPairs_1 : decode cX10_meetingPairs 1 = .ok (.getfield 10, 3) := by decide +kernel
theorem dX10_meetingPairs_4 : decode cX10_meetingPairs 4 = .ok (.invokestatic 202, 3) := by decide +kernel
theorem dX10_meetingPairs_7 : decode cX10_meetingPairs 7 = .ok (.ireturn, 1) := by decide +kernel
theorem dX10_cycleOf_0 : decode cX10_cycleOf 0 = .ok (.aload_n 0, 1) := by decide +kernel
theorem dX10_cycleOf_1 : decode cX10_cycleOf 1 = .ok (.iload_n 1, 1) := by decide +kernel
theorem dX10_cycleOf_2 : decode cX10_cycleOf 2 = .ok (.invokevirtual 111, 3) := by decide +kernel
theorem dX10_cycleOf_5 : decode cX10_cycleOf 5 = .ok (.aload_n 0, 1) := by decide +kernel
theorem dX10_cycleOf_6 : decode cX10_cycleOf 6 = .ok (.iload_n 2, 1) := by decide +kernel
theorem dX10_cycleOf_7 : decode cX10_cycleOf 7 = .ok (.invokevirtual 111, 3) := by decide +kernel
theorem dX10_cycleOf_10 : decode cX10_cycleOf 10 = .ok (.aload_n 0, 1) := by decide +kernel
theorem dX10_cycleOf_11 : decode cX10_cycleOf 11 = .ok (.getfield 10, 3) := by decide +kernel
theorem dX10_cycleOf_14 : decode cX10_cycleOf 14 = .ok (.iload_n 1, 1) := by decide +kernel
theorem dX10_cycleOf_15 : decode cX10_cycleOf 15 = .ok (.invokevirtual 129, 3) := by decide +kernel
theorem dX10_cycleOf_18 : decode cX10_cycleOf 18 = .ok (.aload_n 0, 1) := by decide +kernel
theorem dX10_cycleOf_19 : decode cX10_cycleOf 19 = .ok (.getfield 10, 3) := by decide +kernel
theorem dX10_cycleOf_22 : decode cX10_cycleOf 22 = .ok (.iload_n 2, 1) := by decide +kernel
theorem dX10_cycleOf_23 : decode cX10_cycleOf 23 = .ok (.invokevirtual 129, 3) := by decide +kernel
theorem dX10_cycleOf_26 : decode cX10_cycleOf 26 = .ok (.invokestatic 206, 3) := by decide +kernel
theorem dX10_cycleOf_29 : decode cX10_cycleOf 29 = .ok (.ireturn, 1) := by decide +kernel
theorem dX10_addLeg_0 : decode cX10_addLeg 0 = .ok (.aload_n 0, 1) := by decide +kernel
theorem dX10_addLeg_1 : decode cX10_addLeg 1 = .ok (.getfield 10, 3) := by decide +kernel
theorem dX10_addLeg_4 : decode cX10_addLeg 4 = .ok (.iload_n 1, 1) := by decide +kernel
theorem dX10_addLeg_5 : decode cX10_addLeg 5 = .ok (.invokevirtual 209, 3) := by decide +kernel
theorem dX10_addLeg_8 : decode cX10_addLeg 8 = .ok (.invokestatic 72, 3) := by decide +kernel
theorem dX10_addLeg_11 : decode cX10_addLeg 11 = .ok (.aload_n 0, 1) := by decide +kernel
theorem dX10_addLeg_12 : decode cX10_addLeg 12 = .ok (.getfield 25, 3) := by decide +kernel
theorem dX10_addLeg_15 : decode cX10_addLeg 15 = .ok (.aload_n 0, 1) := by decide +kernel
theorem dX10_addLeg_16 : decode cX10_addLeg 16 = .ok (.getfield 10, 3) := by decide +kernel
theorem dX10_addLeg_19 : decode cX10_addLeg 19 = .ok (.invokevirtual 76, 3) := by decide +kernel
theorem dX10_addLeg_22 : decode cX10_addLeg 22 = .ok (.aload_n 0, 1) := by decide +kernel
theorem dX10_addLeg_23 : decode cX10_addLeg 23 = .ok (.getfield 10, 3) := by decide +kernel
theorem dX10_addLeg_26 : decode cX10_addLeg 26 = .ok (.iload_n 1, 1) := by decide +kernel
theorem dX10_addLeg_27 : decode cX10_addLeg 27 = .ok (.invokevirtual 212, 3) := by decide +kernel
theorem dX10_addLeg_30 : decode cX10_addLeg 30 = .ok (.ireturn, 1) := by decide +kernel
theorem dX10_removeLeg_0 : decode cX10_removeLeg 0 = .ok (.aload_n 0, 1) := by decide +kernel
theorem dX10_removeLeg_1 : decode cX10_removeLeg 1 = .ok (.getfield 10, 3) := by decide +kernel
theorem dX10_removeLeg_4 : decode cX10_removeLeg 4 = .ok (.iload_n 1, 1) := by decide +kernel
theorem dX10_removeLeg_5 : decode cX10_removeLeg 5 = .ok (.invokevirtual 215, 3) := by decide +kernel
theorem dX10_removeLeg_8 : decode cX10_removeLeg 8 = .ok (.invokestatic 72, 3) := by decide +kernel
theorem dX10_removeLeg_11 : decode cX10_removeLeg 11 = .ok (.aload_n 0, 1) := by decide +kernel
theorem dX10_removeLeg_12 : decode cX10_removeLeg 12 = .ok (.getfield 25, 3) := by decide +kernel
theorem dX10_removeLeg_15 : decode cX10_removeLeg 15 = .ok (.aload_n 0, 1) := by decide +kernel
theorem dX10_removeLeg_16 : decode cX10_removeLeg 16 = .ok (.getfield 10, 3) := by decide +kernel
theorem dX10_removeLeg_19 : decode cX10_removeLeg 19 = .ok (.invokevirtual 76, 3) := by decide +kernel
theorem dX10_removeLeg_22 : decode cX10_removeLeg 22 = .ok (.aload_n 0, 1) := by decide +kernel
theorem dX10_removeLeg_23 : decode cX10_removeLeg 23 = .ok (.getfield 10, 3) := by decide +kernel
theorem dX10_removeLeg_26 : decode cX10_removeLeg 26 = .ok (.iload_n 1, 1) := by decide +kernel
theorem dX10_removeLeg_27 : decode cX10_removeLeg 27 = .ok (.invokevirtual 218, 3) := by decide +kernel
theorem dX10_removeLeg_30 : decode cX10_removeLeg 30 = .ok (.ireturn, 1) := by decide +kernel
theorem dX10_legCount_0 : decode cX10_legCount 0 = .ok (.aload_n 0, 1) := by decide +kernel
theorem dX10_legCount_1 : decode cX10_legCount 1 = .ok (.getfield 10, 3) := by decide +kernel
theorem dX10_legCount_4 : decode cX10_legCount 4 = .ok (.getfield 221, 3) := by decide +kernel
theorem dX10_legCount_7 : decode cX10_legCount 7 = .ok (.ireturn, 1) := by decide +kernel
theorem dX10_wishOf_0 : decode cX10_wishOf 0 = .ok (.aload_n 0, 1) := by decide +kernel
theorem dX10_wishOf_1 : decode cX10_wishOf 1 = .ok (.iload_n 1, 1) := by decide +kernel
theorem dX10_wishOf_2 : decode cX10_wishOf 2 = .ok (.invokevirtual 224, 3) := by decide +kernel
theorem dX10_wishOf_5 : decode cX10_wishOf 5 = .ok (.aload_n 0, 1) := by decide +kernel
theorem dX10_wishOf_6 : decode cX10_wishOf 6 = .ok (.getfield 10, 3) := by decide +kernel
theorem dX10_wishOf_9 : decode cX10_wishOf 9 = .ok (.iload_n 1, 1) := by decide +kernel
theorem dX10_wishOf_10 : decode cX10_wishOf 10 = .ok (.invokevirtual 227, 3) := by decide +kernel
theorem dX10_wishOf_13 : decode cX10_wishOf 13 = .ok (.ireturn, 1) := by decide +kernel
theorem dX10_leastRelay_0 : decode cX10_leastRelay 0 = .ok (.aload_n 0, 1) := by decide +kernel
theorem dX10_leastRelay_1 : decode cX10_leastRelay 1 = .ok (.invokevirtual 230, 3) := by decide +kernel
theorem dX10_leastRelay_4 : decode cX10_leastRelay 4 = .ok (.aload_n 0, 1) := by decide +kernel
theorem dX10_leastRelay_5 : decode cX10_leastRelay 5 = .ok (.getfield 39, 3) := by decide +kernel
theorem dX10_leastRelay_8 : decode cX10_leastRelay 8 = .ok (.aload_n 0, 1) := by decide +kernel
theorem dX10_leastRelay_9 : decode cX10_leastRelay 9 = .ok (.getfield 10, 3) := by decide +kernel
theorem dX10_leastRelay_12 : decode cX10_leastRelay 12 = .ok (.invokevirtual 233, 3) := by decide +kernel
theorem dX10_leastRelay_15 : decode cX10_leastRelay 15 = .ok (.ireturn, 1) := by decide +kernel
theorem dX10_leastRelayByTrying_0 : decode cX10_leastRelayByTrying 0 = .ok (.aload_n 0, 1) := by decide +kernel
theorem dX10_leastRelayByTrying_1 : decode cX10_leastRelayByTrying 1 = .ok (.invokevirtual 230, 3) := by decide +kernel
theorem dX10_leastRelayByTrying_4 : decode cX10_leastRelayByTrying 4 = .ok (.aload_n 0, 1) := by decide +kernel
theorem dX10_leastRelayByTrying_5 : decode cX10_leastRelayByTrying 5 = .ok (.getfield 10, 3) := by decide +kernel
theorem dX10_leastRelayByTrying_8 : decode cX10_leastRelayByTrying 8 = .ok (.iconst 0, 1) := by decide +kernel
theorem dX10_leastRelayByTrying_9 : decode cX10_leastRelayByTrying 9 = .ok (.iconst 0, 1) := by decide +kernel
theorem dX10_leastRelayByTrying_10 : decode cX10_leastRelayByTrying 10 = .ok (.iconst 0, 1) := by decide +kernel
theorem dX10_leastRelayByTrying_11 : decode cX10_leastRelayByTrying 11 = .ok (.ldc 236, 2) := by decide +kernel
theorem dX10_leastRelayByTrying_13 : decode cX10_leastRelayByTrying 13 = .ok (.invokestatic 237, 3) := by decide +kernel
theorem dX10_leastRelayByTrying_16 : decode cX10_leastRelayByTrying 16 = .ok (.ireturn, 1) := by decide +kernel
theorem dX10_runnerOf_0 : decode cX10_runnerOf 0 = .ok (.aload_n 0, 1) := by decide +kernel
theorem dX10_runnerOf_1 : decode cX10_runnerOf 1 = .ok (.iload_n 1, 1) := by decide +kernel
theorem dX10_runnerOf_2 : decode cX10_runnerOf 2 = .ok (.invokevirtual 224, 3) := by decide +kernel
theorem dX10_runnerOf_5 : decode cX10_runnerOf 5 = .ok (.aload_n 0, 1) := by decide +kernel
theorem dX10_runnerOf_6 : decode cX10_runnerOf 6 = .ok (.invokevirtual 230, 3) := by decide +kernel
theorem dX10_runnerOf_9 : decode cX10_runnerOf 9 = .ok (.aload_n 0, 1) := by decide +kernel
theorem dX10_runnerOf_10 : decode cX10_runnerOf 10 = .ok (.getfield 39, 3) := by decide +kernel
theorem dX10_runnerOf_13 : decode cX10_runnerOf 13 = .ok (.aload_n 0, 1) := by decide +kernel
theorem dX10_runnerOf_14 : decode cX10_runnerOf 14 = .ok (.getfield 10, 3) := by decide +kernel
theorem dX10_runnerOf_17 : decode cX10_runnerOf 17 = .ok (.iload_n 1, 1) := by decide +kernel
theorem dX10_runnerOf_18 : decode cX10_runnerOf 18 = .ok (.invokevirtual 241, 3) := by decide +kernel
theorem dX10_runnerOf_21 : decode cX10_runnerOf 21 = .ok (.ireturn, 1) := by decide +kernel
theorem dX10_fewestFor_0 : decode cX10_fewestFor 0 = .ok (.iload_n 1, 1) := by decide +kernel
theorem dX10_fewestFor_1 : decode cX10_fewestFor 1 = .ok (.iconst 1, 1) := by decide +kernel
theorem dX10_fewestFor_2 : decode cX10_fewestFor 2 = .ok (.invokestatic 244, 3) := by decide +kernel
theorem dX10_fewestFor_5 : decode cX10_fewestFor 5 = .ok (.aload_n 0, 1) := by decide +kernel
theorem dX10_fewestFor_6 : decode cX10_fewestFor 6 = .ok (.getfield 10, 3) := by decide +kernel
theorem dX10_fewestFor_9 : decode cX10_fewestFor 9 = .ok (.iload_n 1, 1) := by decide +kernel
theorem dX10_fewestFor_10 : decode cX10_fewestFor 10 = .ok (.invokestatic 247, 3) := by decide +kernel
theorem dX10_fewestFor_13 : decode cX10_fewestFor 13 = .ok (.invokestatic 252, 3) := by decide +kernel
theorem dX10_fewestFor_16 : decode cX10_fewestFor 16 = .ok (.ireturn, 1) := by decide +kernel
theorem dX10_fewestForBySets_0 : decode cX10_fewestForBySets 0 = .ok (.iload_n 1, 1) := by decide +kernel
theorem dX10_fewestForBySets_1 : decode cX10_fewestForBySets 1 = .ok (.iconst 1, 1) := by decide +kernel
theorem dX10_fewestForBySets_2 : decode cX10_fewestForBySets 2 = .ok (.invokestatic 244, 3) := by decide +kernel
theorem dX10_fewestForBySets_5 : decode cX10_fewestForBySets 5 = .ok (.aload_n 0, 1) := by decide +kernel
theorem dX10_fewestForBySets_6 : decode cX10_fewestForBySets 6 = .ok (.getfield 10, 3) := by decide +kernel
theorem dX10_fewestForBySets_9 : decode cX10_fewestForBySets 9 = .ok (.iload_n 1, 1) := by decide +kernel
theorem dX10_fewestForBySets_10 : decode cX10_fewestForBySets 10 = .ok (.invokestatic 255, 3) := by decide +kernel
theorem dX10_fewestForBySets_13 : decode cX10_fewestForBySets 13 = .ok (.invokestatic 252, 3) := by decide +kernel
theorem dX10_fewestForBySets_16 : decode cX10_fewestForBySets 16 = .ok (.ireturn, 1) := by decide +kernel
theorem dX10_exactSets_0 : decode cX10_exactSets 0 = .ok (.iload_n 1, 1) := by decide +kernel
theorem dX10_exactSets_1 : decode cX10_exactSets 1 = .ok (.iconst 0, 1) := by decide +kernel
theorem dX10_exactSets_2 : decode cX10_exactSets 2 = .ok (.invokestatic 244, 3) := by decide +kernel
theorem dX10_exactSets_5 : decode cX10_exactSets 5 = .ok (.aload_n 0, 1) := by decide +kernel
theorem dX10_exactSets_6 : decode cX10_exactSets 6 = .ok (.getfield 10, 3) := by decide +kernel
theorem dX10_exactSets_9 : decode cX10_exactSets 9 = .ok (.iload_n 1, 1) := by decide +kernel
theorem dX10_exactSets_10 : decode cX10_exactSets 10 = .ok (.invokestatic 258, 3) := by decide +kernel
theorem dX10_exactSets_13 : decode cX10_exactSets 13 = .ok (.ireturn, 1) := by decide +kernel
theorem dX10_meanAmplitude_0 : decode cX10_meanAmplitude 0 = .ok (.aload_n 0, 1) := by decide +kernel
theorem dX10_meanAmplitude_1 : decode cX10_meanAmplitude 1 = .ok (.getfield 10, 3) := by decide +kernel
theorem dX10_meanAmplitude_4 : decode cX10_meanAmplitude 4 = .ok (.invokevirtual 261, 3) := by decide +kernel
theorem dX10_meanAmplitude_7 : decode cX10_meanAmplitude 7 = .ok (.istore_n 1, 1) := by decide +kernel
theorem dX10_meanAmplitude_8 : decode cX10_meanAmplitude 8 = .ok (.iload_n 1, 1) := by decide +kernel
theorem dX10_meanAmplitude_9 : decode cX10_meanAmplitude 9 = .ok (.ifCond .ne 14, 3) := by decide +kernel
theorem dX10_meanAmplitude_12 : decode cX10_meanAmplitude 12 = .ok (.new 265, 3) := by decide +kernel
theorem dX10_meanAmplitude_15 : decode cX10_meanAmplitude 15 = .ok (.dup, 1) := by decide +kernel
theorem dX10_meanAmplitude_16 : decode cX10_meanAmplitude 16 = .ok (.ldc_w 267, 3) := by decide +kernel
theorem dX10_meanAmplitude_19 : decode cX10_meanAmplitude 19 = .ok (.invokespecial 269, 3) := by decide +kernel
theorem dX10_meanAmplitude_22 : decode cX10_meanAmplitude 22 = .ok (.athrow, 1) := by decide +kernel
theorem dX10_meanAmplitude_23 : decode cX10_meanAmplitude 23 = .ok (.aload_n 0, 1) := by decide +kernel
theorem dX10_meanAmplitude_24 : decode cX10_meanAmplitude 24 = .ok (.getfield 10, 3) := by decide +kernel
theorem dX10_meanAmplitude_27 : decode cX10_meanAmplitude 27 = .ok (.invokevirtual 270, 3) := by decide +kernel
theorem dX10_meanAmplitude_30 : decode cX10_meanAmplitude 30 = .ok (.i2d, 1) := by decide +kernel
theorem dX10_meanAmplitude_31 : decode cX10_meanAmplitude 31 = .ok (.iload_n 1, 1) := by decide +kernel
theorem dX10_meanAmplitude_32 : decode cX10_meanAmplitude 32 = .ok (.i2d, 1) := by decide +kernel
theorem dX10_meanAmplitude_33 : decode cX10_meanAmplitude 33 = .ok (.ddiv, 1) := by decide +kernel
theorem dX10_meanAmplitude_34 : decode cX10_meanAmplitude 34 = .ok (.dreturn, 1) := by decide +kernel
theorem dX10_writeCard_0 : decode cX10_writeCard 0 = .ok (.aload_n 0, 1) := by decide +kernel
theorem dX10_writeCard_1 : decode cX10_writeCard 1 = .ok (.iload_n 1, 1) := by decide +kernel
theorem dX10_writeCard_2 : decode cX10_writeCard 2 = .ok (.invokevirtual 111, 3) := by decide +kernel
theorem dX10_writeCard_5 : decode cX10_writeCard 5 = .ok (.aload_n 0, 1) := by decide +kernel
theorem dX10_writeCard_6 : decode cX10_writeCard 6 = .ok (.getfield 53, 3) := by decide +kernel
theorem dX10_writeCard_9 : decode cX10_writeCard 9 = .ok (.iconst 0, 1) := by decide +kernel
theorem dX10_writeCard_10 : decode cX10_writeCard 10 = .ok (.invokevirtual 273, 3) := by decide +kernel
theorem dX10_writeCard_13 : decode cX10_writeCard 13 = .ok (.aload_n 0, 1) := by decide +kernel
theorem dX10_writeCard_14 : decode cX10_writeCard 14 = .ok (.getfield 53, 3) := by decide +kernel
theorem dX10_writeCard_17 : decode cX10_writeCard 17 = .ok (.iload_n 1, 1) := by decide +kernel
theorem dX10_writeCard_18 : decode cX10_writeCard 18 = .ok (.invokevirtual 276, 3) := by decide +kernel
theorem dX10_writeCard_21 : decode cX10_writeCard 21 = .ok (.pop, 1) := by decide +kernel
theorem dX10_writeCard_22 : decode cX10_writeCard 22 = .ok (.aload_n 0, 1) := by decide +kernel
theorem dX10_writeCard_23 : decode cX10_writeCard 23 = .ok (.getfield 53, 3) := by decide +kernel
theorem dX10_writeCard_26 : decode cX10_writeCard 26 = .ok (.bipush 58, 2) := by decide +kernel
theorem dX10_writeCard_28 : decode cX10_writeCard 28 = .ok (.invokevirtual 280, 3) := by decide +kernel
theorem dX10_writeCard_31 : decode cX10_writeCard 31 = .ok (.pop, 1) := by decide +kernel
theorem dX10_writeCard_32 : decode cX10_writeCard 32 = .ok (.aload_n 0, 1) := by decide +kernel
theorem dX10_writeCard_33 : decode cX10_writeCard 33 = .ok (.getfield 53, 3) := by decide +kernel
theorem dX10_writeCard_36 : decode cX10_writeCard 36 = .ok (.aload_n 0, 1) := by decide +kernel
theorem dX10_writeCard_37 : decode cX10_writeCard 37 = .ok (.getfield 10, 3) := by decide +kernel
theorem dX10_writeCard_40 : decode cX10_writeCard 40 = .ok (.iload_n 1, 1) := by decide +kernel
theorem dX10_writeCard_41 : decode cX10_writeCard 41 = .ok (.invokevirtual 114, 3) := by decide +kernel
theorem dX10_writeCard_44 : decode cX10_writeCard 44 = .ok (.invokevirtual 276, 3) := by decide +kernel
theorem dX10_writeCard_47 : decode cX10_writeCard 47 = .ok (.pop, 1) := by decide +kernel
theorem dX10_writeCard_48 : decode cX10_writeCard 48 = .ok (.aload_n 0, 1) := by decide +kernel
theorem dX10_writeCard_49 : decode cX10_writeCard 49 = .ok (.getfield 53, 3) := by decide +kernel
theorem dX10_writeCard_52 : decode cX10_writeCard 52 = .ok (.ldc_w 283, 3) := by decide +kernel
theorem dX10_writeCard_55 : decode cX10_writeCard 55 = .ok (.invokevirtual 285, 3) := by decide +kernel
theorem dX10_writeCard_58 : decode cX10_writeCard 58 = .ok (.pop, 1) := by decide +kernel
theorem dX10_writeCard_59 : decode cX10_writeCard 59 = .ok (.aload_n 0, 1) := by decide +kernel
theorem dX10_writeCard_60 : decode cX10_writeCard 60 = .ok (.getfield 10, 3) := by decide +kernel
theorem dX10_writeCard_63 : decode cX10_writeCard 63 = .ok (.iload_n 1, 1) := by decide +kernel
theorem dX10_writeCard_64 : decode cX10_writeCard 64 = .ok (.invokevirtual 288, 3) := by decide +kernel
theorem dX10_writeCard_67 : decode cX10_writeCard 67 = .ok (.ifCond .eq 48, 3) := by decide +kernel
theorem dX10_writeCard_70 : decode cX10_writeCard 70 = .ok (.aload_n 0, 1) := by decide +kernel
theorem dX10_writeCard_71 : decode cX10_writeCard 71 = .ok (.getfield 53, 3) := by decide +kernel
theorem dX10_writeCard_74 : decode cX10_writeCard 74 = .ok (.aload_n 0, 1) := by decide +kernel
theorem dX10_writeCard_75 : decode cX10_writeCard 75 = .ok (.getfield 10, 3) := by decide +kernel
theorem dX10_writeCard_78 : decode cX10_writeCard 78 = .ok (.iload_n 1, 1) := by decide +kernel
theorem dX10_writeCard_79 : decode cX10_writeCard 79 = .ok (.invokevirtual 120, 3) := by decide +kernel
theorem dX10_writeCard_82 : decode cX10_writeCard 82 = .ok (.invokevirtual 276, 3) := by decide +kernel
theorem dX10_writeCard_85 : decode cX10_writeCard 85 = .ok (.pop, 1) := by decide +kernel
theorem dX10_writeCard_86 : decode cX10_writeCard 86 = .ok (.aload_n 0, 1) := by decide +kernel
theorem dX10_writeCard_87 : decode cX10_writeCard 87 = .ok (.getfield 53, 3) := by decide +kernel
theorem dX10_writeCard_90 : decode cX10_writeCard 90 = .ok (.bipush 64, 2) := by decide +kernel
theorem dX10_writeCard_92 : decode cX10_writeCard 92 = .ok (.invokevirtual 280, 3) := by decide +kernel
theorem dX10_writeCard_95 : decode cX10_writeCard 95 = .ok (.pop, 1) := by decide +kernel
theorem dX10_writeCard_96 : decode cX10_writeCard 96 = .ok (.aload_n 0, 1) := by decide +kernel
theorem dX10_writeCard_97 : decode cX10_writeCard 97 = .ok (.getfield 53, 3) := by decide +kernel
theorem dX10_writeCard_100 : decode cX10_writeCard 100 = .ok (.aload_n 0, 1) := by decide +kernel
theorem dX10_writeCard_101 : decode cX10_writeCard 101 = .ok (.getfield 10, 3) := by decide +kernel
theorem dX10_writeCard_104 : decode cX10_writeCard 104 = .ok (.iload_n 1, 1) := by decide +kernel
theorem dX10_writeCard_105 : decode cX10_writeCard 105 = .ok (.invokevirtual 126, 3) := by decide +kernel
theorem dX10_writeCard_108 : decode cX10_writeCard 108 = .ok (.invokevirtual 276, 3) := by decide +kernel
theorem dX10_writeCard_111 : decode cX10_writeCard 111 = .ok (.pop, 1) := by decide +kernel
theorem dX10_writeCard_112 : decode cX10_writeCard 112 = .ok (.goto 14, 3) := by decide +kernel
theorem dX10_writeCard_115 : decode cX10_writeCard 115 = .ok (.aload_n 0, 1) := by decide +kernel
theorem dX10_writeCard_116 : decode cX10_writeCard 116 = .ok (.getfield 53, 3) := by decide +kernel
theorem dX10_writeCard_119 : decode cX10_writeCard 119 = .ok (.ldc_w 292, 3) := by decide +kernel
theorem dX10_writeCard_122 : decode cX10_writeCard 122 = .ok (.invokevirtual 285, 3) := by decide +kernel
theorem dX10_writeCard_125 : decode cX10_writeCard 125 = .ok (.pop, 1) := by decide +kernel
theorem dX10_writeCard_126 : decode cX10_writeCard 126 = .ok (.aload_n 0, 1) := by decide +kernel
theorem dX10_writeCard_127 : decode cX10_writeCard 127 = .ok (.getfield 10, 3) := by decide +kernel
theorem dX10_writeCard_130 : decode cX10_writeCard 130 = .ok (.iload_n 1, 1) := by decide +kernel
theorem dX10_writeCard_131 : decode cX10_writeCard 131 = .ok (.invokevirtual 294, 3) := by decide +kernel
theorem dX10_writeCard_134 : decode cX10_writeCard 134 = .ok (.ifCond .eq 13, 3) := by decide +kernel
theorem dX10_writeCard_137 : decode cX10_writeCard 137 = .ok (.aload_n 0, 1) := by decide +kernel
theorem dX10_writeCard_138 : decode cX10_writeCard 138 = .ok (.getfield 53, 3) := by decide +kernel
theorem dX10_writeCard_141 : decode cX10_writeCard 141 = .ok (.bipush 42, 2) := by decide +kernel
theorem dX10_writeCard_143 : decode cX10_writeCard 143 = .ok (.invokevirtual 280, 3) := by decide +kernel
theorem dX10_writeCard_146 : decode cX10_writeCard 146 = .ok (.pop, 1) := by decide +kernel
theorem dX10_writeCard_147 : decode cX10_writeCard 147 = .ok (.aload_n 0, 1) := by decide +kernel
theorem dX10_writeCard_148 : decode cX10_writeCard 148 = .ok (.getfield 53, 3) := by decide +kernel
theorem dX10_writeCard_151 : decode cX10_writeCard 151 = .ok (.invokevirtual 297, 3) := by decide +kernel
theorem dX10_writeCard_154 : decode cX10_writeCard 154 = .ok (.ireturn, 1) := by decide +kernel
theorem dX10_cardAt_0 : decode cX10_cardAt 0 = .ok (.iload_n 1, 1) := by decide +kernel
theorem dX10_cardAt_1 : decode cX10_cardAt 1 = .ok (.ifCond .lt 14, 3) := by decide +kernel
theorem dX10_cardAt_4 : decode cX10_cardAt 4 = .ok (.iload_n 1, 1) := by decide +kernel
theorem dX10_cardAt_5 : decode cX10_cardAt 5 = .ok (.aload_n 0, 1) := by decide +kernel
theorem dX10_cardAt_6 : decode cX10_cardAt 6 = .ok (.getfield 53, 3) := by decide +kernel
theorem dX10_cardAt_9 : decode cX10_cardAt 9 = .ok (.invokevirtual 297, 3) := by decide +kernel
theorem dX10_cardAt_12 : decode cX10_cardAt 12 = .ok (.if_icmp .lt 14, 3) := by decide +kernel
theorem dX10_cardAt_15 : decode cX10_cardAt 15 = .ok (.new 300, 3) := by decide +kernel
theorem dX10_cardAt_18 : decode cX10_cardAt 18 = .ok (.dup, 1) := by decide +kernel
theorem dX10_cardAt_19 : decode cX10_cardAt 19 = .ok (.ldc_w 302, 3) := by decide +kernel
theorem dX10_cardAt_22 : decode cX10_cardAt 22 = .ok (.invokespecial 304, 3) := by decide +kernel
theorem dX10_cardAt_25 : decode cX10_cardAt 25 = .ok (.athrow, 1) := by decide +kernel
theorem dX10_cardAt_26 : decode cX10_cardAt 26 = .ok (.aload_n 0, 1) := by decide +kernel
theorem dX10_cardAt_27 : decode cX10_cardAt 27 = .ok (.getfield 53, 3) := by decide +kernel
theorem dX10_cardAt_30 : decode cX10_cardAt 30 = .ok (.iload_n 1, 1) := by decide +kernel
theorem dX10_cardAt_31 : decode cX10_cardAt 31 = .ok (.invokevirtual 305, 3) := by decide +kernel
theorem dX10_cardAt_34 : decode cX10_cardAt 34 = .ok (.ireturn, 1) := by decide +kernel
theorem dX10_type_0 : decode cX10_type 0 = .ok (.iload_n 1, 1) := by decide +kernel
theorem dX10_type_1 : decode cX10_type 1 = .ok (.bipush 32, 2) := by decide +kernel
theorem dX10_type_3 : decode cX10_type 3 = .ok (.if_icmp .lt 9, 3) := by decide +kernel
theorem dX10_type_6 : decode cX10_type 6 = .ok (.iload_n 1, 1) := by decide +kernel
theorem dX10_type_7 : decode cX10_type 7 = .ok (.bipush 126, 2) := by decide +kernel
theorem dX10_type_9 : decode cX10_type 9 = .ok (.if_icmp .le 14, 3) := by decide +kernel
theorem dX10_type_12 : decode cX10_type 12 = .ok (.new 178, 3) := by decide +kernel
theorem dX10_type_15 : decode cX10_type 15 = .ok (.dup, 1) := by decide +kernel
theorem dX10_type_16 : decode cX10_type 16 = .ok (.ldc_w 309, 3) := by decide +kernel
theorem dX10_type_19 : decode cX10_type 19 = .ok (.invokespecial 182, 3) := by decide +kernel
theorem dX10_type_22 : decode cX10_type 22 = .ok (.athrow, 1) := by decide +kernel
theorem dX10_type_23 : decode cX10_type 23 = .ok (.aload_n 0, 1) := by decide +kernel
theorem dX10_type_24 : decode cX10_type 24 = .ok (.getfield 46, 3) := by decide +kernel
theorem dX10_type_27 : decode cX10_type 27 = .ok (.invokevirtual 311, 3) := by decide +kernel
theorem dX10_type_30 : decode cX10_type 30 = .ok (.ifCond .eq 14, 3) := by decide +kernel
theorem dX10_type_33 : decode cX10_type 33 = .ok (.new 315, 3) := by decide +kernel
theorem dX10_type_36 : decode cX10_type 36 = .ok (.dup, 1) := by decide +kernel
theorem dX10_type_37 : decode cX10_type 37 = .ok (.ldc_w 317, 3) := by decide +kernel
theorem dX10_type_40 : decode cX10_type 40 = .ok (.invokespecial 319, 3) := by decide +kernel
theorem dX10_type_43 : decode cX10_type 43 = .ok (.athrow, 1) := by decide +kernel
theorem dX10_type_44 : decode cX10_type 44 = .ok (.aload_n 0, 1) := by decide +kernel
theorem dX10_type_45 : decode cX10_type 45 = .ok (.getfield 46, 3) := by decide +kernel
theorem dX10_type_48 : decode cX10_type 48 = .ok (.iload_n 1, 1) := by decide +kernel
theorem dX10_type_49 : decode cX10_type 49 = .ok (.invokevirtual 320, 3) := by decide +kernel
theorem dX10_type_52 : decode cX10_type 52 = .ok (.ireturn, 1) := by decide +kernel
theorem dX10_execute_0 : decode cX10_execute 0 = .ok (.aload_n 0, 1) := by decide +kernel
theorem dX10_execute_1 : decode cX10_execute 1 = .ok (.getfield 46, 3) := by decide +kernel
theorem dX10_execute_4 : decode cX10_execute 4 = .ok (.invokevirtual 323, 3) := by decide +kernel
theorem dX10_execute_7 : decode cX10_execute 7 = .ok (.istore_n 1, 1) := by decide +kernel
theorem dX10_execute_8 : decode cX10_execute 8 = .ok (.aload_n 0, 1) := by decide +kernel
theorem dX10_execute_9 : decode cX10_execute 9 = .ok (.getfield 46, 3) := by decide +kernel
theorem dX10_execute_12 : decode cX10_execute 12 = .ok (.invokevirtual 326, 3) := by decide +kernel
theorem dX10_execute_15 : decode cX10_execute 15 = .ok (.iload_n 1, 1) := by decide +kernel
theorem dX10_execute_16 : decode cX10_execute 16 = .ok (.ifCond .ne 25, 3) := by decide +kernel
theorem dX10_execute_19 : decode cX10_execute 19 = .ok (.aload_n 0, 1) := by decide +kernel
theorem dX10_execute_20 : decode cX10_execute 20 = .ok (.aload_n 0, 1) := by decide +kernel
theorem dX10_execute_21 : decode cX10_execute 21 = .ok (.getfield 46, 3) := by decide +kernel
theorem dX10_execute_24 : decode cX10_execute 24 = .ok (.invokevirtual 329, 3) := by decide +kernel
theorem dX10_execute_27 : decode cX10_execute 27 = .ok (.putfield 61, 3) := by decide +kernel
theorem dX10_execute_30 : decode cX10_execute 30 = .ok (.new 178, 3) := by decide +kernel
theorem dX10_execute_33 : decode cX10_execute 33 = .ok (.dup, 1) := by decide +kernel
theorem dX10_execute_34 : decode cX10_execute 34 = .ok (.ldc_w 332, 3) := by decide +kernel
theorem dX10_execute_37 : decode cX10_execute 37 = .ok (.invokespecial 182, 3) := by decide +kernel
theorem dX10_execute_40 : decode cX10_execute 40 = .ok (.athrow, 1) := by decide +kernel
theorem dX10_execute_41 : decode cX10_execute 41 = .ok (.aload_n 0, 1) := by decide +kernel
theorem dX10_execute_42 : decode cX10_execute 42 = .ok (.getfield 16, 3) := by decide +kernel
theorem dX10_execute_45 : decode cX10_execute 45 = .ok (.aload_n 0, 1) := by decide +kernel
theorem dX10_execute_46 : decode cX10_execute 46 = .ok (.getfield 10, 3) := by decide +kernel
theorem dX10_execute_49 : decode cX10_execute 49 = .ok (.invokevirtual 334, 3) := by decide +kernel
theorem dX10_execute_52 : decode cX10_execute 52 = .ok (.aload_n 0, 1) := by decide +kernel
theorem dX10_execute_53 : decode cX10_execute 53 = .ok (.invokevirtual 337, 3) := by decide +kernel
theorem dX10_execute_56 : decode cX10_execute 56 = .ok (.istore_n 2, 1) := by decide +kernel
theorem dX10_execute_57 : decode cX10_execute 57 = .ok (.iload_n 2, 1) := by decide +kernel
theorem dX10_execute_58 : decode cX10_execute 58 = .ok (.iconst (-1), 1) := by decide +kernel
theorem dX10_execute_59 : decode cX10_execute 59 = .ok (.if_icmp .eq 30, 3) := by decide +kernel
theorem dX10_execute_62 : decode cX10_execute 62 = .ok (.aload_n 0, 1) := by decide +kernel
theorem dX10_execute_63 : decode cX10_execute 63 = .ok (.getfield 10, 3) := by decide +kernel
theorem dX10_execute_66 : decode cX10_execute 66 = .ok (.aload_n 0, 1) := by decide +kernel
theorem dX10_execute_67 : decode cX10_execute 67 = .ok (.getfield 16, 3) := by decide +kernel
theorem dX10_execute_70 : decode cX10_execute 70 = .ok (.invokevirtual 334, 3) := by decide +kernel
theorem dX10_execute_73 : decode cX10_execute 73 = .ok (.aload_n 0, 1) := by decide +kernel
theorem dX10_execute_74 : decode cX10_execute 74 = .ok (.iload_n 2, 1) := by decide +kernel
theorem dX10_execute_75 : decode cX10_execute 75 = .ok (.putfield 65, 3) := by decide +kernel
theorem dX10_execute_78 : decode cX10_execute 78 = .ok (.new 315, 3) := by decide +kernel
theorem dX10_execute_81 : decode cX10_execute 81 = .ok (.dup, 1) := by decide +kernel
theorem dX10_execute_82 : decode cX10_execute 82 = .ok (.ldc_w 340, 3) := by decide +kernel
theorem dX10_execute_85 : decode cX10_execute 85 = .ok (.invokespecial 319, 3) := by decide +kernel
theorem dX10_execute_88 : decode cX10_execute 88 = .ok (.athrow, 1) := by decide +kernel
theorem dX10_execute_89 : decode cX10_execute 89 = .ok (.aload_n 0, 1) := by decide +kernel
theorem dX10_execute_90 : decode cX10_execute 90 = .ok (.getfield 25, 3) := by decide +kernel
theorem dX10_execute_93 : decode cX10_execute 93 = .ok (.aload_n 0, 1) := by decide +kernel
theorem dX10_execute_94 : decode cX10_execute 94 = .ok (.getfield 16, 3) := by decide +kernel
theorem dX10_execute_97 : decode cX10_execute 97 = .ok (.invokevirtual 76, 3) := by decide +kernel
theorem dX10_execute_100 : decode cX10_execute 100 = .ok (.aload_n 0, 1) := by decide +kernel
theorem dX10_execute_101 : decode cX10_execute 101 = .ok (.getfield 46, 3) := by decide +kernel
theorem dX10_execute_104 : decode cX10_execute 104 = .ok (.invokevirtual 342, 3) := by decide +kernel
theorem dX10_execute_107 : decode cX10_execute 107 = .ok (.ireturn, 1) := by decide +kernel
theorem dX10_errorPosition_0 : decode cX10_errorPosition 0 = .ok (.aload_n 0, 1) := by decide +kernel
theorem dX10_errorPosition_1 : decode cX10_errorPosition 1 = .ok (.getfield 61, 3) := by decide +kernel
theorem dX10_errorPosition_4 : decode cX10_errorPosition 4 = .ok (.iconst (-1), 1) := by decide +kernel
theorem dX10_errorPosition_5 : decode cX10_errorPosition 5 = .ok (.if_icmp .ne 14, 3) := by decide +kernel
theorem dX10_errorPosition_8 : decode cX10_errorPosition 8 = .ok (.new 161, 3) := by decide +kernel
theorem dX10_errorPosition_11 : decode cX10_errorPosition 11 = .ok (.dup, 1) := by decide +kernel
theorem dX10_errorPosition_12 : decode cX10_errorPosition 12 = .ok (.ldc_w 345, 3) := by decide +kernel
theorem dX10_errorPosition_15 : decode cX10_errorPosition 15 = .ok (.invokespecial 165, 3) := by decide +kernel
theorem dX10_errorPosition_18 : decode cX10_errorPosition 18 = .ok (.athrow, 1) := by decide +kernel
theorem dX10_errorPosition_19 : decode cX10_errorPosition 19 = .ok (.aload_n 0, 1) := by decide +kernel
theorem dX10_errorPosition_20 : decode cX10_errorPosition 20 = .ok (.getfield 61, 3) := by decide +kernel
theorem dX10_errorPosition_23 : decode cX10_errorPosition 23 = .ok (.ireturn, 1) := by decide +kernel
theorem dX10_failedCommand_0 : decode cX10_failedCommand 0 = .ok (.aload_n 0, 1) := by decide +kernel
theorem dX10_failedCommand_1 : decode cX10_failedCommand 1 = .ok (.getfield 65, 3) := by decide +kernel
theorem dX10_failedCommand_4 : decode cX10_failedCommand 4 = .ok (.iconst (-1), 1) := by decide +kernel
theorem dX10_failedCommand_5 : decode cX10_failedCommand 5 = .ok (.if_icmp .ne 14, 3) := by decide +kernel
theorem dX10_failedCommand_8 : decode cX10_failedCommand 8 = .ok (.new 161, 3) := by decide +kernel
theorem dX10_failedCommand_11 : decode cX10_failedCommand 11 = .ok (.dup, 1) := by decide +kernel
theorem dX10_failedCommand_12 : decode cX10_failedCommand 12 = .ok (.ldc_w 347, 3) := by decide +kernel
theorem dX10_failedCommand_15 : decode cX10_failedCommand 15 = .ok (.invokespecial 165, 3) := by decide +kernel
theorem dX10_failedCommand_18 : decode cX10_failedCommand 18 = .ok (.athrow, 1) := by decide +kernel
theorem dX10_failedCommand_19 : decode cX10_failedCommand 19 = .ok (.aload_n 0, 1) := by decide +kernel
theorem dX10_failedCommand_20 : decode cX10_failedCommand 20 = .ok (.getfield 65, 3) := by decide +kernel
theorem dX10_failedCommand_23 : decode cX10_failedCommand 23 = .ok (.ireturn, 1) := by decide +kernel
theorem dX10_undo_0 : decode cX10_undo 0 = .ok (.aload_n 0, 1) := by decide +kernel
theorem dX10_undo_1 : decode cX10_undo 1 = .ok (.getfield 25, 3) := by decide +kernel
theorem dX10_undo_4 : decode cX10_undo 4 = .ok (.invokevirtual 349, 3) := by decide +kernel
theorem dX10_undo_7 : decode cX10_undo 7 = .ok (.ifCond .ne 14, 3) := by decide +kernel
theorem dX10_undo_10 : decode cX10_undo 10 = .ok (.new 315, 3) := by decide +kernel
theorem dX10_undo_13 : decode cX10_undo 13 = .ok (.dup, 1) := by decide +kernel
theorem dX10_undo_14 : decode cX10_undo 14 = .ok (.ldc_w 352, 3) := by decide +kernel
theorem dX10_undo_17 : decode cX10_undo 17 = .ok (.invokespecial 319, 3) := by decide +kernel
theorem dX10_undo_20 : decode cX10_undo 20 = .ok (.athrow, 1) := by decide +kernel
theorem dX10_undo_21 : decode cX10_undo 21 = .ok (.aload_n 0, 1) := by decide +kernel
theorem dX10_undo_22 : decode cX10_undo 22 = .ok (.getfield 25, 3) := by decide +kernel
theorem dX10_undo_25 : decode cX10_undo 25 = .ok (.aload_n 0, 1) := by decide +kernel
theorem dX10_undo_26 : decode cX10_undo 26 = .ok (.getfield 10, 3) := by decide +kernel
theorem dX10_undo_29 : decode cX10_undo 29 = .ok (.invokevirtual 354, 3) := by decide +kernel
theorem dX10_undo_32 : decode cX10_undo 32 = .ok (.aload_n 0, 1) := by decide +kernel
theorem dX10_undo_33 : decode cX10_undo 33 = .ok (.getfield 25, 3) := by decide +kernel
theorem dX10_undo_36 : decode cX10_undo 36 = .ok (.invokevirtual 349, 3) := by decide +kernel
theorem dX10_undo_39 : decode cX10_undo 39 = .ok (.ireturn, 1) := by decide +kernel
theorem dX10_save_0 : decode cX10_save 0 = .ok (.aload_n 0, 1) := by decide +kernel
theorem dX10_save_1 : decode cX10_save 1 = .ok (.getfield 19, 3) := by decide +kernel
theorem dX10_save_4 : decode cX10_save 4 = .ok (.aload_n 0, 1) := by decide +kernel
theorem dX10_save_5 : decode cX10_save 5 = .ok (.getfield 10, 3) := by decide +kernel
theorem dX10_save_8 : decode cX10_save 8 = .ok (.invokevirtual 334, 3) := by decide +kernel
theorem dX10_save_11 : decode cX10_save 11 = .ok (.aload_n 0, 1) := by decide +kernel
theorem dX10_save_12 : decode cX10_save 12 = .ok (.iconst 1, 1) := by decide +kernel
theorem dX10_save_13 : decode cX10_save 13 = .ok (.putfield 57, 3) := by decide +kernel
theorem dX10_save_16 : decode cX10_save 16 = .ok (.aload_n 0, 1) := by decide +kernel
theorem dX10_save_17 : decode cX10_save 17 = .ok (.getfield 10, 3) := by decide +kernel
theorem dX10_save_20 : decode cX10_save 20 = .ok (.getfield 143, 3) := by decide +kernel
theorem dX10_save_23 : decode cX10_save 23 = .ok (.ireturn, 1) := by decide +kernel
theorem dX10_restore_0 : decode cX10_restore 0 = .ok (.aload_n 0, 1) := by decide +kernel
theorem dX10_restore_1 : decode cX10_restore 1 = .ok (.getfield 57, 3) := by decide +kernel
theorem dX10_restore_4 : decode cX10_restore 4 = .ok (.ifCond .ne 14, 3) := by decide +kernel
theorem dX10_restore_7 : decode cX10_restore 7 = .ok (.new 315, 3) := by decide +kernel
theorem dX10_restore_10 : decode cX10_restore 10 = .ok (.dup, 1) := by decide +kernel
theorem dX10_restore_11 : decode cX10_restore 11 = .ok (.ldc_w 357, 3) := by decide +kernel
theorem dX10_restore_14 : decode cX10_restore 14 = .ok (.invokespecial 319, 3) := by decide +kernel
theorem dX10_restore_17 : decode cX10_restore 17 = .ok (.athrow, 1) := by decide +kernel
theorem dX10_restore_18 : decode cX10_restore 18 = .ok (.aload_n 0, 1) := by decide +kernel
theorem dX10_restore_19 : decode cX10_restore 19 = .ok (.getfield 10, 3) := by decide +kernel
theorem dX10_restore_22 : decode cX10_restore 22 = .ok (.aload_n 0, 1) := by decide +kernel
theorem dX10_restore_23 : decode cX10_restore 23 = .ok (.getfield 19, 3) := by decide +kernel
theorem dX10_restore_26 : decode cX10_restore 26 = .ok (.invokevirtual 334, 3) := by decide +kernel
theorem dX10_restore_29 : decode cX10_restore 29 = .ok (.aload_n 0, 1) := by decide +kernel
theorem dX10_restore_30 : decode cX10_restore 30 = .ok (.getfield 25, 3) := by decide +kernel
theorem dX10_restore_33 : decode cX10_restore 33 = .ok (.invokevirtual 359, 3) := by decide +kernel
theorem dX10_restore_36 : decode cX10_restore 36 = .ok (.aload_n 0, 1) := by decide +kernel
theorem dX10_restore_37 : decode cX10_restore 37 = .ok (.getfield 10, 3) := by decide +kernel
theorem dX10_restore_40 : decode cX10_restore 40 = .ok (.getfield 143, 3) := by decide +kernel
theorem dX10_restore_43 : decode cX10_restore 43 = .ok (.ireturn, 1) := by decide +kernel
theorem dX10_throwIfRefused_0 : decode cX10_throwIfRefused 0 = .ok (.iload_n 0, 1) := by decide +kernel
theorem dX10_throwIfRefused_1 : decode cX10_throwIfRefused 1 = .ok (.iconst 1, 1) := by decide +kernel
theorem dX10_throwIfRefused_2 : decode cX10_throwIfRefused 2 = .ok (.if_icmp .ne 14, 3) := by decide +kernel
theorem dX10_throwIfRefused_5 : decode cX10_throwIfRefused 5 = .ok (.new 300, 3) := by decide +kernel
theorem dX10_throwIfRefused_8 : decode cX10_throwIfRefused 8 = .ok (.dup, 1) := by decide +kernel
theorem dX10_throwIfRefused_9 : decode cX10_throwIfRefused 9 = .ok (.ldc_w 362, 3) := by decide +kernel
theorem dX10_throwIfRefused_12 : decode cX10_throwIfRefused 12 = .ok (.invokespecial 304, 3) := by decide +kernel
theorem dX10_throwIfRefused_15 : decode cX10_throwIfRefused 15 = .ok (.athrow, 1) := by decide +kernel
theorem dX10_throwIfRefused_16 : decode cX10_throwIfRefused 16 = .ok (.iload_n 0, 1) := by decide +kernel
theorem dX10_throwIfRefused_17 : decode cX10_throwIfRefused 17 = .ok (.iconst 2, 1) := by decide +kernel
theorem dX10_throwIfRefused_18 : decode cX10_throwIfRefused 18 = .ok (.if_icmp .ne 14, 3) := by decide +kernel
theorem dX10_throwIfRefused_21 : decode cX10_throwIfRefused 21 = .ok (.new 178, 3) := by decide +kernel
theorem dX10_throwIfRefused_24 : decode cX10_throwIfRefused 24 = .ok (.dup, 1) := by decide +kernel
theorem dX10_throwIfRefused_25 : decode cX10_throwIfRefused 25 = .ok (.ldc_w 364, 3) := by decide +kernel
theorem dX10_throwIfRefused_28 : decode cX10_throwIfRefused 28 = .ok (.invokespecial 182, 3) := by decide +kernel
theorem dX10_throwIfRefused_31 : decode cX10_throwIfRefused 31 = .ok (.athrow, 1) := by decide +kernel
theorem dX10_throwIfRefused_32 : decode cX10_throwIfRefused 32 = .ok (.iload_n 0, 1) := by decide +kernel
theorem dX10_throwIfRefused_33 : decode cX10_throwIfRefused 33 = .ok (.iconst 3, 1) := by decide +kernel
theorem dX10_throwIfRefused_34 : decode cX10_throwIfRefused 34 = .ok (.if_icmp .ne 14, 3) := by decide +kernel
theorem dX10_throwIfRefused_37 : decode cX10_throwIfRefused 37 = .ok (.new 315, 3) := by decide +kernel
theorem dX10_throwIfRefused_40 : decode cX10_throwIfRefused 40 = .ok (.dup, 1) := by decide +kernel
theorem dX10_throwIfRefused_41 : decode cX10_throwIfRefused 41 = .ok (.ldc_w 366, 3) := by decide +kernel
theorem dX10_throwIfRefused_44 : decode cX10_throwIfRefused 44 = .ok (.invokespecial 319, 3) := by decide +kernel
theorem dX10_throwIfRefused_47 : decode cX10_throwIfRefused 47 = .ok (.athrow, 1) := by decide +kernel
theorem dX10_throwIfRefused_48 : decode cX10_throwIfRefused 48 = .ok (.return_, 1) := by decide +kernel
theorem dX10_requirePendulum_0 : decode cX10_requirePendulum 0 = .ok (.aload_n 0, 1) := by decide +kernel
theorem dX10_requirePendulum_1 : decode cX10_requirePendulum 1 = .ok (.getfield 10, 3) := by decide +kernel
theorem dX10_requirePendulum_4 : decode cX10_requirePendulum 4 = .ok (.iload_n 1, 1) := by decide +kernel
theorem dX10_requirePendulum_5 : decode cX10_requirePendulum 5 = .ok (.invokevirtual 368, 3) := by decide +kernel
theorem dX10_requirePendulum_8 : decode cX10_requirePendulum 8 = .ok (.ifCond .ne 14, 3) := by decide +kernel
theorem dX10_requirePendulum_11 : decode cX10_requirePendulum 11 = .ok (.new 300, 3) := by decide +kernel
theorem dX10_requirePendulum_14 : decode cX10_requirePendulum 14 = .ok (.dup, 1) := by decide +kernel
theorem dX10_requirePendulum_15 : decode cX10_requirePendulum 15 = .ok (.ldc_w 371, 3) := by decide +kernel
theorem dX10_requirePendulum_18 : decode cX10_requirePendulum 18 = .ok (.invokespecial 304, 3) := by decide +kernel
theorem dX10_requirePendulum_21 : decode cX10_requirePendulum 21 = .ok (.athrow, 1) := by decide +kernel
theorem dX10_requirePendulum_22 : decode cX10_requirePendulum 22 = .ok (.return_, 1) := by decide +kernel
theorem dX10_requireSwinging_0 : decode cX10_requireSwinging 0 = .ok (.aload_n 0, 1) := by decide +kernel
theorem dX10_requireSwinging_1 : decode cX10_requireSwinging 1 = .ok (.getfield 10, 3) := by decide +kernel
theorem dX10_requireSwinging_4 : decode cX10_requireSwinging 4 = .ok (.iload_n 1, 1) := by decide +kernel
theorem dX10_requireSwinging_5 : decode cX10_requireSwinging 5 = .ok (.invokevirtual 288, 3) := by decide +kernel
theorem dX10_requireSwinging_8 : decode cX10_requireSwinging 8 = .ok (.ifCond .ne 14, 3) := by decide +kernel
theorem dX10_requireSwinging_11 : decode cX10_requireSwinging 11 = .ok (.new 161, 3) := by decide +kernel
theorem dX10_requireSwinging_14 : decode cX10_requireSwinging 14 = .ok (.dup, 1) := by decide +kernel
theorem dX10_requireSwinging_15 : decode cX10_requireSwinging 15 = .ok (.ldc_w 373, 3) := by decide +kernel
theorem dX10_requireSwinging_18 : decode cX10_requireSwinging 18 = .ok (.invokespecial 165, 3) := by decide +kernel
theorem dX10_requireSwinging_21 : decode cX10_requireSwinging 21 = .ok (.athrow, 1) := by decide +kernel
theorem dX10_requireSwinging_22 : decode cX10_requireSwinging 22 = .ok (.return_, 1) := by decide +kernel
theorem dX10_requireBothSwinging_0 : decode cX10_requireBothSwinging 0 = .ok (.aload_n 0, 1) := by decide +kernel
theorem dX10_requireBothSwinging_1 : decode cX10_requireBothSwinging 1 = .ok (.iload_n 1, 1) := by decide +kernel
theorem dX10_requireBothSwinging_2 : decode cX10_requireBothSwinging 2 = .ok (.invokevirtual 111, 3) := by decide +kernel
theorem dX10_requireBothSwinging_5 : decode cX10_requireBothSwinging 5 = .ok (.aload_n 0, 1) := by decide +kernel
theorem dX10_requireBothSwinging_6 : decode cX10_requireBothSwinging 6 = .ok (.iload_n 2, 1) := by decide +kernel
theorem dX10_requireBothSwinging_7 : decode cX10_requireBothSwinging 7 = .ok (.invokevirtual 111, 3) := by decide +kernel
theorem dX10_requireBothSwinging_10 : decode cX10_requireBothSwinging 10 = .ok (.aload_n 0, 1) := by decide +kernel
theorem dX10_requireBothSwinging_11 : decode cX10_requireBothSwinging 11 = .ok (.getfield 10, 3) := by decide +kernel
theorem dX10_requireBothSwinging_14 : decode cX10_requireBothSwinging 14 = .ok (.iload_n 1, 1) := by decide +kernel
theorem dX10_requireBothSwinging_15 : decode cX10_requireBothSwinging 15 = .ok (.invokevirtual 288, 3) := by decide +kernel
theorem dX10_requireBothSwinging_18 : decode cX10_requireBothSwinging 18 = .ok (.ifCond .eq 14, 3) := by decide +kernel
theorem dX10_requireBothSwinging_21 : decode cX10_requireBothSwinging 21 = .ok (.aload_n 0, 1) := by decide +kernel
theorem dX10_requireBothSwinging_22 : decode cX10_requireBothSwinging 22 = .ok (.getfield 10, 3) := by decide +kernel
theorem dX10_requireBothSwinging_25 : decode cX10_requireBothSwinging 25 = .ok (.iload_n 2, 1) := by decide +kernel
theorem dX10_requireBothSwinging_26 : decode cX10_requireBothSwinging 26 = .ok (.invokevirtual 288, 3) := by decide +kernel
theorem dX10_requireBothSwinging_29 : decode cX10_requireBothSwinging 29 = .ok (.ifCond .ne 14, 3) := by decide +kernel
theorem dX10_requireBothSwinging_32 : decode cX10_requireBothSwinging 32 = .ok (.new 315, 3) := by decide +kernel
theorem dX10_requireBothSwinging_35 : decode cX10_requireBothSwinging 35 = .ok (.dup, 1) := by decide +kernel
theorem dX10_requireBothSwinging_36 : decode cX10_requireBothSwinging 36 = .ok (.ldc_w 375, 3) := by decide +kernel
theorem dX10_requireBothSwinging_39 : decode cX10_requireBothSwinging 39 = .ok (.invokespecial 319, 3) := by decide +kernel
theorem dX10_requireBothSwinging_42 : decode cX10_requireBothSwinging 42 = .ok (.athrow, 1) := by decide +kernel
theorem dX10_requireBothSwinging_43 : decode cX10_requireBothSwinging 43 = .ok (.return_, 1) := by decide +kernel
theorem dX10_requireMeeting_0 : decode cX10_requireMeeting 0 = .ok (.iload_n 0, 1) := by decide +kernel
theorem dX10_requireMeeting_1 : decode cX10_requireMeeting 1 = .ok (.iconst (-1), 1) := by decide +kernel
theorem dX10_requireMeeting_2 : decode cX10_requireMeeting 2 = .ok (.if_icmp .ne 14, 3) := by decide +kernel
theorem dX10_requireMeeting_5 : decode cX10_requireMeeting 5 = .ok (.new 161, 3) := by decide +kernel
theorem dX10_requireMeeting_8 : decode cX10_requireMeeting 8 = .ok (.dup, 1) := by decide +kernel
theorem dX10_requireMeeting_9 : decode cX10_requireMeeting 9 = .ok (.ldc_w 377, 3) := by decide +kernel
theorem dX10_requireMeeting_12 : decode cX10_requireMeeting 12 = .ok (.invokespecial 165, 3) := by decide +kernel
theorem dX10_requireMeeting_15 : decode cX10_requireMeeting 15 = .ok (.athrow, 1) := by decide +kernel
theorem dX10_requireMeeting_16 : decode cX10_requireMeeting 16 = .ok (.iload_n 0, 1) := by decide +kernel
theorem dX10_requireMeeting_17 : decode cX10_requireMeeting 17 = .ok (.ireturn, 1) := by decide +kernel
theorem dX10_requireRecord_0 : decode cX10_requireRecord 0 = .ok (.iload_n 1, 1) := by decide +kernel
theorem dX10_requireRecord_1 : decode cX10_requireRecord 1 = .ok (.invokestatic 379, 3) := by decide +kernel
theorem dX10_requireRecord_4 : decode cX10_requireRecord 4 = .ok (.ifCond .ne 14, 3) := by decide +kernel
theorem dX10_requireRecord_7 : decode cX10_requireRecord 7 = .ok (.new 178, 3) := by decide +kernel
theorem dX10_requireRecord_10 : decode cX10_requireRecord 10 = .ok (.dup, 1) := by decide +kernel
theorem dX10_requireRecord_11 : decode cX10_requireRecord 11 = .ok (.ldc_w 382, 3) := by decide +kernel
theorem dX10_requireRecord_14 : decode cX10_requireRecord 14 = .ok (.invokespecial 182, 3) := by decide +kernel
theorem dX10_requireRecord_17 : decode cX10_requireRecord 17 = .ok (.athrow, 1) := by decide +kernel
theorem dX10_requireRecord_18 : decode cX10_requireRecord 18 = .ok (.aload_n 0, 1) := by decide +kernel
theorem dX10_requireRecord_19 : decode cX10_requireRecord 19 = .ok (.getfield 10, 3) := by decide +kernel
theorem dX10_requireRecord_22 : decode cX10_requireRecord 22 = .ok (.iload_n 1, 1) := by decide +kernel
theorem dX10_requireRecord_23 : decode cX10_requireRecord 23 = .ok (.invokevirtual 152, 3) := by decide +kernel
theorem dX10_requireRecord_26 : decode cX10_requireRecord 26 = .ok (.ifCond .ne 14, 3) := by decide +kernel
theorem dX10_requireRecord_29 : decode cX10_requireRecord 29 = .ok (.new 161, 3) := by decide +kernel
theorem dX10_requireRecord_32 : decode cX10_requireRecord 32 = .ok (.dup, 1) := by decide +kernel
theorem dX10_requireRecord_33 : decode cX10_requireRecord 33 = .ok (.ldc_w 384, 3) := by decide +kernel
theorem dX10_requireRecord_36 : decode cX10_requireRecord 36 = .ok (.invokespecial 165, 3) := by decide +kernel
theorem dX10_requireRecord_39 : decode cX10_requireRecord 39 = .ok (.athrow, 1) := by decide +kernel
theorem dX10_requireRecord_40 : decode cX10_requireRecord 40 = .ok (.return_, 1) := by decide +kernel
theorem dX10_requireLeg_0 : decode cX10_requireLeg 0 = .ok (.aload_n 0, 1) := by decide +kernel
theorem dX10_requireLeg_1 : decode cX10_requireLeg 1 = .ok (.getfield 10, 3) := by decide +kernel
theorem dX10_requireLeg_4 : decode cX10_requireLeg 4 = .ok (.iload_n 1, 1) := by decide +kernel
theorem dX10_requireLeg_5 : decode cX10_requireLeg 5 = .ok (.invokevirtual 386, 3) := by decide +kernel
theorem dX10_requireLeg_8 : decode cX10_requireLeg 8 = .ok (.ifCond .ne 14, 3) := by decide +kernel
theorem dX10_requireLeg_11 : decode cX10_requireLeg 11 = .ok (.new 300, 3) := by decide +kernel
theorem dX10_requireLeg_14 : decode cX10_requireLeg 14 = .ok (.dup, 1) := by decide +kernel
theorem dX10_requireLeg_15 : decode cX10_requireLeg 15 = .ok (.ldc_w 389, 3) := by decide +kernel
theorem dX10_requireLeg_18 : decode cX10_requireLeg 18 = .ok (.invokespecial 304, 3) := by decide +kernel
theorem dX10_requireLeg_21 : decode cX10_requireLeg 21 = .ok (.athrow, 1) := by decide +kernel
theorem dX10_requireLeg_22 : decode cX10_requireLeg 22 = .ok (.return_, 1) := by decide +kernel
theorem dX10_requireRelay_0 : decode cX10_requireRelay 0 = .ok (.aload_n 0, 1) := by decide +kernel
theorem dX10_requireRelay_1 : decode cX10_requireRelay 1 = .ok (.getfield 10, 3) := by decide +kernel
theorem dX10_requireRelay_4 : decode cX10_requireRelay 4 = .ok (.getfield 108, 3) := by decide +kernel
theorem dX10_requireRelay_7 : decode cX10_requireRelay 7 = .ok (.aload_n 0, 1) := by decide +kernel
theorem dX10_requireRelay_8 : decode cX10_requireRelay 8 = .ok (.getfield 10, 3) := by decide +kernel
theorem dX10_requireRelay_11 : decode cX10_requireRelay 11 = .ok (.getfield 221, 3) := by decide +kernel
theorem dX10_requireRelay_14 : decode cX10_requireRelay 14 = .ok (.if_icmp .ge 14, 3) := by decide +kernel
theorem dX10_requireRelay_17 : decode cX10_requireRelay 17 = .ok (.new 315, 3) := by decide +kernel
theorem dX10_requireRelay_20 : decode cX10_requireRelay 20 = .ok (.dup, 1) := by decide +kernel
theorem dX10_requireRelay_21 : decode cX10_requireRelay 21 = .ok (.ldc_w 391, 3) := by decide +kernel
theorem dX10_requireRelay_24 : decode cX10_requireRelay 24 = .ok (.invokespecial 319, 3) := by decide +kernel
theorem dX10_requireRelay_27 : decode cX10_requireRelay 27 = .ok (.athrow, 1) := by decide +kernel
theorem dX10_requireRelay_28 : decode cX10_requireRelay 28 = .ok (.return_, 1) := by decide +kernel
theorem dX10_requireQuota_0 : decode cX10_requireQuota 0 = .ok (.iload_n 0, 1) := by decide +kernel
theorem dX10_requireQuota_1 : decode cX10_requireQuota 1 = .ok (.iload_n 1, 1) := by decide +kernel
theorem dX10_requireQuota_2 : decode cX10_requireQuota 2 = .ok (.if_icmp .lt 10, 3) := by decide +kernel
theorem dX10_requireQuota_5 : decode cX10_requireQuota 5 = .ok (.iload_n 0, 1) := by decide +kernel
theorem dX10_requireQuota_6 : decode cX10_requireQuota 6 = .ok (.sipush 999, 3) := by decide +kernel
theorem dX10_requireQuota_9 : decode cX10_requireQuota 9 = .ok (.if_icmp .le 14, 3) := by decide +kernel
theorem dX10_requireQuota_12 : decode cX10_requireQuota 12 = .ok (.new 178, 3) := by decide +kernel
theorem dX10_requireQuota_15 : decode cX10_requireQuota 15 = .ok (.dup, 1) := by decide +kernel
theorem dX10_requireQuota_16 : decode cX10_requireQuota 16 = .ok (.ldc_w 393, 3) := by decide +kernel
theorem dX10_requireQuota_19 : decode cX10_requireQuota 19 = .ok (.invokespecial 182, 3) := by decide +kernel
theorem dX10_requireQuota_22 : decode cX10_requireQuota 22 = .ok (.athrow, 1) := by decide +kernel
theorem dX10_requireQuota_23 : decode cX10_requireQuota 23 = .ok (.return_, 1) := by decide +kernel
theorem dX10_requireEnough_0 : decode cX10_requireEnough 0 = .ok (.iload_n 0, 1) := by decide +kernel
theorem dX10_requireEnough_1 : decode cX10_requireEnough 1 = .ok (.iconst (-1), 1) := by decide +kernel
theorem dX10_requireEnough_2 : decode cX10_requireEnough 2 = .ok (.if_icmp .ne 14, 3) := by decide +kernel
theorem dX10_requireEnough_5 : decode cX10_requireEnough 5 = .ok (.new 161, 3) := by decide +kernel
theorem dX10_requireEnough_8 : decode cX10_requireEnough 8 = .ok (.dup, 1) := by decide +kernel
theorem dX10_requireEnough_9 : decode cX10_requireEnough 9 = .ok (.ldc_w 395, 3) := by decide +kernel
theorem dX10_requireEnough_12 : decode cX10_requireEnough 12 = .ok (.invokespecial 165, 3) := by decide +kernel
theorem dX10_requireEnough_15 : decode cX10_requireEnough 15 = .ok (.athrow, 1) := by decide +kernel
theorem dX10_requireEnough_16 : decode cX10_requireEnough 16 = .ok (.iload_n 0, 1) := by decide +kernel
theorem dX10_requireEnough_17 : decode cX10_requireEnough 17 = .ok (.ireturn, 1) := by decide +kernel
theorem dX10_firstFailure_0 : decode cX10_firstFailure 0 = .ok (.iconst 0, 1) := by decide +kernel
theorem dX10_firstFailure_1 : decode cX10_firstFailure 1 = .ok (.istore_n 1, 1) := by decide +kernel
theorem dX10_firstFailure_2 : decode cX10_firstFailure 2 = .ok (.iload_n 1, 1) := by decide +kernel
theorem dX10_firstFailure_3 : decode cX10_firstFailure 3 = .ok (.aload_n 0, 1) := by decide +kernel
theorem dX10_firstFailure_4 : decode cX10_firstFailure 4 = .ok (.getfield 46, 3) := by decide +kernel
theorem dX10_firstFailure_7 : decode cX10_firstFailure 7 = .ok (.invokevirtual 342, 3) := by decide +kernel
theorem dX10_firstFailure_10 : decode cX10_firstFailure 10 = .ok (.if_icmp .ge 42, 3) := by decide +kernel
theorem dX10_firstFailure_13 : decode cX10_firstFailure 13 = .ok (.aload_n 0, 1) := by decide +kernel
theorem dX10_firstFailure_14 : decode cX10_firstFailure 14 = .ok (.aload_n 0, 1) := by decide +kernel
theorem dX10_firstFailure_15 : decode cX10_firstFailure 15 = .ok (.getfield 46, 3) := by decide +kernel
theorem dX10_firstFailure_18 : decode cX10_firstFailure 18 = .ok (.iload_n 1, 1) := by decide +kernel
theorem dX10_firstFailure_19 : decode cX10_firstFailure 19 = .ok (.invokevirtual 397, 3) := by decide +kernel
theorem dX10_firstFailure_22 : decode cX10_firstFailure 22 = .ok (.aload_n 0, 1) := by decide +kernel
theorem dX10_firstFailure_23 : decode cX10_firstFailure 23 = .ok (.getfield 46, 3) := by decide +kernel
theorem dX10_firstFailure_26 : decode cX10_firstFailure 26 = .ok (.iload_n 1, 1) := by decide +kernel
theorem dX10_firstFailure_27 : decode cX10_firstFailure 27 = .ok (.invokevirtual 401, 3) := by decide +kernel
theorem dX10_firstFailure_30 : decode cX10_firstFailure 30 = .ok (.aload_n 0, 1) := by decide +kernel
theorem dX10_firstFailure_31 : decode cX10_firstFailure 31 = .ok (.getfield 46, 3) := by decide +kernel
theorem dX10_firstFailure_34 : decode cX10_firstFailure 34 = .ok (.iload_n 1, 1) := by decide +kernel
theorem dX10_firstFailure_35 : decode cX10_firstFailure 35 = .ok (.invokevirtual 404, 3) := by decide +kernel
theorem dX10_firstFailure_38 : decode cX10_firstFailure 38 = .ok (.invokevirtual 407, 3) := by decide +kernel
theorem dX10_firstFailure_41 : decode cX10_firstFailure 41 = .ok (.ifCond .ne 5, 3) := by decide +kernel
theorem dX10_firstFailure_44 : decode cX10_firstFailure 44 = .ok (.iload_n 1, 1) := by decide +kernel
theorem dX10_firstFailure_45 : decode cX10_firstFailure 45 = .ok (.ireturn, 1) := by decide +kernel
theorem dX10_firstFailure_46 : decode cX10_firstFailure 46 = .ok (.iinc 1 1, 3) := by decide +kernel
theorem dX10_firstFailure_49 : decode cX10_firstFailure 49 = .ok (.goto (-47), 3) := by decide +kernel
theorem dX10_firstFailure_52 : decode cX10_firstFailure 52 = .ok (.iconst (-1), 1) := by decide +kernel
theorem dX10_firstFailure_53 : decode cX10_firstFailure 53 = .ok (.ireturn, 1) := by decide +kernel
theorem dX10_obey_0 : decode cX10_obey 0 = .ok (.aload_n 1, 1) := by decide +kernel
theorem dX10_obey_1 : decode cX10_obey 1 = .ok (.ifnonnull 5, 3) := by decide +kernel
theorem dX10_obey_4 : decode cX10_obey 4 = .ok (.iconst 0, 1) := by decide +kernel
theorem dX10_obey_5 : decode cX10_obey 5 = .ok (.ireturn, 1) := by decide +kernel
theorem dX10_obey_6 : decode cX10_obey 6 = .ok (.getstatic 411, 3) := by decide +kernel
theorem dX10_obey_9 : decode cX10_obey 9 = .ok (.aload_n 1, 1) := by decide +kernel
theorem dX10_obey_10 : decode cX10_obey 10 = .ok (.invokevirtual 417, 3) := by decide +kernel
theorem dX10_obey_13 : decode cX10_obey 13 = .ok (.iaload, 1) := by decide +kernel
theorem dX10_obey_14 : decode cX10_obey 14 = .ok (.tableswitch 169 1 7 #[42, 60, 79, 97, 115, 133, 151], 42) := by decide +kernel
theorem dX10_obey_56 : decode cX10_obey 56 = .ok (.aload_n 0, 1) := by decide +kernel
theorem dX10_obey_57 : decode cX10_obey 57 = .ok (.getfield 10, 3) := by decide +kernel
theorem dX10_obey_60 : decode cX10_obey 60 = .ok (.iload_n 3, 1) := by decide +kernel
theorem dX10_obey_61 : decode cX10_obey 61 = .ok (.invokevirtual 80, 3) := by decide +kernel
theorem dX10_obey_64 : decode cX10_obey 64 = .ok (.iconst (-1), 1) := by decide +kernel
theorem dX10_obey_65 : decode cX10_obey 65 = .ok (.if_icmp .eq 7, 3) := by decide +kernel
theorem dX10_obey_68 : decode cX10_obey 68 = .ok (.iconst 1, 1) := by decide +kernel
theorem dX10_obey_69 : decode cX10_obey 69 = .ok (.goto 4, 3) := by decide +kernel
theorem dX10_obey_72 : decode cX10_obey 72 = .ok (.iconst 0, 1) := by decide +kernel
theorem dX10_obey_73 : decode cX10_obey 73 = .ok (.ireturn, 1) := by decide +kernel
theorem dX10_obey_74 : decode cX10_obey 74 = .ok (.aload_n 0, 1) := by decide +kernel
theorem dX10_obey_75 : decode cX10_obey 75 = .ok (.getfield 10, 3) := by decide +kernel
theorem dX10_obey_78 : decode cX10_obey 78 = .ok (.iload_n 2, 1) := by decide +kernel
theorem dX10_obey_79 : decode cX10_obey 79 = .ok (.iload_n 3, 1) := by decide +kernel
theorem dX10_obey_80 : decode cX10_obey 80 = .ok (.invokevirtual 87, 3) := by decide +kernel
theorem dX10_obey_83 : decode cX10_obey 83 = .ok (.iconst (-1), 1) := by decide +kernel
theorem dX10_obey_84 : decode cX10_obey 84 = .ok (.if_icmp .eq 7, 3) := by decide +kernel
theorem dX10_obey_87 : decode cX10_obey 87 = .ok (.iconst 1, 1) := by decide +kernel
theorem dX10_obey_88 : decode cX10_obey 88 = .ok (.goto 4, 3) := by decide +kernel
theorem dX10_obey_91 : decode cX10_obey 91 = .ok (.iconst 0, 1) := by decide +kernel
theorem dX10_obey_92 : decode cX10_obey 92 = .ok (.ireturn, 1) := by decide +kernel
theorem dX10_obey_93 : decode cX10_obey 93 = .ok (.aload_n 0, 1) := by decide +kernel
theorem dX10_obey_94 : decode cX10_obey 94 = .ok (.getfield 10, 3) := by decide +kernel
theorem dX10_obey_97 : decode cX10_obey 97 = .ok (.iload_n 2, 1) := by decide +kernel
theorem dX10_obey_98 : decode cX10_obey 98 = .ok (.invokevirtual 93, 3) := by decide +kernel
theorem dX10_obey_101 : decode cX10_obey 101 = .ok (.iconst (-1), 1) := by decide +kernel
theorem dX10_obey_102 : decode cX10_obey 102 = .ok (.if_icmp .eq 7, 3) := by decide +kernel
theorem dX10_obey_105 : decode cX10_obey 105 = .ok (.iconst 1, 1) := by decide +kernel
theorem dX10_obey_106 : decode cX10_obey 106 = .ok (.goto 4, 3) := by decide +kernel
theorem dX10_obey_109 : decode cX10_obey 109 = .ok (.iconst 0, 1) := by decide +kernel
theorem dX10_obey_110 : decode cX10_obey 110 = .ok (.ireturn, 1) := by decide +kernel
theorem dX10_obey_111 : decode cX10_obey 111 = .ok (.aload_n 0, 1) := by decide +kernel
theorem dX10_obey_112 : decode cX10_obey 112 = .ok (.getfield 10, 3) := by decide +kernel
theorem dX10_obey_115 : decode cX10_obey 115 = .ok (.iload_n 3, 1) := by decide +kernel
theorem dX10_obey_116 : decode cX10_obey 116 = .ok (.invokevirtual 99, 3) := by decide +kernel
theorem dX10_obey_119 : decode cX10_obey 119 = .ok (.iconst (-1), 1) := by decide +kernel
theorem dX10_obey_120 : decode cX10_obey 120 = .ok (.if_icmp .eq 7, 3) := by decide +kernel
theorem dX10_obey_123 : decode cX10_obey 123 = .ok (.iconst 1, 1) := by decide +kernel
theorem dX10_obey_124 : decode cX10_obey 124 = .ok (.goto 4, 3) := by decide +kernel
theorem dX10_obey_127 : decode cX10_obey 127 = .ok (.iconst 0, 1) := by decide +kernel
theorem dX10_obey_128 : decode cX10_obey 128 = .ok (.ireturn, 1) := by decide +kernel
theorem dX10_obey_129 : decode cX10_obey 129 = .ok (.aload_n 0, 1) := by decide +kernel
theorem dX10_obey_130 : decode cX10_obey 130 = .ok (.getfield 10, 3) := by decide +kernel
theorem dX10_obey_133 : decode cX10_obey 133 = .ok (.iload_n 3, 1) := by decide +kernel
theorem dX10_obey_134 : decode cX10_obey 134 = .ok (.invokevirtual 212, 3) := by decide +kernel
theorem dX10_obey_137 : decode cX10_obey 137 = .ok (.iconst (-1), 1) := by decide +kernel
theorem dX10_obey_138 : decode cX10_obey 138 = .ok (.if_icmp .eq 7, 3) := by decide +kernel
theorem dX10_obey_141 : decode cX10_obey 141 = .ok (.iconst 1, 1) := by decide +kernel
theorem dX10_obey_142 : decode cX10_obey 142 = .ok (.goto 4, 3) := by decide +kernel
theorem dX10_obey_145 : decode cX10_obey 145 = .ok (.iconst 0, 1) := by decide +kernel
theorem dX10_obey_146 : decode cX10_obey 146 = .ok (.ireturn, 1) := by decide +kernel
theorem dX10_obey_147 : decode cX10_obey 147 = .ok (.aload_n 0, 1) := by decide +kernel
theorem dX10_obey_148 : decode cX10_obey 148 = .ok (.getfield 10, 3) := by decide +kernel
theorem dX10_obey_151 : decode cX10_obey 151 = .ok (.iload_n 2, 1) := by decide +kernel
theorem dX10_obey_152 : decode cX10_obey 152 = .ok (.invokevirtual 218, 3) := by decide +kernel
theorem dX10_obey_155 : decode cX10_obey 155 = .ok (.iconst (-1), 1) := by decide +kernel
theorem dX10_obey_156 : decode cX10_obey 156 = .ok (.if_icmp .eq 7, 3) := by decide +kernel
theorem dX10_obey_159 : decode cX10_obey 159 = .ok (.iconst 1, 1) := by decide +kernel
theorem dX10_obey_160 : decode cX10_obey 160 = .ok (.goto 4, 3) := by decide +kernel
theorem dX10_obey_163 : decode cX10_obey 163 = .ok (.iconst 0, 1) := by decide +kernel
theorem dX10_obey_164 : decode cX10_obey 164 = .ok (.ireturn, 1) := by decide +kernel
theorem dX10_obey_165 : decode cX10_obey 165 = .ok (.aload_n 0, 1) := by decide +kernel
theorem dX10_obey_166 : decode cX10_obey 166 = .ok (.getfield 10, 3) := by decide +kernel
theorem dX10_obey_169 : decode cX10_obey 169 = .ok (.iload_n 3, 1) := by decide +kernel
theorem dX10_obey_170 : decode cX10_obey 170 = .ok (.invokevirtual 105, 3) := by decide +kernel
theorem dX10_obey_173 : decode cX10_obey 173 = .ok (.iconst (-1), 1) := by decide +kernel
theorem dX10_obey_174 : decode cX10_obey 174 = .ok (.if_icmp .eq 7, 3) := by decide +kernel
theorem dX10_obey_177 : decode cX10_obey 177 = .ok (.iconst 1, 1) := by decide +kernel
theorem dX10_obey_178 : decode cX10_obey 178 = .ok (.goto 4, 3) := by decide +kernel
theorem dX10_obey_181 : decode cX10_obey 181 = .ok (.iconst 0, 1) := by decide +kernel
theorem dX10_obey_182 : decode cX10_obey 182 = .ok (.ireturn, 1) := by decide +kernel
theorem dX10_obey_183 : decode cX10_obey 183 = .ok (.iconst 0, 1) := by decide +kernel
theorem dX10_obey_184 : decode cX10_obey 184 = .ok (.ireturn, 1) := by decide +kernel
theorem dX10_bestByTrying_0 : decode cX10_bestByTrying 0 = .ok (.iload_n 3, 1) := by decide +kernel
theorem dX10_bestByTrying_1 : decode cX10_bestByTrying 1 = .ok (.iload 4, 2) := by decide +kernel
theorem dX10_bestByTrying_3 : decode cX10_bestByTrying 3 = .ok (.if_icmp .lt 6, 3) := by decide +kernel
theorem dX10_bestByTrying_6 : decode cX10_bestByTrying 6 = .ok (.iload 4, 2) := by decide +kernel
theorem dX10_bestByTrying_8 : decode cX10_bestByTrying 8 = .ok (.ireturn, 1) := by decide +kernel
theorem dX10_bestByTrying_9 : decode cX10_bestByTrying 9 = .ok (.iload_n 1, 1) := by decide +kernel
theorem dX10_bestByTrying_10 : decode cX10_bestByTrying 10 = .ok (.aload_n 0, 1) := by decide +kernel
theorem dX10_bestByTrying_11 : decode cX10_bestByTrying 11 = .ok (.getfield 221, 3) := by decide +kernel
theorem dX10_bestByTrying_14 : decode cX10_bestByTrying 14 = .ok (.if_icmp .ge 9, 3) := by decide +kernel
theorem dX10_bestByTrying_17 : decode cX10_bestByTrying 17 = .ok (.iload_n 1, 1) := by decide +kernel
theorem dX10_bestByTrying_18 : decode cX10_bestByTrying 18 = .ok (.bipush 6, 2) := by decide +kernel
theorem dX10_bestByTrying_20 : decode cX10_bestByTrying 20 = .ok (.if_icmp .lt 5, 3) := by decide +kernel
theorem dX10_bestByTrying_23 : decode cX10_bestByTrying 23 = .ok (.iload_n 3, 1) := by decide +kernel
theorem dX10_bestByTrying_24 : decode cX10_bestByTrying 24 = .ok (.ireturn, 1) := by decide +kernel
theorem dX10_bestByTrying_25 : decode cX10_bestByTrying 25 = .ok (.iload 4, 2) := by decide +kernel
theorem dX10_bestByTrying_27 : decode cX10_bestByTrying 27 = .ok (.istore 5, 2) := by decide +kernel
theorem dX10_bestByTrying_29 : decode cX10_bestByTrying 29 = .ok (.iconst 0, 1) := by decide +kernel
theorem dX10_bestByTrying_30 : decode cX10_bestByTrying 30 = .ok (.istore 6, 2) := by decide +kernel
theorem dX10_bestByTrying_32 : decode cX10_bestByTrying 32 = .ok (.iload 6, 2) := by decide +kernel
theorem dX10_bestByTrying_34 : decode cX10_bestByTrying 34 = .ok (.aload_n 0, 1) := by decide +kernel
theorem dX10_bestByTrying_35 : decode cX10_bestByTrying 35 = .ok (.getfield 108, 3) := by decide +kernel
theorem dX10_bestByTrying_38 : decode cX10_bestByTrying 38 = .ok (.if_icmp .ge 46, 3) := by decide +kernel
theorem dX10_bestByTrying_41 : decode cX10_bestByTrying 41 = .ok (.iconst 1, 1) := by decide +kernel
theorem dX10_bestByTrying_42 : decode cX10_bestByTrying 42 = .ok (.iload 6, 2) := by decide +kernel
theorem dX10_bestByTrying_44 : decode cX10_bestByTrying 44 = .ok (.ishl, 1) := by decide +kernel
theorem dX10_bestByTrying_45 : decode cX10_bestByTrying 45 = .ok (.istore 7, 2) := by decide +kernel
theorem dX10_bestByTrying_47 : decode cX10_bestByTrying 47 = .ok (.iload_n 2, 1) := by decide +kernel
theorem dX10_bestByTrying_48 : decode cX10_bestByTrying 48 = .ok (.iload 7, 2) := by decide +kernel
theorem dX10_bestByTrying_50 : decode cX10_bestByTrying 50 = .ok (.iand, 1) := by decide +kernel
theorem dX10_bestByTrying_51 : decode cX10_bestByTrying 51 = .ok (.ifCond .ne 27, 3) := by decide +kernel
theorem dX10_bestByTrying_54 : decode cX10_bestByTrying 54 = .ok (.aload_n 0, 1) := by decide +kernel
theorem dX10_bestByTrying_55 : decode cX10_bestByTrying 55 = .ok (.iload_n 1, 1) := by decide +kernel
theorem dX10_bestByTrying_56 : decode cX10_bestByTrying 56 = .ok (.iconst 1, 1) := by decide +kernel
theorem dX10_bestByTrying_57 : decode cX10_bestByTrying 57 = .ok (.iadd, 1) := by decide +kernel
theorem dX10_bestByTrying_58 : decode cX10_bestByTrying 58 = .ok (.iload_n 2, 1) := by decide +kernel
theorem dX10_bestByTrying_59 : decode cX10_bestByTrying 59 = .ok (.iload 7, 2) := by decide +kernel
theorem dX10_bestByTrying_61 : decode cX10_bestByTrying 61 = .ok (.ior, 1) := by decide +kernel
theorem dX10_bestByTrying_62 : decode cX10_bestByTrying 62 = .ok (.iload_n 3, 1) := by decide +kernel
theorem dX10_bestByTrying_63 : decode cX10_bestByTrying 63 = .ok (.aload_n 0, 1) := by decide +kernel
theorem dX10_bestByTrying_64 : decode cX10_bestByTrying 64 = .ok (.iload 6, 2) := by decide +kernel
theorem dX10_bestByTrying_66 : decode cX10_bestByTrying 66 = .ok (.iload_n 1, 1) := by decide +kernel
theorem dX10_bestByTrying_67 : decode cX10_bestByTrying 67 = .ok (.invokevirtual 422, 3) := by decide +kernel
theorem dX10_bestByTrying_70 : decode cX10_bestByTrying 70 = .ok (.iadd, 1) := by decide +kernel
theorem dX10_bestByTrying_71 : decode cX10_bestByTrying 71 = .ok (.iload 5, 2) := by decide +kernel
theorem dX10_bestByTrying_73 : decode cX10_bestByTrying 73 = .ok (.invokestatic 237, 3) := by decide +kernel
theorem dX10_bestByTrying_76 : decode cX10_bestByTrying 76 = .ok (.istore 5, 2) := by decide +kernel
theorem dX10_bestByTrying_78 : decode cX10_bestByTrying 78 = .ok (.iinc 6 1, 3) := by decide +kernel
theorem dX10_bestByTrying_81 : decode cX10_bestByTrying 81 = .ok (.goto (-49), 3) := by decide +kernel
theorem dX10_bestByTrying_84 : decode cX10_bestByTrying 84 = .ok (.iload 5, 2) := by decide +kernel
theorem dX10_bestByTrying_86 : decode cX10_bestByTrying 86 = .ok (.ireturn, 1) := by decide +kernel
