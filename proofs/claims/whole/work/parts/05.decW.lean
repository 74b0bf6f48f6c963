theorem dL_addPendulum_0 : decode cL_addPendulum 0 = .ok (.aload_n 2, 1) := by decide +kernel
theorem dL_addPendulum_1 : decode cL_addPendulum 1 = .ok (.iconst 0, 1) := by decide +kernel
theorem dL_addPendulum_2 : decode cL_addPendulum 2 = .ok (.aload_n 0, 1) := by decide +kernel
theorem dL_addPendulum_3 : decode cL_addPendulum 3 = .ok (.iload_n 1, 1) := by decide +kernel
theorem dL_addPendulum_4 : decode cL_addPendulum 4 = .ok (.invokevirtual 7, 3) := by decide +kernel
theorem dL_addPendulum_7 : decode cL_addPendulum 7 = .ok (.i2l, 1) := by decide +kernel
theorem dL_addPendulum_8 : decode cL_addPendulum 8 = .ok (.lastore, 1) := by decide +kernel
theorem dL_addPendulum_9 : decode cL_addPendulum 9 = .ok (.goto 9, 3) := by decide +kernel
theorem dL_addPendulum_12 : decode cL_addPendulum 12 = .ok (.astore_n 3, 1) := by decide +kernel
theorem dL_addPendulum_13 : decode cL_addPendulum 13 = .ok (.iconst 1, 1) := by decide +kernel
theorem dL_addPendulum_14 : decode cL_addPendulum 14 = .ok (.ireturn, 1) := by decide +kernel
theorem dL_addPendulum_15 : decode cL_addPendulum 15 = .ok (.astore_n 3, 1) := by decide +kernel
theorem dL_addPendulum_16 : decode cL_addPendulum 16 = .ok (.iconst 2, 1) := by decide +kernel
theorem dL_addPendulum_17 : decode cL_addPendulum 17 = .ok (.ireturn, 1) := by decide +kernel
theorem dL_addPendulum_18 : decode cL_addPendulum 18 = .ok (.iconst 0, 1) := by decide +kernel
theorem dL_addPendulum_19 : decode cL_addPendulum 19 = .ok (.ireturn, 1) := by decide +kernel
theorem dL_push_0 : decode cL_push 0 = .ok (.aload_n 3, 1) := by decide +kernel
theorem dL_push_1 : decode cL_push 1 = .ok (.iconst 0, 1) := by decide +kernel
theorem dL_push_2 : decode cL_push 2 = .ok (.aload_n 0, 1) := by decide +kernel
theorem dL_push_3 : decode cL_push 3 = .ok (.iload_n 1, 1) := by decide +kernel
theorem dL_push_4 : decode cL_push 4 = .ok (.iload_n 2, 1) := by decide +kernel
theorem dL_push_5 : decode cL_push 5 = .ok (.invokevirtual 17, 3) := by decide +kernel
theorem dL_push_8 : decode cL_push 8 = .ok (.i2l, 1) := by decide +kernel
theorem dL_push_9 : decode cL_push 9 = .ok (.lastore, 1) := by decide +kernel
theorem dL_push_10 : decode cL_push 10 = .ok (.goto 15, 3) := by decide +kernel
theorem dL_push_13 : decode cL_push 13 = .ok (.astore 4, 2) := by decide +kernel
theorem dL_push_15 : decode cL_push 15 = .ok (.iconst 1, 1) := by decide +kernel
theorem dL_push_16 : decode cL_push 16 = .ok (.ireturn, 1) := by decide +kernel
theorem dL_push_17 : decode cL_push 17 = .ok (.astore 4, 2) := by decide +kernel
theorem dL_push_19 : decode cL_push 19 = .ok (.iconst 2, 1) := by decide +kernel
theorem dL_push_20 : decode cL_push 20 = .ok (.ireturn, 1) := by decide +kernel
theorem dL_push_21 : decode cL_push 21 = .ok (.astore 4, 2) := by decide +kernel
theorem dL_push_23 : decode cL_push 23 = .ok (.iconst 3, 1) := by decide +kernel
theorem dL_push_24 : decode cL_push 24 = .ok (.ireturn, 1) := by decide +kernel
theorem dL_push_25 : decode cL_push 25 = .ok (.iconst 0, 1) := by decide +kernel
theorem dL_push_26 : decode cL_push 26 = .ok (.ireturn, 1) := by decide +kernel
theorem dL_catchPendulum_0 : decode cL_catchPendulum 0 = .ok (.aload_n 2, 1) := by decide +kernel
theorem dL_catchPendulum_1 : decode cL_catchPendulum 1 = .ok (.iconst 0, 1) := by decide +kernel
theorem dL_catchPendulum_2 : decode cL_catchPendulum 2 = .ok (.aload_n 0, 1) := by decide +kernel
theorem dL_catchPendulum_3 : decode cL_catchPendulum 3 = .ok (.iload_n 1, 1) := by decide +kernel
theorem dL_catchPendulum_4 : decode cL_catchPendulum 4 = .ok (.invokevirtual 23, 3) := by decide +kernel
theorem dL_catchPendulum_7 : decode cL_catchPendulum 7 = .ok (.i2l, 1) := by decide +kernel
theorem dL_catchPendulum_8 : decode cL_catchPendulum 8 = .ok (.lastore, 1) := by decide +kernel
theorem dL_catchPendulum_9 : decode cL_catchPendulum 9 = .ok (.goto 9, 3) := by decide +kernel
theorem dL_catchPendulum_12 : decode cL_catchPendulum 12 = .ok (.astore_n 3, 1) := by decide +kernel
theorem dL_catchPendulum_13 : decode cL_catchPendulum 13 = .ok (.iconst 1, 1) := by decide +kernel
theorem dL_catchPendulum_14 : decode cL_catchPendulum 14 = .ok (.ireturn, 1) := by decide +kernel
theorem dL_catchPendulum_15 : decode cL_catchPendulum 15 = .ok (.astore_n 3, 1) := by decide +kernel
theorem dL_catchPendulum_16 : decode cL_catchPendulum 16 = .ok (.iconst 2, 1) := by decide +kernel
theorem dL_catchPendulum_17 : decode cL_catchPendulum 17 = .ok (.ireturn, 1) := by decide +kernel
theorem dL_catchPendulum_18 : decode cL_catchPendulum 18 = .ok (.iconst 0, 1) := by decide +kernel
theorem dL_catchPendulum_19 : decode cL_catchPendulum 19 = .ok (.ireturn, 1) := by decide +kernel
theorem dL_setFriction_0 : decode cL_setFriction 0 = .ok (.aload_n 2, 1) := by decide +kernel
theorem dL_setFriction_1 : decode cL_setFriction 1 = .ok (.iconst 0, 1) := by decide +kernel
theorem dL_setFriction_2 : decode cL_setFriction 2 = .ok (.aload_n 0, 1) := by decide +kernel
theorem dL_setFriction_3 : decode cL_setFriction 3 = .ok (.iload_n 1, 1) := by decide +kernel
theorem dL_setFriction_4 : decode cL_setFriction 4 = .ok (.invokevirtual 26, 3) := by decide +kernel
theorem dL_setFriction_7 : decode cL_setFriction 7 = .ok (.i2l, 1) := by decide +kernel
theorem dL_setFriction_8 : decode cL_setFriction 8 = .ok (.lastore, 1) := by decide +kernel
theorem dL_setFriction_9 : decode cL_setFriction 9 = .ok (.goto 6, 3) := by decide +kernel
theorem dL_setFriction_12 : decode cL_setFriction 12 = .ok (.astore_n 3, 1) := by decide +kernel
theorem dL_setFriction_13 : decode cL_setFriction 13 = .ok (.iconst 1, 1) := by decide +kernel
theorem dL_setFriction_14 : decode cL_setFriction 14 = .ok (.ireturn, 1) := by decide +kernel
theorem dL_setFriction_15 : decode cL_setFriction 15 = .ok (.iconst 0, 1) := by decide +kernel
theorem dL_setFriction_16 : decode cL_setFriction 16 = .ok (.ireturn, 1) := by decide +kernel
theorem dL_pass_0 : decode cL_pass 0 = .ok (.aload_n 2, 1) := by decide +kernel
theorem dL_pass_1 : decode cL_pass 1 = .ok (.iconst 0, 1) := by decide +kernel
theorem dL_pass_2 : decode cL_pass 2 = .ok (.aload_n 0, 1) := by decide +kernel
theorem dL_pass_3 : decode cL_pass 3 = .ok (.iload_n 1, 1) := by decide +kernel
theorem dL_pass_4 : decode cL_pass 4 = .ok (.invokevirtual 29, 3) := by decide +kernel
theorem dL_pass_7 : decode cL_pass 7 = .ok (.i2l, 1) := by decide +kernel
theorem dL_pass_8 : decode cL_pass 8 = .ok (.lastore, 1) := by decide +kernel
theorem dL_pass_9 : decode cL_pass 9 = .ok (.goto 6, 3) := by decide +kernel
theorem dL_pass_12 : decode cL_pass 12 = .ok (.astore_n 3, 1) := by decide +kernel
theorem dL_pass_13 : decode cL_pass 13 = .ok (.iconst 1, 1) := by decide +kernel
theorem dL_pass_14 : decode cL_pass 14 = .ok (.ireturn, 1) := by decide +kernel
theorem dL_pass_15 : decode cL_pass 15 = .ok (.iconst 0, 1) := by decide +kernel
theorem dL_pass_16 : decode cL_pass 16 = .ok (.ireturn, 1) := by decide +kernel
theorem dL_lengthOf_0 : decode cL_lengthOf 0 = .ok (.aload_n 2, 1) := by decide +kernel
theorem dL_lengthOf_1 : decode cL_lengthOf 1 = .ok (.iconst 0, 1) := by decide +kernel
theorem dL_lengthOf_2 : decode cL_lengthOf 2 = .ok (.aload_n 0, 1) := by decide +kernel
theorem dL_lengthOf_3 : decode cL_lengthOf 3 = .ok (.iload_n 1, 1) := by decide +kernel
theorem dL_lengthOf_4 : decode cL_lengthOf 4 = .ok (.invokevirtual 32, 3) := by decide +kernel
theorem dL_lengthOf_7 : decode cL_lengthOf 7 = .ok (.i2l, 1) := by decide +kernel
theorem dL_lengthOf_8 : decode cL_lengthOf 8 = .ok (.lastore, 1) := by decide +kernel
theorem dL_lengthOf_9 : decode cL_lengthOf 9 = .ok (.goto 6, 3) := by decide +kernel
theorem dL_lengthOf_12 : decode cL_lengthOf 12 = .ok (.astore_n 3, 1) := by decide +kernel
theorem dL_lengthOf_13 : decode cL_lengthOf 13 = .ok (.iconst 1, 1) := by decide +kernel
theorem dL_lengthOf_14 : decode cL_lengthOf 14 = .ok (.ireturn, 1) := by decide +kernel
theorem dL_lengthOf_15 : decode cL_lengthOf 15 = .ok (.iconst 0, 1) := by decide +kernel
theorem dL_lengthOf_16 : decode cL_lengthOf 16 = .ok (.ireturn, 1) := by decide +kernel
theorem dL_classOf_0 : decode cL_classOf 0 = .ok (.aload_n 2, 1) := by decide +kernel
theorem dL_classOf_1 : decode cL_classOf 1 = .ok (.iconst 0, 1) := by decide +kernel
theorem dL_classOf_2 : decode cL_classOf 2 = .ok (.aload_n 0, 1) := by decide +kernel
theorem dL_classOf_3 : decode cL_classOf 3 = .ok (.iload_n 1, 1) := by decide +kernel
theorem dL_classOf_4 : decode cL_classOf 4 = .ok (.invokevirtual 35, 3) := by decide +kernel
theorem dL_classOf_7 : decode cL_classOf 7 = .ok (.i2l, 1) := by decide +kernel
theorem dL_classOf_8 : decode cL_classOf 8 = .ok (.lastore, 1) := by decide +kernel
theorem dL_classOf_9 : decode cL_classOf 9 = .ok (.goto 6, 3) := by decide +kernel
theorem dL_classOf_12 : decode cL_classOf 12 = .ok (.astore_n 3, 1) := by decide +kernel
theorem dL_classOf_13 : decode cL_classOf 13 = .ok (.iconst 1, 1) := by decide +kernel
theorem dL_classOf_14 : decode cL_classOf 14 = .ok (.ireturn, 1) := by decide +kernel
theorem dL_classOf_15 : decode cL_classOf 15 = .ok (.iconst 0, 1) := by decide +kernel
theorem dL_classOf_16 : decode cL_classOf 16 = .ok (.ireturn, 1) := by decide +kernel
theorem dL_amplitudeOf_0 : decode cL_amplitudeOf 0 = .ok (.aload_n 2, 1) := by decide +kernel
theorem dL_amplitudeOf_1 : decode cL_amplitudeOf 1 = .ok (.iconst 0, 1) := by decide +kernel
theorem dL_amplitudeOf_2 : decode cL_amplitudeOf 2 = .ok (.aload_n 0, 1) := by decide +kernel
theorem dL_amplitudeOf_3 : decode cL_amplitudeOf 3 = .ok (.iload_n 1, 1) := by decide +kernel
theorem dL_amplitudeOf_4 : decode cL_amplitudeOf 4 = .ok (.invokevirtual 38, 3) := by decide +kernel
theorem dL_amplitudeOf_7 : decode cL_amplitudeOf 7 = .ok (.i2l, 1) := by decide +kernel
theorem dL_amplitudeOf_8 : decode cL_amplitudeOf 8 = .ok (.lastore, 1) := by decide +kernel
theorem dL_amplitudeOf_9 : decode cL_amplitudeOf 9 = .ok (.goto 6, 3) := by decide +kernel
theorem dL_amplitudeOf_12 : decode cL_amplitudeOf 12 = .ok (.astore_n 3, 1) := by decide +kernel
theorem dL_amplitudeOf_13 : decode cL_amplitudeOf 13 = .ok (.iconst 1, 1) := by decide +kernel
theorem dL_amplitudeOf_14 : decode cL_amplitudeOf 14 = .ok (.ireturn, 1) := by decide +kernel
theorem dL_amplitudeOf_15 : decode cL_amplitudeOf 15 = .ok (.iconst 0, 1) := by decide +kernel
theorem dL_amplitudeOf_16 : decode cL_amplitudeOf 16 = .ok (.ireturn, 1) := by decide +kernel
theorem dL_startOf_0 : decode cL_startOf 0 = .ok (.aload_n 2, 1) := by decide +kernel
theorem dL_startOf_1 : decode cL_startOf 1 = .ok (.iconst 0, 1) := by decide +kernel
theorem dL_startOf_2 : decode cL_startOf 2 = .ok (.aload_n 0, 1) := by decide +kernel
theorem dL_startOf_3 : decode cL_startOf 3 = .ok (.iload_n 1, 1) := by decide +kernel
theorem dL_startOf_4 : decode cL_startOf 4 = .ok (.invokevirtual 41, 3) := by decide +kernel
theorem dL_startOf_7 : decode cL_startOf 7 = .ok (.i2l, 1) := by decide +kernel
theorem dL_startOf_8 : decode cL_startOf 8 = .ok (.lastore, 1) := by decide +kernel
theorem dL_startOf_9 : decode cL_startOf 9 = .ok (.goto 9, 3) := by decide +kernel
theorem dL_startOf_12 : decode cL_startOf 12 = .ok (.astore_n 3, 1) := by decide +kernel
theorem dL_startOf_13 : decode cL_startOf 13 = .ok (.iconst 1, 1) := by decide +kernel
theorem dL_startOf_14 : decode cL_startOf 14 = .ok (.ireturn, 1) := by decide +kernel
theorem dL_startOf_15 : decode cL_startOf 15 = .ok (.astore_n 3, 1) := by decide +kernel
theorem dL_startOf_16 : decode cL_startOf 16 = .ok (.iconst 2, 1) := by decide +kernel
theorem dL_startOf_17 : decode cL_startOf 17 = .ok (.ireturn, 1) := by decide +kernel
theorem dL_startOf_18 : decode cL_startOf 18 = .ok (.iconst 0, 1) := by decide +kernel
theorem dL_startOf_19 : decode cL_startOf 19 = .ok (.ireturn, 1) := by decide +kernel
theorem dL_periodOf_0 : decode cL_periodOf 0 = .ok (.aload_n 2, 1) := by decide +kernel
theorem dL_periodOf_1 : decode cL_periodOf 1 = .ok (.iconst 0, 1) := by decide +kernel
theorem dL_periodOf_2 : decode cL_periodOf 2 = .ok (.aload_n 0, 1) := by decide +kernel
theorem dL_periodOf_3 : decode cL_periodOf 3 = .ok (.iload_n 1, 1) := by decide +kernel
theorem dL_periodOf_4 : decode cL_periodOf 4 = .ok (.invokevirtual 46, 3) := by decide +kernel
theorem dL_periodOf_7 : decode cL_periodOf 7 = .ok (.i2l, 1) := by decide +kernel
theorem dL_periodOf_8 : decode cL_periodOf 8 = .ok (.lastore, 1) := by decide +kernel
theorem dL_periodOf_9 : decode cL_periodOf 9 = .ok (.goto 6, 3) := by decide +kernel
theorem dL_periodOf_12 : decode cL_periodOf 12 = .ok (.astore_n 3, 1) := by decide +kernel
theorem dL_periodOf_13 : decode cL_periodOf 13 = .ok (.iconst 1, 1) := by decide +kernel
theorem dL_periodOf_14 : decode cL_periodOf 14 = .ok (.ireturn, 1) := by decide +kernel
theorem dL_periodOf_15 : decode cL_periodOf 15 = .ok (.iconst 0, 1) := by decide +kernel
theorem dL_periodOf_16 : decode cL_periodOf 16 = .ok (.ireturn, 1) := by decide +kernel
theorem dL_periodByEstimates_0 : decode cL_periodByEstimates 0 = .ok (.aload_n 2, 1) := by decide +kernel
theorem dL_periodByEstimates_1 : decode cL_periodByEstimates 1 = .ok (.iconst 0, 1) := by decide +kernel
theorem dL_periodByEstimates_2 : decode cL_periodByEstimates 2 = .ok (.aload_n 0, 1) := by decide +kernel
theorem dL_periodByEstimates_3 : decode cL_periodByEstimates 3 = .ok (.iload_n 1, 1) := by decide +kernel
theorem dL_periodByEstimates_4 : decode cL_periodByEstimates 4 = .ok (.invokevirtual 49, 3) := by decide +kernel
theorem dL_periodByEstimates_7 : decode cL_periodByEstimates 7 = .ok (.i2l, 1) := by decide +kernel
theorem dL_periodByEstimates_8 : decode cL_periodByEstimates 8 = .ok (.lastore, 1) := by decide +kernel
theorem dL_periodByEstimates_9 : decode cL_periodByEstimates 9 = .ok (.goto 6, 3) := by decide +kernel
theorem dL_periodByEstimates_12 : decode cL_periodByEstimates 12 = .ok (.astore_n 3, 1) := by decide +kernel
theorem dL_periodByEstimates_13 : decode cL_periodByEstimates 13 = .ok (.iconst 1, 1) := by decide +kernel
theorem dL_periodByEstimates_14 : decode cL_periodByEstimates 14 = .ok (.ireturn, 1) := by decide +kernel
theorem dL_periodByEstimates_15 : decode cL_periodByEstimates 15 = .ok (.iconst 0, 1) := by decide +kernel
theorem dL_periodByEstimates_16 : decode cL_periodByEstimates 16 = .ok (.ireturn, 1) := by decide +kernel
theorem dL_swingsOf_0 : decode cL_swingsOf 0 = .ok (.aload_n 2, 1) := by decide +kernel
theorem dL_swingsOf_1 : decode cL_swingsOf 1 = .ok (.iconst 0, 1) := by decide +kernel
theorem dL_swingsOf_2 : decode cL_swingsOf 2 = .ok (.aload_n 0, 1) := by decide +kernel
theorem dL_swingsOf_3 : decode cL_swingsOf 3 = .ok (.iload_n 1, 1) := by decide +kernel
theorem dL_swingsOf_4 : decode cL_swingsOf 4 = .ok (.invokevirtual 52, 3) := by decide +kernel
theorem dL_swingsOf_7 : decode cL_swingsOf 7 = .ok (.i2l, 1) := by decide +kernel
theorem dL_swingsOf_8 : decode cL_swingsOf 8 = .ok (.lastore, 1) := by decide +kernel
theorem dL_swingsOf_9 : decode cL_swingsOf 9 = .ok (.goto 6, 3) := by decide +kernel
theorem dL_swingsOf_12 : decode cL_swingsOf 12 = .ok (.astore_n 3, 1) := by decide +kernel
theorem dL_swingsOf_13 : decode cL_swingsOf 13 = .ok (.iconst 1, 1) := by decide +kernel
theorem dL_swingsOf_14 : decode cL_swingsOf 14 = .ok (.ireturn, 1) := by decide +kernel
theorem dL_swingsOf_15 : decode cL_swingsOf 15 = .ok (.iconst 0, 1) := by decide +kernel
theorem dL_swingsOf_16 : decode cL_swingsOf 16 = .ok (.ireturn, 1) := by decide +kernel
theorem dL_recordOf_0 : decode cL_recordOf 0 = .ok (.aload_n 2, 1) := by decide +kernel
theorem dL_recordOf_1 : decode cL_recordOf 1 = .ok (.iconst 0, 1) := by decide +kernel
theorem dL_recordOf_2 : decode cL_recordOf 2 = .ok (.aload_n 0, 1) := by decide +kernel
theorem dL_recordOf_3 : decode cL_recordOf 3 = .ok (.iload_n 1, 1) := by decide +kernel
theorem dL_recordOf_4 : decode cL_recordOf 4 = .ok (.invokevirtual 55, 3) := by decide +kernel
theorem dL_recordOf_7 : decode cL_recordOf 7 = .ok (.i2l, 1) := by decide +kernel
theorem dL_recordOf_8 : decode cL_recordOf 8 = .ok (.lastore, 1) := by decide +kernel
theorem dL_recordOf_9 : decode cL_recordOf 9 = .ok (.goto 9, 3) := by decide +kernel
theorem dL_recordOf_12 : decode cL_recordOf 12 = .ok (.astore_n 3, 1) := by decide +kernel
theorem dL_recordOf_13 : decode cL_recordOf 13 = .ok (.iconst 1, 1) := by decide +kernel
theorem dL_recordOf_14 : decode cL_recordOf 14 = .ok (.ireturn, 1) := by decide +kernel
theorem dL_recordOf_15 : decode cL_recordOf 15 = .ok (.astore_n 3, 1) := by decide +kernel
theorem dL_recordOf_16 : decode cL_recordOf 16 = .ok (.iconst 2, 1) := by decide +kernel
theorem dL_recordOf_17 : decode cL_recordOf 17 = .ok (.ireturn, 1) := by decide +kernel
theorem dL_recordOf_18 : decode cL_recordOf 18 = .ok (.iconst 0, 1) := by decide +kernel
theorem dL_recordOf_19 : decode cL_recordOf 19 = .ok (.ireturn, 1) := by decide +kernel
theorem dL_holderOf_0 : decode cL_holderOf 0 = .ok (.aload_n 2, 1) := by decide +kernel
theorem dL_holderOf_1 : decode cL_holderOf 1 = .ok (.iconst 0, 1) := by decide +kernel
theorem dL_holderOf_2 : decode cL_holderOf 2 = .ok (.aload_n 0, 1) := by decide +kernel
theorem dL_holderOf_3 : decode cL_holderOf 3 = .ok (.iload_n 1, 1) := by decide +kernel
theorem dL_holderOf_4 : decode cL_holderOf 4 = .ok (.invokevirtual 58, 3) := by decide +kernel
theorem dL_holderOf_7 : decode cL_holderOf 7 = .ok (.i2l, 1) := by decide +kernel
theorem dL_holderOf_8 : decode cL_holderOf 8 = .ok (.lastore, 1) := by decide +kernel
theorem dL_holderOf_9 : decode cL_holderOf 9 = .ok (.goto 9, 3) := by decide +kernel
theorem dL_holderOf_12 : decode cL_holderOf 12 = .ok (.astore_n 3, 1) := by decide +kernel
theorem dL_holderOf_13 : decode cL_holderOf 13 = .ok (.iconst 1, 1) := by decide +kernel
theorem dL_holderOf_14 : decode cL_holderOf 14 = .ok (.ireturn, 1) := by decide +kernel
theorem dL_holderOf_15 : decode cL_holderOf 15 = .ok (.astore_n 3, 1) := by decide +kernel
theorem dL_holderOf_16 : decode cL_holderOf 16 = .ok (.iconst 2, 1) := by decide +kernel
theorem dL_holderOf_17 : decode cL_holderOf 17 = .ok (.ireturn, 1) := by decide +kernel
theorem dL_holderOf_18 : decode cL_holderOf 18 = .ok (.iconst 0, 1) := by decide +kernel
theorem dL_holderOf_19 : decode cL_holderOf 19 = .ok (.ireturn, 1) := by decide +kernel
theorem dL_pendulumAtRank_0 : decode cL_pendulumAtRank 0 = .ok (.aload_n 2, 1) := by decide +kernel
theorem dL_pendulumAtRank_1 : decode cL_pendulumAtRank 1 = .ok (.iconst 0, 1) := by decide +kernel
theorem dL_pendulumAtRank_2 : decode cL_pendulumAtRank 2 = .ok (.aload_n 0, 1) := by decide +kernel
theorem dL_pendulumAtRank_3 : decode cL_pendulumAtRank 3 = .ok (.iload_n 1, 1) := by decide +kernel
theorem dL_pendulumAtRank_4 : decode cL_pendulumAtRank 4 = .ok (.invokevirtual 61, 3) := by decide +kernel
theorem dL_pendulumAtRank_7 : decode cL_pendulumAtRank 7 = .ok (.i2l, 1) := by decide +kernel
theorem dL_pendulumAtRank_8 : decode cL_pendulumAtRank 8 = .ok (.lastore, 1) := by decide +kernel
theorem dL_pendulumAtRank_9 : decode cL_pendulumAtRank 9 = .ok (.goto 6, 3) := by decide +kernel
theorem dL_pendulumAtRank_12 : decode cL_pendulumAtRank 12 = .ok (.astore_n 3, 1) := by decide +kernel
theorem dL_pendulumAtRank_13 : decode cL_pendulumAtRank 13 = .ok (.iconst 1, 1) := by decide +kernel
theorem dL_pendulumAtRank_14 : decode cL_pendulumAtRank 14 = .ok (.ireturn, 1) := by decide +kernel
theorem dL_pendulumAtRank_15 : decode cL_pendulumAtRank 15 = .ok (.iconst 0, 1) := by decide +kernel
theorem dL_pendulumAtRank_16 : decode cL_pendulumAtRank 16 = .ok (.ireturn, 1) := by decide +kernel
theorem dL_swingsToRest_0 : decode cL_swingsToRest 0 = .ok (.aload_n 2, 1) := by decide +kernel
theorem dL_swingsToRest_1 : decode cL_swingsToRest 1 = .ok (.iconst 0, 1) := by decide +kernel
theorem dL_swingsToRest_2 : decode cL_swingsToRest 2 = .ok (.aload_n 0, 1) := by decide +kernel
theorem dL_swingsToRest_3 : decode cL_swingsToRest 3 = .ok (.iload_n 1, 1) := by decide +kernel
theorem dL_swingsToRest_4 : decode cL_swingsToRest 4 = .ok (.invokevirtual 64, 3) := by decide +kernel
theorem dL_swingsToRest_7 : decode cL_swingsToRest 7 = .ok (.i2l, 1) := by decide +kernel
theorem dL_swingsToRest_8 : decode cL_swingsToRest 8 = .ok (.lastore, 1) := by decide +kernel
theorem dL_swingsToRest_9 : decode cL_swingsToRest 9 = .ok (.goto 6, 3) := by decide +kernel
theorem dL_swingsToRest_12 : decode cL_swingsToRest 12 = .ok (.astore_n 3, 1) := by decide +kernel
theorem dL_swingsToRest_13 : decode cL_swingsToRest 13 = .ok (.iconst 1, 1) := by decide +kernel
theorem dL_swingsToRest_14 : decode cL_swingsToRest 14 = .ok (.ireturn, 1) := by decide +kernel
theorem dL_swingsToRest_15 : decode cL_swingsToRest 15 = .ok (.iconst 0, 1) := by decide +kernel
theorem dL_swingsToRest_16 : decode cL_swingsToRest 16 = .ok (.ireturn, 1) := by decide +kernel
theorem dL_swingsToRestByTable_0 : decode cL_swingsToRestByTable 0 = .ok (.aload_n 2, 1) := by decide +kernel
theorem dL_swingsToRestByTable_1 : decode cL_swingsToRestByTable 1 = .ok (.iconst 0, 1) := by decide +kernel
theorem dL_swingsToRestByTable_2 : decode cL_swingsToRestByTable 2 = .ok (.aload_n 0, 1) := by decide +kernel
theorem dL_swingsToRestByTable_3 : decode cL_swingsToRestByTable 3 = .ok (.iload_n 1, 1) := by decide +kernel
theorem dL_swingsToRestByTable_4 : decode cL_swingsToRestByTable 4 = .ok (.invokevirtual 67, 3) := by decide +kernel
theorem dL_swingsToRestByTable_7 : decode cL_swingsToRestByTable 7 = .ok (.i2l, 1) := by decide +kernel
theorem dL_swingsToRestByTable_8 : decode cL_swingsToRestByTable 8 = .ok (.lastore, 1) := by decide +kernel
theorem dL_swingsToRestByTable_9 : decode cL_swingsToRestByTable 9 = .ok (.goto 6, 3) := by decide +kernel
theorem dL_swingsToRestByTable_12 : decode cL_swingsToRestByTable 12 = .ok (.astore_n 3, 1) := by decide +kernel
theorem dL_swingsToRestByTable_13 : decode cL_swingsToRestByTable 13 = .ok (.iconst 1, 1) := by decide +kernel
theorem dL_swingsToRestByTable_14 : decode cL_swingsToRestByTable 14 = .ok (.ireturn, 1) := by decide +kernel
theorem dL_swingsToRestByTable_15 : decode cL_swingsToRestByTable 15 = .ok (.iconst 0, 1) := by decide +kernel
theorem dL_swingsToRestByTable_16 : decode cL_swingsToRestByTable 16 = .ok (.ireturn, 1) := by decide +kernel
theorem dL_restTick_0 : decode cL_restTick 0 = .ok (.aload_n 2, 1) := by decide +kernel
theorem dL_restTick_1 : decode cL_restTick 1 = .ok (.iconst 0, 1) := by decide +kernel
theorem dL_restTick_2 : decode cL_restTick 2 = .ok (.aload_n 0, 1) := by decide +kernel
theorem dL_restTick_3 : decode cL_restTick 3 = .ok (.iload_n 1, 1) := by decide +kernel
theorem dL_restTick_4 : decode cL_restTick 4 = .ok (.invokevirtual 70, 3) := by decide +kernel
theorem dL_restTick_7 : decode cL_restTick 7 = .ok (.i2l, 1) := by decide +kernel
theorem dL_restTick_8 : decode cL_restTick 8 = .ok (.lastore, 1) := by decide +kernel
theorem dL_restTick_9 : decode cL_restTick 9 = .ok (.goto 9, 3) := by decide +kernel
theorem dL_restTick_12 : decode cL_restTick 12 = .ok (.astore_n 3, 1) := by decide +kernel
theorem dL_restTick_13 : decode cL_restTick 13 = .ok (.iconst 1, 1) := by decide +kernel
theorem dL_restTick_14 : decode cL_restTick 14 = .ok (.ireturn, 1) := by decide +kernel
theorem dL_restTick_15 : decode cL_restTick 15 = .ok (.astore_n 3, 1) := by decide +kernel
theorem dL_restTick_16 : decode cL_restTick 16 = .ok (.iconst 2, 1) := by decide +kernel
theorem dL_restTick_17 : decode cL_restTick 17 = .ok (.ireturn, 1) := by decide +kernel
theorem dL_restTick_18 : decode cL_restTick 18 = .ok (.iconst 0, 1) := by decide +kernel
theorem dL_restTick_19 : decode cL_restTick 19 = .ok (.ireturn, 1) := by decide +kernel
theorem dL_amplitudeAfter_0 : decode cL_amplitudeAfter 0 = .ok (.aload_n 3, 1) := by decide +kernel
theorem dL_amplitudeAfter_1 : decode cL_amplitudeAfter 1 = .ok (.iconst 0, 1) := by decide +kernel
theorem dL_amplitudeAfter_2 : decode cL_amplitudeAfter 2 = .ok (.aload_n 0, 1) := by decide +kernel
theorem dL_amplitudeAfter_3 : decode cL_amplitudeAfter 3 = .ok (.iload_n 1, 1) := by decide +kernel
theorem dL_amplitudeAfter_4 : decode cL_amplitudeAfter 4 = .ok (.iload_n 2, 1) := by decide +kernel
theorem dL_amplitudeAfter_5 : decode cL_amplitudeAfter 5 = .ok (.invokevirtual 73, 3) := by decide +kernel
theorem dL_amplitudeAfter_8 : decode cL_amplitudeAfter 8 = .ok (.i2l, 1) := by decide +kernel
theorem dL_amplitudeAfter_9 : decode cL_amplitudeAfter 9 = .ok (.lastore, 1) := by decide +kernel
theorem dL_amplitudeAfter_10 : decode cL_amplitudeAfter 10 = .ok (.goto 11, 3) := by decide +kernel
theorem dL_amplitudeAfter_13 : decode cL_amplitudeAfter 13 = .ok (.astore 4, 2) := by decide +kernel
theorem dL_amplitudeAfter_15 : decode cL_amplitudeAfter 15 = .ok (.iconst 1, 1) := by decide +kernel
theorem dL_amplitudeAfter_16 : decode cL_amplitudeAfter 16 = .ok (.ireturn, 1) := by decide +kernel
theorem dL_amplitudeAfter_17 : decode cL_amplitudeAfter 17 = .ok (.astore 4, 2) := by decide +kernel
theorem dL_amplitudeAfter_19 : decode cL_amplitudeAfter 19 = .ok (.iconst 2, 1) := by decide +kernel
theorem dL_amplitudeAfter_20 : decode cL_amplitudeAfter 20 = .ok (.ireturn, 1) := by decide +kernel
theorem dL_amplitudeAfter_21 : decode cL_amplitudeAfter 21 = .ok (.iconst 0, 1) := by decide +kernel
theorem dL_amplitudeAfter_22 : decode cL_amplitudeAfter 22 = .ok (.ireturn, 1) := by decide +kernel
theorem dL_meeting_0 : decode cL_meeting 0 = .ok (.aload_n 3, 1) := by decide +kernel
theorem dL_meeting_1 : decode cL_meeting 1 = .ok (.iconst 0, 1) := by decide +kernel
theorem dL_meeting_2 : decode cL_meeting 2 = .ok (.aload_n 0, 1) := by decide +kernel
theorem dL_meeting_3 : decode cL_meeting 3 = .ok (.iload_n 1, 1) := by decide +kernel
theorem dL_meeting_4 : decode cL_meeting 4 = .ok (.iload_n 2, 1) := by decide +kernel
theorem dL_meeting_5 : decode cL_meeting 5 = .ok (.invokevirtual 76, 3) := by decide +kernel
theorem dL_meeting_8 : decode cL_meeting 8 = .ok (.i2l, 1) := by decide +kernel
theorem dL_meeting_9 : decode cL_meeting 9 = .ok (.lastore, 1) := by decide +kernel
theorem dL_meeting_10 : decode cL_meeting 10 = .ok (.goto 15, 3) := by decide +kernel
theorem dL_meeting_13 : decode cL_meeting 13 = .ok (.astore 4, 2) := by decide +kernel
theorem dL_meeting_15 : decode cL_meeting 15 = .ok (.iconst 1, 1) := by decide +kernel
theorem dL_meeting_16 : decode cL_meeting 16 = .ok (.ireturn, 1) := by decide +kernel
theorem dL_meeting_17 : decode cL_meeting 17 = .ok (.astore 4, 2) := by decide +kernel
theorem dL_meeting_19 : decode cL_meeting 19 = .ok (.iconst 2, 1) := by decide +kernel
theorem dL_meeting_20 : decode cL_meeting 20 = .ok (.ireturn, 1) := by decide +kernel
theorem dL_meeting_21 : decode cL_meeting 21 = .ok (.astore 4, 2) := by decide +kernel
theorem dL_meeting_23 : decode cL_meeting 23 = .ok (.iconst 3, 1) := by decide +kernel
theorem dL_meeting_24 : decode cL_meeting 24 = .ok (.ireturn, 1) := by decide +kernel
theorem dL_meeting_25 : decode cL_meeting 25 = .ok (.iconst 0, 1) := by decide +kernel
theorem dL_meeting_26 : decode cL_meeting 26 = .ok (.ireturn, 1) := by decide +kernel
theorem dL_meetingByDivisors_0 : decode cL_meetingByDivisors 0 = .ok (.aload_n 3, 1) := by decide +kernel
theorem dL_meetingByDivisors_1 : decode cL_meetingByDivisors 1 = .ok (.iconst 0, 1) := by decide +kernel
theorem dL_meetingByDivisors_2 : decode cL_meetingByDivisors 2 = .ok (.aload_n 0, 1) := by decide +kernel
theorem dL_meetingByDivisors_3 : decode cL_meetingByDivisors 3 = .ok (.iload_n 1, 1) := by decide +kernel
theorem dL_meetingByDivisors_4 : decode cL_meetingByDivisors 4 = .ok (.iload_n 2, 1) := by decide +kernel
theorem dL_meetingByDivisors_5 : decode cL_meetingByDivisors 5 = .ok (.invokevirtual 79, 3) := by decide +kernel
theorem dL_meetingByDivisors_8 : decode cL_meetingByDivisors 8 = .ok (.i2l, 1) := by decide +kernel
theorem dL_meetingByDivisors_9 : decode cL_meetingByDivisors 9 = .ok (.lastore, 1) := by decide +kernel
theorem dL_meetingByDivisors_10 : decode cL_meetingByDivisors 10 = .ok (.goto 15, 3) := by decide +kernel
theorem dL_meetingByDivisors_13 : decode cL_meetingByDivisors 13 = .ok (.astore 4, 2) := by decide +kernel
theorem dL_meetingByDivisors_15 : decode cL_meetingByDivisors 15 = .ok (.iconst 1, 1) := by decide +kernel
theorem dL_meetingByDivisors_16 : decode cL_meetingByDivisors 16 = .ok (.ireturn, 1) := by decide +kernel
theorem dL_meetingByDivisors_17 : decode cL_meetingByDivisors 17 = .ok (.astore 4, 2) := by decide +kernel
theorem dL_meetingByDivisors_19 : decode cL_meetingByDivisors 19 = .ok (.iconst 2, 1) := by decide +kernel
theorem dL_meetingByDivisors_20 : decode cL_meetingByDivisors 20 = .ok (.ireturn, 1) := by decide +kernel
theorem dL_meetingByDivisors_21 : decode cL_meetingByDivisors 21 = .ok (.astore 4, 2) := by decide +kernel
theorem dL_meetingByDivisors_23 : decode cL_meetingByDivisors 23 = .ok (.iconst 3, 1) := by decide +kernel
theorem dL_meetingByDivisors_24 : decode cL_meetingByDivisors 24 = .ok (.ireturn, 1) := by decide +kernel
theorem dL_meetingByDivisors_25 : decode cL_meetingByDivisors 25 = .ok (.iconst 0, 1) := by decide +kernel
theorem dL_meetingByDivisors_26 : decode cL_meetingByDivisors 26 = .ok (.ireturn, 1) := by decide +kernel
theorem dL_cycleOf_0 : decode cL_cycleOf 0 = .ok (.aload_n 3, 1) := by decide +kernel
theorem dL_cycleOf_1 : decode cL_cycleOf 1 = .ok (.iconst 0, 1) := by decide +kernel
theorem dL_cycleOf_2 : decode cL_cycleOf 2 = .ok (.aload_n 0, 1) := by decide +kernel
theorem dL_cycleOf_3 : decode cL_cycleOf 3 = .ok (.iload_n 1, 1) := by decide +kernel
theorem dL_cycleOf_4 : decode cL_cycleOf 4 = .ok (.iload_n 2, 1) := by decide +kernel
theorem dL_cycleOf_5 : decode cL_cycleOf 5 = .ok (.invokevirtual 82, 3) := by decide +kernel
theorem dL_cycleOf_8 : decode cL_cycleOf 8 = .ok (.i2l, 1) := by decide +kernel
theorem dL_cycleOf_9 : decode cL_cycleOf 9 = .ok (.lastore, 1) := by decide +kernel
theorem dL_cycleOf_10 : decode cL_cycleOf 10 = .ok (.goto 7, 3) := by decide +kernel
theorem dL_cycleOf_13 : decode cL_cycleOf 13 = .ok (.astore 4, 2) := by decide +kernel
theorem dL_cycleOf_15 : decode cL_cycleOf 15 = .ok (.iconst 1, 1) := by decide +kernel
theorem dL_cycleOf_16 : decode cL_cycleOf 16 = .ok (.ireturn, 1) := by decide +kernel
theorem dL_cycleOf_17 : decode cL_cycleOf 17 = .ok (.iconst 0, 1) := by decide +kernel
theorem dL_cycleOf_18 : decode cL_cycleOf 18 = .ok (.ireturn, 1) := by decide +kernel
theorem dL_addLeg_0 : decode cL_addLeg 0 = .ok (.aload_n 2, 1) := by decide +kernel
theorem dL_addLeg_1 : decode cL_addLeg 1 = .ok (.iconst 0, 1) := by decide +kernel
theorem dL_addLeg_2 : decode cL_addLeg 2 = .ok (.aload_n 0, 1) := by decide +kernel
theorem dL_addLeg_3 : decode cL_addLeg 3 = .ok (.iload_n 1, 1) := by decide +kernel
theorem dL_addLeg_4 : decode cL_addLeg 4 = .ok (.invokevirtual 85, 3) := by decide +kernel
theorem dL_addLeg_7 : decode cL_addLeg 7 = .ok (.i2l, 1) := by decide +kernel
theorem dL_addLeg_8 : decode cL_addLeg 8 = .ok (.lastore, 1) := by decide +kernel
theorem dL_addLeg_9 : decode cL_addLeg 9 = .ok (.goto 9, 3) := by decide +kernel
theorem dL_addLeg_12 : decode cL_addLeg 12 = .ok (.astore_n 3, 1) := by decide +kernel
theorem dL_addLeg_13 : decode cL_addLeg 13 = .ok (.iconst 1, 1) := by decide +kernel
theorem dL_addLeg_14 : decode cL_addLeg 14 = .ok (.ireturn, 1) := by decide +kernel
theorem dL_addLeg_15 : decode cL_addLeg 15 = .ok (.astore_n 3, 1) := by decide +kernel
theorem dL_addLeg_16 : decode cL_addLeg 16 = .ok (.iconst 2, 1) := by decide +kernel
theorem dL_addLeg_17 : decode cL_addLeg 17 = .ok (.ireturn, 1) := by decide +kernel
theorem dL_addLeg_18 : decode cL_addLeg 18 = .ok (.iconst 0, 1) := by decide +kernel
theorem dL_addLeg_19 : decode cL_addLeg 19 = .ok (.ireturn, 1) := by decide +kernel
theorem dL_removeLeg_0 : decode cL_removeLeg 0 = .ok (.aload_n 2, 1) := by decide +kernel
theorem dL_removeLeg_1 : decode cL_removeLeg 1 = .ok (.iconst 0, 1) := by decide +kernel
theorem dL_removeLeg_2 : decode cL_removeLeg 2 = .ok (.aload_n 0, 1) := by decide +kernel
theorem dL_removeLeg_3 : decode cL_removeLeg 3 = .ok (.iload_n 1, 1) := by decide +kernel
theorem dL_removeLeg_4 : decode cL_removeLeg 4 = .ok (.invokevirtual 88, 3) := by decide +kernel
theorem dL_removeLeg_7 : decode cL_removeLeg 7 = .ok (.i2l, 1) := by decide +kernel
theorem dL_removeLeg_8 : decode cL_removeLeg 8 = .ok (.lastore, 1) := by decide +kernel
theorem dL_removeLeg_9 : decode cL_removeLeg 9 = .ok (.goto 6, 3) := by decide +kernel
theorem dL_removeLeg_12 : decode cL_removeLeg 12 = .ok (.astore_n 3, 1) := by decide +kernel
theorem dL_removeLeg_13 : decode cL_removeLeg 13 = .ok (.iconst 1, 1) := by decide +kernel
theorem dL_removeLeg_14 : decode cL_removeLeg 14 = .ok (.ireturn, 1) := by decide +kernel
theorem dL_removeLeg_15 : decode cL_removeLeg 15 = .ok (.iconst 0, 1) := by decide +kernel
theorem dL_removeLeg_16 : decode cL_removeLeg 16 = .ok (.ireturn, 1) := by decide +kernel
theorem dL_wishOf_0 : decode cL_wishOf 0 = .ok (.aload_n 2, 1) := by decide +kernel
theorem dL_wishOf_1 : decode cL_wishOf 1 = .ok (.iconst 0, 1) := by decide +kernel
theorem dL_wishOf_2 : decode cL_wishOf 2 = .ok (.aload_n 0, 1) := by decide +kernel
theorem dL_wishOf_3 : decode cL_wishOf 3 = .ok (.iload_n 1, 1) := by decide +kernel
theorem dL_wishOf_4 : decode cL_wishOf 4 = .ok (.invokevirtual 91, 3) := by decide +kernel
theorem dL_wishOf_7 : decode cL_wishOf 7 = .ok (.i2l, 1) := by decide +kernel
theorem dL_wishOf_8 : decode cL_wishOf 8 = .ok (.lastore, 1) := by decide +kernel
theorem dL_wishOf_9 : decode cL_wishOf 9 = .ok (.goto 6, 3) := by decide +kernel
theorem dL_wishOf_12 : decode cL_wishOf 12 = .ok (.astore_n 3, 1) := by decide +kernel
theorem dL_wishOf_13 : decode cL_wishOf 13 = .ok (.iconst 1, 1) := by decide +kernel
theorem dL_wishOf_14 : decode cL_wishOf 14 = .ok (.ireturn, 1) := by decide +kernel
theorem dL_wishOf_15 : decode cL_wishOf 15 = .ok (.iconst 0, 1) := by decide +kernel
theorem dL_wishOf_16 : decode cL_wishOf 16 = .ok (.ireturn, 1) := by decide +kernel
theorem dL_leastRelay_0 : decode cL_leastRelay 0 = .ok (.aload_n 1, 1) := by decide +kernel
theorem dL_leastRelay_1 : decode cL_leastRelay 1 = .ok (.iconst 0, 1) := by decide +kernel
theorem dL_leastRelay_2 : decode cL_leastRelay 2 = .ok (.aload_n 0, 1) := by decide +kernel
theorem dL_leastRelay_3 : decode cL_leastRelay 3 = .ok (.invokevirtual 94, 3) := by decide +kernel
theorem dL_leastRelay_6 : decode cL_leastRelay 6 = .ok (.i2l, 1) := by decide +kernel
theorem dL_leastRelay_7 : decode cL_leastRelay 7 = .ok (.lastore, 1) := by decide +kernel
theorem dL_leastRelay_8 : decode cL_leastRelay 8 = .ok (.goto 6, 3) := by decide +kernel
theorem dL_leastRelay_11 : decode cL_leastRelay 11 = .ok (.astore_n 2, 1) := by decide +kernel
theorem dL_leastRelay_12 : decode cL_leastRelay 12 = .ok (.iconst 1, 1) := by decide +kernel
theorem dL_leastRelay_13 : decode cL_leastRelay 13 = .ok (.ireturn, 1) := by decide +kernel
theorem dL_leastRelay_14 : decode cL_leastRelay 14 = .ok (.iconst 0, 1) := by decide +kernel
theorem dL_leastRelay_15 : decode cL_leastRelay 15 = .ok (.ireturn, 1) := by decide +kernel
theorem dL_leastRelayByTrying_0 : decode cL_leastRelayByTrying 0 = .ok (.aload_n 1, 1) := by decide +kernel
theorem dL_leastRelayByTrying_1 : decode cL_leastRelayByTrying 1 = .ok (.iconst 0, 1) := by decide +kernel
theorem dL_leastRelayByTrying_2 : decode cL_leastRelayByTrying 2 = .ok (.aload_n 0, 1) := by decide +kernel
theorem dL_leastRelayByTrying_3 : decode cL_leastRelayByTrying 3 = .ok (.invokevirtual 98, 3) := by decide +kernel
theorem dL_leastRelayByTrying_6 : decode cL_leastRelayByTrying 6 = .ok (.i2l, 1) := by decide +kernel
theorem dL_leastRelayByTrying_7 : decode cL_leastRelayByTrying 7 = .ok (.lastore, 1) := by decide +kernel
theorem dL_leastRelayByTrying_8 : decode cL_leastRelayByTrying 8 = .ok (.goto 6, 3) := by decide +kernel
theorem dL_leastRelayByTrying_11 : decode cL_leastRelayByTrying 11 = .ok (.astore_n 2, 1) := by decide +kernel
theorem dL_leastRelayByTrying_12 : decode cL_leastRelayByTrying 12 = .ok (.iconst 1, 1) := by decide +kernel
theorem dL_leastRelayByTrying_13 : decode cL_leastRelayByTrying 13 = .ok (.ireturn, 1) := by decide +kernel
theorem dL_leastRelayByTrying_14 : decode cL_leastRelayByTrying 14 = .ok (.iconst 0, 1) := by decide +kernel
theorem dL_leastRelayByTrying_15 : decode cL_leastRelayByTrying 15 = .ok (.ireturn, 1) := by decide +kernel
theorem dL_runnerOf_0 : decode cL_runnerOf 0 = .ok (.aload_n 2, 1) := by decide +kernel
theorem dL_runnerOf_1 : decode cL_runnerOf 1 = .ok (.iconst 0, 1) := by decide +kernel
theorem dL_runnerOf_2 : decode cL_runnerOf 2 = .ok (.aload_n 0, 1) := by decide +kernel
theorem dL_runnerOf_3 : decode cL_runnerOf 3 = .ok (.iload_n 1, 1) := by decide +kernel
theorem dL_runnerOf_4 : decode cL_runnerOf 4 = .ok (.invokevirtual 101, 3) := by decide +kernel
theorem dL_runnerOf_7 : decode cL_runnerOf 7 = .ok (.i2l, 1) := by decide +kernel
theorem dL_runnerOf_8 : decode cL_runnerOf 8 = .ok (.lastore, 1) := by decide +kernel
theorem dL_runnerOf_9 : decode cL_runnerOf 9 = .ok (.goto 9, 3) := by decide +kernel
theorem dL_runnerOf_12 : decode cL_runnerOf 12 = .ok (.astore_n 3, 1) := by decide +kernel
theorem dL_runnerOf_13 : decode cL_runnerOf 13 = .ok (.iconst 1, 1) := by decide +kernel
theorem dL_runnerOf_14 : decode cL_runnerOf 14 = .ok (.ireturn, 1) := by decide +kernel
theorem dL_runnerOf_15 : decode cL_runnerOf 15 = .ok (.astore_n 3, 1) := by decide +kernel
theorem dL_runnerOf_16 : decode cL_runnerOf 16 = .ok (.iconst 2, 1) := by decide +kernel
theorem dL_runnerOf_17 : decode cL_runnerOf 17 = .ok (.ireturn, 1) := by decide +kernel
theorem dL_runnerOf_18 : decode cL_runnerOf 18 = .ok (.iconst 0, 1) := by decide +kernel
theorem dL_runnerOf_19 : decode cL_runnerOf 19 = .ok (.ireturn, 1) := by decide +kernel
theorem dL_fewestFor_0 : decode cL_fewestFor 0 = .ok (.aload_n 2, 1) := by decide +kernel
theorem dL_fewestFor_1 : decode cL_fewestFor 1 = .ok (.iconst 0, 1) := by decide +kernel
theorem dL_fewestFor_2 : decode cL_fewestFor 2 = .ok (.aload_n 0, 1) := by decide +kernel
theorem dL_fewestFor_3 : decode cL_fewestFor 3 = .ok (.iload_n 1, 1) := by decide +kernel
theorem dL_fewestFor_4 : decode cL_fewestFor 4 = .ok (.invokevirtual 104, 3) := by decide +kernel
theorem dL_fewestFor_7 : decode cL_fewestFor 7 = .ok (.i2l, 1) := by decide +kernel
theorem dL_fewestFor_8 : decode cL_fewestFor 8 = .ok (.lastore, 1) := by decide +kernel
theorem dL_fewestFor_9 : decode cL_fewestFor 9 = .ok (.goto 9, 3) := by decide +kernel
theorem dL_fewestFor_12 : decode cL_fewestFor 12 = .ok (.astore_n 3, 1) := by decide +kernel
theorem dL_fewestFor_13 : decode cL_fewestFor 13 = .ok (.iconst 1, 1) := by decide +kernel
theorem dL_fewestFor_14 : decode cL_fewestFor 14 = .ok (.ireturn, 1) := by decide +kernel
theorem dL_fewestFor_15 : decode cL_fewestFor 15 = .ok (.astore_n 3, 1) := by decide +kernel
theorem dL_fewestFor_16 : decode cL_fewestFor 16 = .ok (.iconst 2, 1) := by decide +kernel
theorem dL_fewestFor_17 : decode cL_fewestFor 17 = .ok (.ireturn, 1) := by decide +kernel
theorem dL_fewestFor_18 : decode cL_fewestFor 18 = .ok (.iconst 0, 1) := by decide +kernel
theorem dL_fewestFor_19 : decode cL_fewestFor 19 = .ok (.ireturn, 1) := by decide +kernel
theorem dL_fewestForBySets_0 : decode cL_fewestForBySets 0 = .ok (.aload_n 2, 1) := by decide +kernel
theorem dL_fewestForBySets_1 : decode cL_fewestForBySets 1 = .ok (.iconst 0, 1) := by decide +kernel
theorem dL_fewestForBySets_2 : decode cL_fewestForBySets 2 = .ok (.aload_n 0, 1) := by decide +kernel
theorem dL_fewestForBySets_3 : decode cL_fewestForBySets 3 = .ok (.iload_n 1, 1) := by decide +kernel
theorem dL_fewestForBySets_4 : decode cL_fewestForBySets 4 = .ok (.invokevirtual 107, 3) := by decide +kernel
theorem dL_fewestForBySets_7 : decode cL_fewestForBySets 7 = .ok (.i2l, 1) := by decide +kernel
theorem dL_fewestForBySets_8 : decode cL_fewestForBySets 8 = .ok (.lastore, 1) := by decide +kernel
theorem dL_fewestForBySets_9 : decode cL_fewestForBySets 9 = .ok (.goto 9, 3) := by decide +kernel
theorem dL_fewestForBySets_12 : decode cL_fewestForBySets 12 = .ok (.astore_n 3, 1) := by decide +kernel
theorem dL_fewestForBySets_13 : decode cL_fewestForBySets 13 = .ok (.iconst 1, 1) := by decide +kernel
theorem dL_fewestForBySets_14 : decode cL_fewestForBySets 14 = .ok (.ireturn, 1) := by decide +kernel
theorem dL_fewestForBySets_15 : decode cL_fewestForBySets 15 = .ok (.astore_n 3, 1) := by decide +kernel
theorem dL_fewestForBySets_16 : decode cL_fewestForBySets 16 = .ok (.iconst 2, 1) := by decide +kernel
theorem dL_fewestForBySets_17 : decode cL_fewestForBySets 17 = .ok (.ireturn, 1) := by decide +kernel
theorem dL_fewestForBySets_18 : decode cL_fewestForBySets 18 = .ok (.iconst 0, 1) := by decide +kernel
theorem dL_fewestForBySets_19 : decode cL_fewestForBySets 19 = .ok (.ireturn, 1) := by decide +kernel
theorem dL_exactSets_0 : decode cL_exactSets 0 = .ok (.aload_n 2, 1) := by decide +kernel
theorem dL_exactSets_1 : decode cL_exactSets 1 = .ok (.iconst 0, 1) := by decide +kernel
theorem dL_exactSets_2 : decode cL_exactSets 2 = .ok (.aload_n 0, 1) := by decide +kernel
theorem dL_exactSets_3 : decode cL_exactSets 3 = .ok (.iload_n 1, 1) := by decide +kernel
theorem dL_exactSets_4 : decode cL_exactSets 4 = .ok (.invokevirtual 110, 3) := by decide +kernel
theorem dL_exactSets_7 : decode cL_exactSets 7 = .ok (.i2l, 1) := by decide +kernel
theorem dL_exactSets_8 : decode cL_exactSets 8 = .ok (.lastore, 1) := by decide +kernel
theorem dL_exactSets_9 : decode cL_exactSets 9 = .ok (.goto 6, 3) := by decide +kernel
theorem dL_exactSets_12 : decode cL_exactSets 12 = .ok (.astore_n 3, 1) := by decide +kernel
theorem dL_exactSets_13 : decode cL_exactSets 13 = .ok (.iconst 1, 1) := by decide +kernel
theorem dL_exactSets_14 : decode cL_exactSets 14 = .ok (.ireturn, 1) := by decide +kernel
theorem dL_exactSets_15 : decode cL_exactSets 15 = .ok (.iconst 0, 1) := by decide +kernel
theorem dL_exactSets_16 : decode cL_exactSets 16 = .ok (.ireturn, 1) := by decide +kernel
theorem dL_meanAmplitude_0 : decode cL_meanAmplitude 0 = .ok (.aload_n 1, 1) := by decide +kernel
theorem dL_meanAmplitude_1 : decode cL_meanAmplitude 1 = .ok (.iconst 0, 1) := by decide +kernel
theorem dL_meanAmplitude_2 : decode cL_meanAmplitude 2 = .ok (.aload_n 0, 1) := by decide +kernel
theorem dL_meanAmplitude_3 : decode cL_meanAmplitude 3 = .ok (.invokevirtual 113, 3) := by decide +kernel
theorem dL_meanAmplitude_6 : decode cL_meanAmplitude 6 = .ok (.dastore, 1) := by decide +kernel
theorem dL_meanAmplitude_7 : decode cL_meanAmplitude 7 = .ok (.goto 6, 3) := by decide +kernel
theorem dL_meanAmplitude_10 : decode cL_meanAmplitude 10 = .ok (.astore_n 2, 1) := by decide +kernel
theorem dL_meanAmplitude_11 : decode cL_meanAmplitude 11 = .ok (.iconst 1, 1) := by decide +kernel
theorem dL_meanAmplitude_12 : decode cL_meanAmplitude 12 = .ok (.ireturn, 1) := by decide +kernel
theorem dL_meanAmplitude_13 : decode cL_meanAmplitude 13 = .ok (.iconst 0, 1) := by decide +kernel
theorem dL_meanAmplitude_14 : decode cL_meanAmplitude 14 = .ok (.ireturn, 1) := by decide +kernel
theorem dL_writeCard_0 : decode cL_writeCard 0 = .ok (.aload_n 2, 1) := by decide +kernel
theorem dL_writeCard_1 : decode cL_writeCard 1 = .ok (.iconst 0, 1) := by decide +kernel
theorem dL_writeCard_2 : decode cL_writeCard 2 = .ok (.aload_n 0, 1) := by decide +kernel
theorem dL_writeCard_3 : decode cL_writeCard 3 = .ok (.iload_n 1, 1) := by decide +kernel
theorem dL_writeCard_4 : decode cL_writeCard 4 = .ok (.invokevirtual 119, 3) := by decide +kernel
theorem dL_writeCard_7 : decode cL_writeCard 7 = .ok (.i2l, 1) := by decide +kernel
theorem dL_writeCard_8 : decode cL_writeCard 8 = .ok (.lastore, 1) := by decide +kernel
theorem dL_writeCard_9 : decode cL_writeCard 9 = .ok (.goto 6, 3) := by decide +kernel
theorem dL_writeCard_12 : decode cL_writeCard 12 = .ok (.astore_n 3, 1) := by decide +kernel
theorem dL_writeCard_13 : decode cL_writeCard 13 = .ok (.iconst 1, 1) := by decide +kernel
theorem dL_writeCard_14 : decode cL_writeCard 14 = .ok (.ireturn, 1) := by decide +kernel
theorem dL_writeCard_15 : decode cL_writeCard 15 = .ok (.iconst 0, 1) := by decide +kernel
theorem dL_writeCard_16 : decode cL_writeCard 16 = .ok (.ireturn, 1) := by decide +kernel
theorem dL_cardAt_0 : decode cL_cardAt 0 = .ok (.aload_n 2, 1) := by decide +kernel
theorem dL_cardAt_1 : decode cL_cardAt 1 = .ok (.iconst 0, 1) := by decide +kernel
theorem dL_cardAt_2 : decode cL_cardAt 2 = .ok (.aload_n 0, 1) := by decide +kernel
theorem dL_cardAt_3 : decode cL_cardAt 3 = .ok (.iload_n 1, 1) := by decide +kernel
theorem dL_cardAt_4 : decode cL_cardAt 4 = .ok (.invokevirtual 122, 3) := by decide +kernel
theorem dL_cardAt_7 : decode cL_cardAt 7 = .ok (.i2l, 1) := by decide +kernel
theorem dL_cardAt_8 : decode cL_cardAt 8 = .ok (.lastore, 1) := by decide +kernel
theorem dL_cardAt_9 : decode cL_cardAt 9 = .ok (.goto 6, 3) := by decide +kernel
theorem dL_cardAt_12 : decode cL_cardAt 12 = .ok (.astore_n 3, 1) := by decide +kernel
theorem dL_cardAt_13 : decode cL_cardAt 13 = .ok (.iconst 1, 1) := by decide +kernel
theorem dL_cardAt_14 : decode cL_cardAt 14 = .ok (.ireturn, 1) := by decide +kernel
theorem dL_cardAt_15 : decode cL_cardAt 15 = .ok (.iconst 0, 1) := by decide +kernel
theorem dL_cardAt_16 : decode cL_cardAt 16 = .ok (.ireturn, 1) := by decide +kernel
theorem dL_type_0 : decode cL_type 0 = .ok (.aload_n 2, 1) := by decide +kernel
theorem dL_type_1 : decode cL_type 1 = .ok (.iconst 0, 1) := by decide +kernel
theorem dL_type_2 : decode cL_type 2 = .ok (.aload_n 0, 1) := by decide +kernel
theorem dL_type_3 : decode cL_type 3 = .ok (.iload_n 1, 1) := by decide +kernel
theorem dL_type_4 : decode cL_type 4 = .ok (.invokevirtual 126, 3) := by decide +kernel
theorem dL_type_7 : decode cL_type 7 = .ok (.i2l, 1) := by decide +kernel
theorem dL_type_8 : decode cL_type 8 = .ok (.lastore, 1) := by decide +kernel
theorem dL_type_9 : decode cL_type 9 = .ok (.goto 9, 3) := by decide +kernel
theorem dL_type_12 : decode cL_type 12 = .ok (.astore_n 3, 1) := by decide +kernel
theorem dL_type_13 : decode cL_type 13 = .ok (.iconst 1, 1) := by decide +kernel
theorem dL_type_14 : decode cL_type 14 = .ok (.ireturn, 1) := by decide +kernel
theorem dL_type_15 : decode cL_type 15 = .ok (.astore_n 3, 1) := by decide +kernel
theorem dL_type_16 : decode cL_type 16 = .ok (.iconst 2, 1) := by decide +kernel
theorem dL_type_17 : decode cL_type 17 = .ok (.ireturn, 1) := by decide +kernel
theorem dL_type_18 : decode cL_type 18 = .ok (.iconst 0, 1) := by decide +kernel
theorem dL_type_19 : decode cL_type 19 = .ok (.ireturn, 1) := by decide +kernel
theorem dL_execute_0 : decode cL_execute 0 = .ok (.aload_n 1, 1) := by decide +kernel
theorem dL_execute_1 : decode cL_execute 1 = .ok (.iconst 0, 1) := by decide +kernel
theorem dL_execute_2 : decode cL_execute 2 = .ok (.aload_n 0, 1) := by decide +kernel
theorem dL_execute_3 : decode cL_execute 3 = .ok (.invokevirtual 130, 3) := by decide +kernel
theorem dL_execute_6 : decode cL_execute 6 = .ok (.i2l, 1) := by decide +kernel
theorem dL_execute_7 : decode cL_execute 7 = .ok (.lastore, 1) := by decide +kernel
theorem dL_execute_8 : decode cL_execute 8 = .ok (.goto 9, 3) := by decide +kernel
theorem dL_execute_11 : decode cL_execute 11 = .ok (.astore_n 2, 1) := by decide +kernel
theorem dL_execute_12 : decode cL_execute 12 = .ok (.iconst 1, 1) := by decide +kernel
theorem dL_execute_13 : decode cL_execute 13 = .ok (.ireturn, 1) := by decide +kernel
theorem dL_execute_14 : decode cL_execute 14 = .ok (.astore_n 2, 1) := by decide +kernel
theorem dL_execute_15 : decode cL_execute 15 = .ok (.iconst 2, 1) := by decide +kernel
theorem dL_execute_16 : decode cL_execute 16 = .ok (.ireturn, 1) := by decide +kernel
theorem dL_execute_17 : decode cL_execute 17 = .ok (.iconst 0, 1) := by decide +kernel
theorem dL_execute_18 : decode cL_execute 18 = .ok (.ireturn, 1) := by decide +kernel
theorem dL_errorPosition_0 : decode cL_errorPosition 0 = .ok (.aload_n 1, 1) := by decide +kernel
theorem dL_errorPosition_1 : decode cL_errorPosition 1 = .ok (.iconst 0, 1) := by decide +kernel
theorem dL_errorPosition_2 : decode cL_errorPosition 2 = .ok (.aload_n 0, 1) := by decide +kernel
theorem dL_errorPosition_3 : decode cL_errorPosition 3 = .ok (.invokevirtual 133, 3) := by decide +kernel
theorem dL_errorPosition_6 : decode cL_errorPosition 6 = .ok (.i2l, 1) := by decide +kernel
theorem dL_errorPosition_7 : decode cL_errorPosition 7 = .ok (.lastore, 1) := by decide +kernel
theorem dL_errorPosition_8 : decode cL_errorPosition 8 = .ok (.goto 6, 3) := by decide +kernel
theorem dL_errorPosition_11 : decode cL_errorPosition 11 = .ok (.astore_n 2, 1) := by decide +kernel
theorem dL_errorPosition_12 : decode cL_errorPosition 12 = .ok (.iconst 1, 1) := by decide +kernel
theorem dL_errorPosition_13 : decode cL_errorPosition 13 = .ok (.ireturn, 1) := by decide +kernel
theorem dL_errorPosition_14 : decode cL_errorPosition 14 = .ok (.iconst 0, 1) := by decide +kernel
theorem dL_errorPosition_15 : decode cL_errorPosition 15 = .ok (.ireturn, 1) := by decide +kernel
theorem dL_failedCommand_0 : decode cL_failedCommand 0 = .ok (.aload_n 1, 1) := by decide +kernel
theorem dL_failedCommand_1 : decode cL_failedCommand 1 = .ok (.iconst 0, 1) := by decide +kernel
theorem dL_failedCommand_2 : decode cL_failedCommand 2 = .ok (.aload_n 0, 1) := by decide +kernel
theorem dL_failedCommand_3 : decode cL_failedCommand 3 = .ok (.invokevirtual 136, 3) := by decide +kernel
theorem dL_failedCommand_6 : decode cL_failedCommand 6 = .ok (.i2l, 1) := by decide +kernel
theorem dL_failedCommand_7 : decode cL_failedCommand 7 = .ok (.lastore, 1) := by decide +kernel
theorem dL_failedCommand_8 : decode cL_failedCommand 8 = .ok (.goto 6, 3) := by decide +kernel
theorem dL_failedCommand_11 : decode cL_failedCommand 11 = .ok (.astore_n 2, 1) := by decide +kernel
theorem dL_failedCommand_12 : decode cL_failedCommand 12 = .ok (.iconst 1, 1) := by decide +kernel
theorem dL_failedCommand_13 : decode cL_failedCommand 13 = .ok (.ireturn, 1) := by decide +kernel
theorem dL_failedCommand_14 : decode cL_failedCommand 14 = .ok (.iconst 0, 1) := by decide +kernel
theorem dL_failedCommand_15 : decode cL_failedCommand 15 = .ok (.ireturn, 1) := by decide +kernel
theorem dL_undo_0 : decode cL_undo 0 = .ok (.aload_n 1, 1) := by decide +kernel
theorem dL_undo_1 : decode cL_undo 1 = .ok (.iconst 0, 1) := by decide +kernel
theorem dL_undo_2 : decode cL_undo 2 = .ok (.aload_n 0, 1) := by decide +kernel
theorem dL_undo_3 : decode cL_undo 3 = .ok (.invokevirtual 139, 3) := by decide +kernel
theorem dL_undo_6 : decode cL_undo 6 = .ok (.i2l, 1) := by decide +kernel
theorem dL_undo_7 : decode cL_undo 7 = .ok (.lastore, 1) := by decide +kernel
theorem dL_undo_8 : decode cL_undo 8 = .ok (.goto 6, 3) := by decide +kernel
theorem dL_undo_11 : decode cL_undo 11 = .ok (.astore_n 2, 1) := by decide +kernel
theorem dL_undo_12 : decode cL_undo 12 = .ok (.iconst 1, 1) := by decide +kernel
theorem dL_undo_13 : decode cL_undo 13 = .ok (.ireturn, 1) := by decide +kernel
theorem dL_undo_14 : decode cL_undo 14 = .ok (.iconst 0, 1) := by decide +kernel
theorem dL_undo_15 : decode cL_undo 15 = .ok (.ireturn, 1) := by decide +kernel
theorem dL_restore_0 : decode cL_restore 0 = .ok (.aload_n 1, 1) := by decide +kernel
theorem dL_restore_1 : decode cL_restore 1 = .ok (.iconst 0, 1) := by decide +kernel
theorem dL_restore_2 : decode cL_restore 2 = .ok (.aload_n 0, 1) := by decide +kernel
theorem dL_restore_3 : decode cL_restore 3 = .ok (.invokevirtual 142, 3) := by decide +kernel
theorem dL_restore_6 : decode cL_restore 6 = .ok (.i2l, 1) := by decide +kernel
theorem dL_restore_7 : decode cL_restore 7 = .ok (.lastore, 1) := by decide +kernel
theorem dL_restore_8 : decode cL_restore 8 = .ok (.goto 6, 3) := by decide +kernel
theorem dL_restore_11 : decode cL_restore 11 = .ok (.astore_n 2, 1) := by decide +kernel
theorem dL_restore_12 : decode cL_restore 12 = .ok (.iconst 1, 1) := by decide +kernel
theorem dL_restore_13 : decode cL_restore 13 = .ok (.ireturn, 1) := by decide +kernel
theorem dL_restore_14 : decode cL_restore 14 = .ok (.iconst 0, 1) := by decide +kernel
theorem dL_restore_15 : decode cL_restore 15 = .ok (.ireturn, 1) := by decide +kernel
