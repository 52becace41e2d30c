theorem dL_addMember_0 : decode cL_addMember 0 = .ok (.aload_n 3, 1) := by decide +kernel
theorem dL_addMember_1 : decode cL_addMember 1 = .ok (.iconst 0, 1) := by decide +kernel
theorem dL_addMember_2 : decode cL_addMember 2 = .ok (.aload_n 0, 1) := by decide +kernel
theorem dL_addMember_3 : decode cL_addMember 3 = .ok (.iload_n 1, 1) := by decide +kernel
theorem dL_addMember_4 : decode cL_addMember 4 = .ok (.iload_n 2, 1) := by decide +kernel
theorem dL_addMember_5 : decode cL_addMember 5 = .ok (.invokevirtual 7, 3) := by decide +kernel
theorem dL_addMember_8 : decode cL_addMember 8 = .ok (.i2l, 1) := by decide +kernel
theorem dL_addMember_9 : decode cL_addMember 9 = .ok (.lastore, 1) := by decide +kernel
theorem dL_addMember_10 : decode cL_addMember 10 = .ok (.goto 15, 3) := by decide +kernel
theorem dL_addMember_13 : decode cL_addMember 13 = .ok (.astore 4, 2) := by decide +kernel
theorem dL_addMember_15 : decode cL_addMember 15 = .ok (.iconst 1, 1) := by decide +kernel
theorem dL_addMember_16 : decode cL_addMember 16 = .ok (.ireturn, 1) := by decide +kernel
theorem dL_addMember_17 : decode cL_addMember 17 = .ok (.astore 4, 2) := by decide +kernel
theorem dL_addMember_19 : decode cL_addMember 19 = .ok (.iconst 2, 1) := by decide +kernel
theorem dL_addMember_20 : decode cL_addMember 20 = .ok (.ireturn, 1) := by decide +kernel
theorem dL_addMember_21 : decode cL_addMember 21 = .ok (.astore 4, 2) := by decide +kernel
theorem dL_addMember_23 : decode cL_addMember 23 = .ok (.iconst 3, 1) := by decide +kernel
theorem dL_addMember_24 : decode cL_addMember 24 = .ok (.ireturn, 1) := by decide +kernel
theorem dL_addMember_25 : decode cL_addMember 25 = .ok (.iconst 0, 1) := by decide +kernel
theorem dL_addMember_26 : decode cL_addMember 26 = .ok (.ireturn, 1) := by decide +kernel
theorem dL_roofOf_0 : decode cL_roofOf 0 = .ok (.aload_n 2, 1) := by decide +kernel
theorem dL_roofOf_1 : decode cL_roofOf 1 = .ok (.iconst 0, 1) := by decide +kernel
theorem dL_roofOf_2 : decode cL_roofOf 2 = .ok (.aload_n 0, 1) := by decide +kernel
theorem dL_roofOf_3 : decode cL_roofOf 3 = .ok (.iload_n 1, 1) := by decide +kernel
theorem dL_roofOf_4 : decode cL_roofOf 4 = .ok (.invokevirtual 19, 3) := by decide +kernel
theorem dL_roofOf_7 : decode cL_roofOf 7 = .ok (.i2l, 1) := by decide +kernel
theorem dL_roofOf_8 : decode cL_roofOf 8 = .ok (.lastore, 1) := by decide +kernel
theorem dL_roofOf_9 : decode cL_roofOf 9 = .ok (.goto 6, 3) := by decide +kernel
theorem dL_roofOf_12 : decode cL_roofOf 12 = .ok (.astore_n 3, 1) := by decide +kernel
theorem dL_roofOf_13 : decode cL_roofOf 13 = .ok (.iconst 1, 1) := by decide +kernel
theorem dL_roofOf_14 : decode cL_roofOf 14 = .ok (.ireturn, 1) := by decide +kernel
theorem dL_roofOf_15 : decode cL_roofOf 15 = .ok (.iconst 0, 1) := by decide +kernel
theorem dL_roofOf_16 : decode cL_roofOf 16 = .ok (.ireturn, 1) := by decide +kernel
theorem dL_membersOn_0 : decode cL_membersOn 0 = .ok (.aload_n 2, 1) := by decide +kernel
theorem dL_membersOn_1 : decode cL_membersOn 1 = .ok (.iconst 0, 1) := by decide +kernel
theorem dL_membersOn_2 : decode cL_membersOn 2 = .ok (.aload_n 0, 1) := by decide +kernel
theorem dL_membersOn_3 : decode cL_membersOn 3 = .ok (.iload_n 1, 1) := by decide +kernel
theorem dL_membersOn_4 : decode cL_membersOn 4 = .ok (.invokevirtual 23, 3) := by decide +kernel
theorem dL_membersOn_7 : decode cL_membersOn 7 = .ok (.i2l, 1) := by decide +kernel
theorem dL_membersOn_8 : decode cL_membersOn 8 = .ok (.lastore, 1) := by decide +kernel
theorem dL_membersOn_9 : decode cL_membersOn 9 = .ok (.goto 6, 3) := by decide +kernel
theorem dL_membersOn_12 : decode cL_membersOn 12 = .ok (.astore_n 3, 1) := by decide +kernel
theorem dL_membersOn_13 : decode cL_membersOn 13 = .ok (.iconst 1, 1) := by decide +kernel
theorem dL_membersOn_14 : decode cL_membersOn 14 = .ok (.ireturn, 1) := by decide +kernel
theorem dL_membersOn_15 : decode cL_membersOn 15 = .ok (.iconst 0, 1) := by decide +kernel
theorem dL_membersOn_16 : decode cL_membersOn 16 = .ok (.ireturn, 1) := by decide +kernel
theorem dL_rateOf_0 : decode cL_rateOf 0 = .ok (.aload_n 2, 1) := by decide +kernel
theorem dL_rateOf_1 : decode cL_rateOf 1 = .ok (.iconst 0, 1) := by decide +kernel
theorem dL_rateOf_2 : decode cL_rateOf 2 = .ok (.aload_n 0, 1) := by decide +kernel
theorem dL_rateOf_3 : decode cL_rateOf 3 = .ok (.iload_n 1, 1) := by decide +kernel
theorem dL_rateOf_4 : decode cL_rateOf 4 = .ok (.invokevirtual 26, 3) := by decide +kernel
theorem dL_rateOf_7 : decode cL_rateOf 7 = .ok (.i2l, 1) := by decide +kernel
theorem dL_rateOf_8 : decode cL_rateOf 8 = .ok (.lastore, 1) := by decide +kernel
theorem dL_rateOf_9 : decode cL_rateOf 9 = .ok (.goto 6, 3) := by decide +kernel
theorem dL_rateOf_12 : decode cL_rateOf 12 = .ok (.astore_n 3, 1) := by decide +kernel
theorem dL_rateOf_13 : decode cL_rateOf 13 = .ok (.iconst 1, 1) := by decide +kernel
theorem dL_rateOf_14 : decode cL_rateOf 14 = .ok (.ireturn, 1) := by decide +kernel
theorem dL_rateOf_15 : decode cL_rateOf 15 = .ok (.iconst 0, 1) := by decide +kernel
theorem dL_rateOf_16 : decode cL_rateOf 16 = .ok (.ireturn, 1) := by decide +kernel
theorem dL_bearingOf_0 : decode cL_bearingOf 0 = .ok (.aload_n 2, 1) := by decide +kernel
theorem dL_bearingOf_1 : decode cL_bearingOf 1 = .ok (.iconst 0, 1) := by decide +kernel
theorem dL_bearingOf_2 : decode cL_bearingOf 2 = .ok (.aload_n 0, 1) := by decide +kernel
theorem dL_bearingOf_3 : decode cL_bearingOf 3 = .ok (.iload_n 1, 1) := by decide +kernel
theorem dL_bearingOf_4 : decode cL_bearingOf 4 = .ok (.invokevirtual 29, 3) := by decide +kernel
theorem dL_bearingOf_7 : decode cL_bearingOf 7 = .ok (.i2l, 1) := by decide +kernel
theorem dL_bearingOf_8 : decode cL_bearingOf 8 = .ok (.lastore, 1) := by decide +kernel
theorem dL_bearingOf_9 : decode cL_bearingOf 9 = .ok (.goto 6, 3) := by decide +kernel
theorem dL_bearingOf_12 : decode cL_bearingOf 12 = .ok (.astore_n 3, 1) := by decide +kernel
theorem dL_bearingOf_13 : decode cL_bearingOf 13 = .ok (.iconst 1, 1) := by decide +kernel
theorem dL_bearingOf_14 : decode cL_bearingOf 14 = .ok (.ireturn, 1) := by decide +kernel
theorem dL_bearingOf_15 : decode cL_bearingOf 15 = .ok (.iconst 0, 1) := by decide +kernel
theorem dL_bearingOf_16 : decode cL_bearingOf 16 = .ok (.ireturn, 1) := by decide +kernel
theorem dL_wagesOf_0 : decode cL_wagesOf 0 = .ok (.aload_n 2, 1) := by decide +kernel
theorem dL_wagesOf_1 : decode cL_wagesOf 1 = .ok (.iconst 0, 1) := by decide +kernel
theorem dL_wagesOf_2 : decode cL_wagesOf 2 = .ok (.aload_n 0, 1) := by decide +kernel
theorem dL_wagesOf_3 : decode cL_wagesOf 3 = .ok (.iload_n 1, 1) := by decide +kernel
theorem dL_wagesOf_4 : decode cL_wagesOf 4 = .ok (.invokevirtual 32, 3) := by decide +kernel
theorem dL_wagesOf_7 : decode cL_wagesOf 7 = .ok (.i2l, 1) := by decide +kernel
theorem dL_wagesOf_8 : decode cL_wagesOf 8 = .ok (.lastore, 1) := by decide +kernel
theorem dL_wagesOf_9 : decode cL_wagesOf 9 = .ok (.goto 6, 3) := by decide +kernel
theorem dL_wagesOf_12 : decode cL_wagesOf 12 = .ok (.astore_n 3, 1) := by decide +kernel
theorem dL_wagesOf_13 : decode cL_wagesOf 13 = .ok (.iconst 1, 1) := by decide +kernel
theorem dL_wagesOf_14 : decode cL_wagesOf 14 = .ok (.ireturn, 1) := by decide +kernel
theorem dL_wagesOf_15 : decode cL_wagesOf 15 = .ok (.iconst 0, 1) := by decide +kernel
theorem dL_wagesOf_16 : decode cL_wagesOf 16 = .ok (.ireturn, 1) := by decide +kernel
theorem dL_supportOf_0 : decode cL_supportOf 0 = .ok (.aload_n 2, 1) := by decide +kernel
theorem dL_supportOf_1 : decode cL_supportOf 1 = .ok (.iconst 0, 1) := by decide +kernel
theorem dL_supportOf_2 : decode cL_supportOf 2 = .ok (.aload_n 0, 1) := by decide +kernel
theorem dL_supportOf_3 : decode cL_supportOf 3 = .ok (.iload_n 1, 1) := by decide +kernel
theorem dL_supportOf_4 : decode cL_supportOf 4 = .ok (.invokevirtual 35, 3) := by decide +kernel
theorem dL_supportOf_7 : decode cL_supportOf 7 = .ok (.i2l, 1) := by decide +kernel
theorem dL_supportOf_8 : decode cL_supportOf 8 = .ok (.lastore, 1) := by decide +kernel
theorem dL_supportOf_9 : decode cL_supportOf 9 = .ok (.goto 6, 3) := by decide +kernel
theorem dL_supportOf_12 : decode cL_supportOf 12 = .ok (.astore_n 3, 1) := by decide +kernel
theorem dL_supportOf_13 : decode cL_supportOf 13 = .ok (.iconst 1, 1) := by decide +kernel
theorem dL_supportOf_14 : decode cL_supportOf 14 = .ok (.ireturn, 1) := by decide +kernel
theorem dL_supportOf_15 : decode cL_supportOf 15 = .ok (.iconst 0, 1) := by decide +kernel
theorem dL_supportOf_16 : decode cL_supportOf 16 = .ok (.ireturn, 1) := by decide +kernel
theorem dL_lostShifts_0 : decode cL_lostShifts 0 = .ok (.aload_n 2, 1) := by decide +kernel
theorem dL_lostShifts_1 : decode cL_lostShifts 1 = .ok (.iconst 0, 1) := by decide +kernel
theorem dL_lostShifts_2 : decode cL_lostShifts 2 = .ok (.aload_n 0, 1) := by decide +kernel
theorem dL_lostShifts_3 : decode cL_lostShifts 3 = .ok (.iload_n 1, 1) := by decide +kernel
theorem dL_lostShifts_4 : decode cL_lostShifts 4 = .ok (.invokevirtual 38, 3) := by decide +kernel
theorem dL_lostShifts_7 : decode cL_lostShifts 7 = .ok (.i2l, 1) := by decide +kernel
theorem dL_lostShifts_8 : decode cL_lostShifts 8 = .ok (.lastore, 1) := by decide +kernel
theorem dL_lostShifts_9 : decode cL_lostShifts 9 = .ok (.goto 6, 3) := by decide +kernel
theorem dL_lostShifts_12 : decode cL_lostShifts 12 = .ok (.astore_n 3, 1) := by decide +kernel
theorem dL_lostShifts_13 : decode cL_lostShifts 13 = .ok (.iconst 1, 1) := by decide +kernel
theorem dL_lostShifts_14 : decode cL_lostShifts 14 = .ok (.ireturn, 1) := by decide +kernel
theorem dL_lostShifts_15 : decode cL_lostShifts 15 = .ok (.iconst 0, 1) := by decide +kernel
theorem dL_lostShifts_16 : decode cL_lostShifts 16 = .ok (.ireturn, 1) := by decide +kernel
theorem dL_lostDays_0 : decode cL_lostDays 0 = .ok (.aload_n 2, 1) := by decide +kernel
theorem dL_lostDays_1 : decode cL_lostDays 1 = .ok (.iconst 0, 1) := by decide +kernel
theorem dL_lostDays_2 : decode cL_lostDays 2 = .ok (.aload_n 0, 1) := by decide +kernel
theorem dL_lostDays_3 : decode cL_lostDays 3 = .ok (.iload_n 1, 1) := by decide +kernel
theorem dL_lostDays_4 : decode cL_lostDays 4 = .ok (.invokevirtual 41, 3) := by decide +kernel
theorem dL_lostDays_7 : decode cL_lostDays 7 = .ok (.f2d, 1) := by decide +kernel
theorem dL_lostDays_8 : decode cL_lostDays 8 = .ok (.dastore, 1) := by decide +kernel
theorem dL_lostDays_9 : decode cL_lostDays 9 = .ok (.goto 6, 3) := by decide +kernel
theorem dL_lostDays_12 : decode cL_lostDays 12 = .ok (.astore_n 3, 1) := by decide +kernel
theorem dL_lostDays_13 : decode cL_lostDays 13 = .ok (.iconst 1, 1) := by decide +kernel
theorem dL_lostDays_14 : decode cL_lostDays 14 = .ok (.ireturn, 1) := by decide +kernel
theorem dL_lostDays_15 : decode cL_lostDays 15 = .ok (.iconst 0, 1) := by decide +kernel
theorem dL_lostDays_16 : decode cL_lostDays 16 = .ok (.ireturn, 1) := by decide +kernel
theorem dL_dutiesOf_0 : decode cL_dutiesOf 0 = .ok (.aload_n 2, 1) := by decide +kernel
theorem dL_dutiesOf_1 : decode cL_dutiesOf 1 = .ok (.iconst 0, 1) := by decide +kernel
theorem dL_dutiesOf_2 : decode cL_dutiesOf 2 = .ok (.aload_n 0, 1) := by decide +kernel
theorem dL_dutiesOf_3 : decode cL_dutiesOf 3 = .ok (.iload_n 1, 1) := by decide +kernel
theorem dL_dutiesOf_4 : decode cL_dutiesOf 4 = .ok (.invokevirtual 45, 3) := by decide +kernel
theorem dL_dutiesOf_7 : decode cL_dutiesOf 7 = .ok (.i2l, 1) := by decide +kernel
theorem dL_dutiesOf_8 : decode cL_dutiesOf 8 = .ok (.lastore, 1) := by decide +kernel
theorem dL_dutiesOf_9 : decode cL_dutiesOf 9 = .ok (.goto 6, 3) := by decide +kernel
theorem dL_dutiesOf_12 : decode cL_dutiesOf 12 = .ok (.astore_n 3, 1) := by decide +kernel
theorem dL_dutiesOf_13 : decode cL_dutiesOf 13 = .ok (.iconst 1, 1) := by decide +kernel
theorem dL_dutiesOf_14 : decode cL_dutiesOf 14 = .ok (.ireturn, 1) := by decide +kernel
theorem dL_dutiesOf_15 : decode cL_dutiesOf 15 = .ok (.iconst 0, 1) := by decide +kernel
theorem dL_dutiesOf_16 : decode cL_dutiesOf 16 = .ok (.ireturn, 1) := by decide +kernel
theorem dL_memberAtRank_0 : decode cL_memberAtRank 0 = .ok (.aload_n 2, 1) := by decide +kernel
theorem dL_memberAtRank_1 : decode cL_memberAtRank 1 = .ok (.iconst 0, 1) := by decide +kernel
theorem dL_memberAtRank_2 : decode cL_memberAtRank 2 = .ok (.aload_n 0, 1) := by decide +kernel
theorem dL_memberAtRank_3 : decode cL_memberAtRank 3 = .ok (.iload_n 1, 1) := by decide +kernel
theorem dL_memberAtRank_4 : decode cL_memberAtRank 4 = .ok (.invokevirtual 48, 3) := by decide +kernel
theorem dL_memberAtRank_7 : decode cL_memberAtRank 7 = .ok (.i2l, 1) := by decide +kernel
theorem dL_memberAtRank_8 : decode cL_memberAtRank 8 = .ok (.lastore, 1) := by decide +kernel
theorem dL_memberAtRank_9 : decode cL_memberAtRank 9 = .ok (.goto 6, 3) := by decide +kernel
theorem dL_memberAtRank_12 : decode cL_memberAtRank 12 = .ok (.astore_n 3, 1) := by decide +kernel
theorem dL_memberAtRank_13 : decode cL_memberAtRank 13 = .ok (.iconst 1, 1) := by decide +kernel
theorem dL_memberAtRank_14 : decode cL_memberAtRank 14 = .ok (.ireturn, 1) := by decide +kernel
theorem dL_memberAtRank_15 : decode cL_memberAtRank 15 = .ok (.iconst 0, 1) := by decide +kernel
theorem dL_memberAtRank_16 : decode cL_memberAtRank 16 = .ok (.ireturn, 1) := by decide +kernel
theorem dL_setWind_0 : decode cL_setWind 0 = .ok (.aload_n 3, 1) := by decide +kernel
theorem dL_setWind_1 : decode cL_setWind 1 = .ok (.iconst 0, 1) := by decide +kernel
theorem dL_setWind_2 : decode cL_setWind 2 = .ok (.aload_n 0, 1) := by decide +kernel
theorem dL_setWind_3 : decode cL_setWind 3 = .ok (.iload_n 1, 1) := by decide +kernel
theorem dL_setWind_4 : decode cL_setWind 4 = .ok (.iload_n 2, 1) := by decide +kernel
theorem dL_setWind_5 : decode cL_setWind 5 = .ok (.invokevirtual 53, 3) := by decide +kernel
theorem dL_setWind_8 : decode cL_setWind 8 = .ok (.i2l, 1) := by decide +kernel
theorem dL_setWind_9 : decode cL_setWind 9 = .ok (.lastore, 1) := by decide +kernel
theorem dL_setWind_10 : decode cL_setWind 10 = .ok (.goto 7, 3) := by decide +kernel
theorem dL_setWind_13 : decode cL_setWind 13 = .ok (.astore 4, 2) := by decide +kernel
theorem dL_setWind_15 : decode cL_setWind 15 = .ok (.iconst 1, 1) := by decide +kernel
theorem dL_setWind_16 : decode cL_setWind 16 = .ok (.ireturn, 1) := by decide +kernel
theorem dL_setWind_17 : decode cL_setWind 17 = .ok (.iconst 0, 1) := by decide +kernel
theorem dL_setWind_18 : decode cL_setWind 18 = .ok (.ireturn, 1) := by decide +kernel
theorem dL_stepsToWind_0 : decode cL_stepsToWind 0 = .ok (.aload_n 2, 1) := by decide +kernel
theorem dL_stepsToWind_1 : decode cL_stepsToWind 1 = .ok (.iconst 0, 1) := by decide +kernel
theorem dL_stepsToWind_2 : decode cL_stepsToWind 2 = .ok (.aload_n 0, 1) := by decide +kernel
theorem dL_stepsToWind_3 : decode cL_stepsToWind 3 = .ok (.iload_n 1, 1) := by decide +kernel
theorem dL_stepsToWind_4 : decode cL_stepsToWind 4 = .ok (.invokevirtual 56, 3) := by decide +kernel
theorem dL_stepsToWind_7 : decode cL_stepsToWind 7 = .ok (.i2l, 1) := by decide +kernel
theorem dL_stepsToWind_8 : decode cL_stepsToWind 8 = .ok (.lastore, 1) := by decide +kernel
theorem dL_stepsToWind_9 : decode cL_stepsToWind 9 = .ok (.goto 6, 3) := by decide +kernel
theorem dL_stepsToWind_12 : decode cL_stepsToWind 12 = .ok (.astore_n 3, 1) := by decide +kernel
theorem dL_stepsToWind_13 : decode cL_stepsToWind 13 = .ok (.iconst 1, 1) := by decide +kernel
theorem dL_stepsToWind_14 : decode cL_stepsToWind 14 = .ok (.ireturn, 1) := by decide +kernel
theorem dL_stepsToWind_15 : decode cL_stepsToWind 15 = .ok (.iconst 0, 1) := by decide +kernel
theorem dL_stepsToWind_16 : decode cL_stepsToWind 16 = .ok (.ireturn, 1) := by decide +kernel
theorem dL_stepsToWindByTurning_0 : decode cL_stepsToWindByTurning 0 = .ok (.aload_n 2, 1) := by decide +kernel
theorem dL_stepsToWindByTurning_1 : decode cL_stepsToWindByTurning 1 = .ok (.iconst 0, 1) := by decide +kernel
theorem dL_stepsToWindByTurning_2 : decode cL_stepsToWindByTurning 2 = .ok (.aload_n 0, 1) := by decide +kernel
theorem dL_stepsToWindByTurning_3 : decode cL_stepsToWindByTurning 3 = .ok (.iload_n 1, 1) := by decide +kernel
theorem dL_stepsToWindByTurning_4 : decode cL_stepsToWindByTurning 4 = .ok (.invokevirtual 59, 3) := by decide +kernel
theorem dL_stepsToWindByTurning_7 : decode cL_stepsToWindByTurning 7 = .ok (.i2l, 1) := by decide +kernel
theorem dL_stepsToWindByTurning_8 : decode cL_stepsToWindByTurning 8 = .ok (.lastore, 1) := by decide +kernel
theorem dL_stepsToWindByTurning_9 : decode cL_stepsToWindByTurning 9 = .ok (.goto 6, 3) := by decide +kernel
theorem dL_stepsToWindByTurning_12 : decode cL_stepsToWindByTurning 12 = .ok (.astore_n 3, 1) := by decide +kernel
theorem dL_stepsToWindByTurning_13 : decode cL_stepsToWindByTurning 13 = .ok (.iconst 1, 1) := by decide +kernel
theorem dL_stepsToWindByTurning_14 : decode cL_stepsToWindByTurning 14 = .ok (.ireturn, 1) := by decide +kernel
theorem dL_stepsToWindByTurning_15 : decode cL_stepsToWindByTurning 15 = .ok (.iconst 0, 1) := by decide +kernel
theorem dL_stepsToWindByTurning_16 : decode cL_stepsToWindByTurning 16 = .ok (.ireturn, 1) := by decide +kernel
theorem dL_passShifts_0 : decode cL_passShifts 0 = .ok (.aload_n 2, 1) := by decide +kernel
theorem dL_passShifts_1 : decode cL_passShifts 1 = .ok (.iconst 0, 1) := by decide +kernel
theorem dL_passShifts_2 : decode cL_passShifts 2 = .ok (.aload_n 0, 1) := by decide +kernel
theorem dL_passShifts_3 : decode cL_passShifts 3 = .ok (.iload_n 1, 1) := by decide +kernel
theorem dL_passShifts_4 : decode cL_passShifts 4 = .ok (.invokevirtual 62, 3) := by decide +kernel
theorem dL_passShifts_7 : decode cL_passShifts 7 = .ok (.i2l, 1) := by decide +kernel
theorem dL_passShifts_8 : decode cL_passShifts 8 = .ok (.lastore, 1) := by decide +kernel
theorem dL_passShifts_9 : decode cL_passShifts 9 = .ok (.goto 6, 3) := by decide +kernel
theorem dL_passShifts_12 : decode cL_passShifts 12 = .ok (.astore_n 3, 1) := by decide +kernel
theorem dL_passShifts_13 : decode cL_passShifts 13 = .ok (.iconst 1, 1) := by decide +kernel
theorem dL_passShifts_14 : decode cL_passShifts 14 = .ok (.ireturn, 1) := by decide +kernel
theorem dL_passShifts_15 : decode cL_passShifts 15 = .ok (.iconst 0, 1) := by decide +kernel
theorem dL_passShifts_16 : decode cL_passShifts 16 = .ok (.ireturn, 1) := by decide +kernel
theorem dL_vote_0 : decode cL_vote 0 = .ok (.aload_n 3, 1) := by decide +kernel
theorem dL_vote_1 : decode cL_vote 1 = .ok (.iconst 0, 1) := by decide +kernel
theorem dL_vote_2 : decode cL_vote 2 = .ok (.aload_n 0, 1) := by decide +kernel
theorem dL_vote_3 : decode cL_vote 3 = .ok (.iload_n 1, 1) := by decide +kernel
theorem dL_vote_4 : decode cL_vote 4 = .ok (.iload_n 2, 1) := by decide +kernel
theorem dL_vote_5 : decode cL_vote 5 = .ok (.invokevirtual 65, 3) := by decide +kernel
theorem dL_vote_8 : decode cL_vote 8 = .ok (.i2l, 1) := by decide +kernel
theorem dL_vote_9 : decode cL_vote 9 = .ok (.lastore, 1) := by decide +kernel
theorem dL_vote_10 : decode cL_vote 10 = .ok (.goto 11, 3) := by decide +kernel
theorem dL_vote_13 : decode cL_vote 13 = .ok (.astore 4, 2) := by decide +kernel
theorem dL_vote_15 : decode cL_vote 15 = .ok (.iconst 1, 1) := by decide +kernel
theorem dL_vote_16 : decode cL_vote 16 = .ok (.ireturn, 1) := by decide +kernel
theorem dL_vote_17 : decode cL_vote 17 = .ok (.astore 4, 2) := by decide +kernel
theorem dL_vote_19 : decode cL_vote 19 = .ok (.iconst 2, 1) := by decide +kernel
theorem dL_vote_20 : decode cL_vote 20 = .ok (.ireturn, 1) := by decide +kernel
theorem dL_vote_21 : decode cL_vote 21 = .ok (.iconst 0, 1) := by decide +kernel
theorem dL_vote_22 : decode cL_vote 22 = .ok (.ireturn, 1) := by decide +kernel
theorem dL_hasVoted_0 : decode cL_hasVoted 0 = .ok (.aload_n 2, 1) := by decide +kernel
theorem dL_hasVoted_1 : decode cL_hasVoted 1 = .ok (.iconst 0, 1) := by decide +kernel
theorem dL_hasVoted_2 : decode cL_hasVoted 2 = .ok (.aload_n 0, 1) := by decide +kernel
theorem dL_hasVoted_3 : decode cL_hasVoted 3 = .ok (.iload_n 1, 1) := by decide +kernel
theorem dL_hasVoted_4 : decode cL_hasVoted 4 = .ok (.invokevirtual 69, 3) := by decide +kernel
theorem dL_hasVoted_7 : decode cL_hasVoted 7 = .ok (.ifCond .eq 7, 3) := by decide +kernel
theorem dL_hasVoted_10 : decode cL_hasVoted 10 = .ok (.lconst 1, 1) := by decide +kernel
theorem dL_hasVoted_11 : decode cL_hasVoted 11 = .ok (.goto 4, 3) := by decide +kernel
theorem dL_hasVoted_14 : decode cL_hasVoted 14 = .ok (.lconst 0, 1) := by decide +kernel
theorem dL_hasVoted_15 : decode cL_hasVoted 15 = .ok (.lastore, 1) := by decide +kernel
theorem dL_hasVoted_16 : decode cL_hasVoted 16 = .ok (.goto 6, 3) := by decide +kernel
theorem dL_hasVoted_19 : decode cL_hasVoted 19 = .ok (.astore_n 3, 1) := by decide +kernel
theorem dL_hasVoted_20 : decode cL_hasVoted 20 = .ok (.iconst 1, 1) := by decide +kernel
theorem dL_hasVoted_21 : decode cL_hasVoted 21 = .ok (.ireturn, 1) := by decide +kernel
theorem dL_hasVoted_22 : decode cL_hasVoted 22 = .ok (.iconst 0, 1) := by decide +kernel
theorem dL_hasVoted_23 : decode cL_hasVoted 23 = .ok (.ireturn, 1) := by decide +kernel
theorem dL_callStrike_0 : decode cL_callStrike 0 = .ok (.aload_n 1, 1) := by decide +kernel
theorem dL_callStrike_1 : decode cL_callStrike 1 = .ok (.iconst 0, 1) := by decide +kernel
theorem dL_callStrike_2 : decode cL_callStrike 2 = .ok (.aload_n 0, 1) := by decide +kernel
theorem dL_callStrike_3 : decode cL_callStrike 3 = .ok (.invokevirtual 73, 3) := by decide +kernel
theorem dL_callStrike_6 : decode cL_callStrike 6 = .ok (.i2l, 1) := by decide +kernel
theorem dL_callStrike_7 : decode cL_callStrike 7 = .ok (.lastore, 1) := by decide +kernel
theorem dL_callStrike_8 : decode cL_callStrike 8 = .ok (.goto 9, 3) := by decide +kernel
theorem dL_callStrike_11 : decode cL_callStrike 11 = .ok (.astore_n 2, 1) := by decide +kernel
theorem dL_callStrike_12 : decode cL_callStrike 12 = .ok (.iconst 1, 1) := by decide +kernel
theorem dL_callStrike_13 : decode cL_callStrike 13 = .ok (.ireturn, 1) := by decide +kernel
theorem dL_callStrike_14 : decode cL_callStrike 14 = .ok (.astore_n 2, 1) := by decide +kernel
theorem dL_callStrike_15 : decode cL_callStrike 15 = .ok (.iconst 2, 1) := by decide +kernel
theorem dL_callStrike_16 : decode cL_callStrike 16 = .ok (.ireturn, 1) := by decide +kernel
theorem dL_callStrike_17 : decode cL_callStrike 17 = .ok (.iconst 0, 1) := by decide +kernel
theorem dL_callStrike_18 : decode cL_callStrike 18 = .ok (.ireturn, 1) := by decide +kernel
theorem dL_strikeShifts_0 : decode cL_strikeShifts 0 = .ok (.aload_n 1, 1) := by decide +kernel
theorem dL_strikeShifts_1 : decode cL_strikeShifts 1 = .ok (.iconst 0, 1) := by decide +kernel
theorem dL_strikeShifts_2 : decode cL_strikeShifts 2 = .ok (.aload_n 0, 1) := by decide +kernel
theorem dL_strikeShifts_3 : decode cL_strikeShifts 3 = .ok (.invokevirtual 79, 3) := by decide +kernel
theorem dL_strikeShifts_6 : decode cL_strikeShifts 6 = .ok (.i2l, 1) := by decide +kernel
theorem dL_strikeShifts_7 : decode cL_strikeShifts 7 = .ok (.lastore, 1) := by decide +kernel
theorem dL_strikeShifts_8 : decode cL_strikeShifts 8 = .ok (.goto 6, 3) := by decide +kernel
theorem dL_strikeShifts_11 : decode cL_strikeShifts 11 = .ok (.astore_n 2, 1) := by decide +kernel
theorem dL_strikeShifts_12 : decode cL_strikeShifts 12 = .ok (.iconst 1, 1) := by decide +kernel
theorem dL_strikeShifts_13 : decode cL_strikeShifts 13 = .ok (.ireturn, 1) := by decide +kernel
theorem dL_strikeShifts_14 : decode cL_strikeShifts 14 = .ok (.iconst 0, 1) := by decide +kernel
theorem dL_strikeShifts_15 : decode cL_strikeShifts 15 = .ok (.ireturn, 1) := by decide +kernel
theorem dL_payIn_0 : decode cL_payIn 0 = .ok (.aload_n 2, 1) := by decide +kernel
theorem dL_payIn_1 : decode cL_payIn 1 = .ok (.iconst 0, 1) := by decide +kernel
theorem dL_payIn_2 : decode cL_payIn 2 = .ok (.aload_n 0, 1) := by decide +kernel
theorem dL_payIn_3 : decode cL_payIn 3 = .ok (.iload_n 1, 1) := by decide +kernel
theorem dL_payIn_4 : decode cL_payIn 4 = .ok (.invokevirtual 82, 3) := by decide +kernel
theorem dL_payIn_7 : decode cL_payIn 7 = .ok (.i2l, 1) := by decide +kernel
theorem dL_payIn_8 : decode cL_payIn 8 = .ok (.lastore, 1) := by decide +kernel
theorem dL_payIn_9 : decode cL_payIn 9 = .ok (.goto 9, 3) := by decide +kernel
theorem dL_payIn_12 : decode cL_payIn 12 = .ok (.astore_n 3, 1) := by decide +kernel
theorem dL_payIn_13 : decode cL_payIn 13 = .ok (.iconst 1, 1) := by decide +kernel
theorem dL_payIn_14 : decode cL_payIn 14 = .ok (.ireturn, 1) := by decide +kernel
theorem dL_payIn_15 : decode cL_payIn 15 = .ok (.astore_n 3, 1) := by decide +kernel
theorem dL_payIn_16 : decode cL_payIn 16 = .ok (.iconst 2, 1) := by decide +kernel
theorem dL_payIn_17 : decode cL_payIn 17 = .ok (.ireturn, 1) := by decide +kernel
theorem dL_payIn_18 : decode cL_payIn 18 = .ok (.iconst 0, 1) := by decide +kernel
theorem dL_payIn_19 : decode cL_payIn 19 = .ok (.ireturn, 1) := by decide +kernel
theorem dL_fundedShifts_0 : decode cL_fundedShifts 0 = .ok (.aload_n 1, 1) := by decide +kernel
theorem dL_fundedShifts_1 : decode cL_fundedShifts 1 = .ok (.iconst 0, 1) := by decide +kernel
theorem dL_fundedShifts_2 : decode cL_fundedShifts 2 = .ok (.aload_n 0, 1) := by decide +kernel
theorem dL_fundedShifts_3 : decode cL_fundedShifts 3 = .ok (.invokevirtual 85, 3) := by decide +kernel
theorem dL_fundedShifts_6 : decode cL_fundedShifts 6 = .ok (.i2l, 1) := by decide +kernel
theorem dL_fundedShifts_7 : decode cL_fundedShifts 7 = .ok (.lastore, 1) := by decide +kernel
theorem dL_fundedShifts_8 : decode cL_fundedShifts 8 = .ok (.goto 6, 3) := by decide +kernel
theorem dL_fundedShifts_11 : decode cL_fundedShifts 11 = .ok (.astore_n 2, 1) := by decide +kernel
theorem dL_fundedShifts_12 : decode cL_fundedShifts 12 = .ok (.iconst 1, 1) := by decide +kernel
theorem dL_fundedShifts_13 : decode cL_fundedShifts 13 = .ok (.ireturn, 1) := by decide +kernel
theorem dL_fundedShifts_14 : decode cL_fundedShifts 14 = .ok (.iconst 0, 1) := by decide +kernel
theorem dL_fundedShifts_15 : decode cL_fundedShifts 15 = .ok (.ireturn, 1) := by decide +kernel
theorem dL_fundedShiftsByPaying_0 : decode cL_fundedShiftsByPaying 0 = .ok (.aload_n 1, 1) := by decide +kernel
theorem dL_fundedShiftsByPaying_1 : decode cL_fundedShiftsByPaying 1 = .ok (.iconst 0, 1) := by decide +kernel
theorem dL_fundedShiftsByPaying_2 : decode cL_fundedShiftsByPaying 2 = .ok (.aload_n 0, 1) := by decide +kernel
theorem dL_fundedShiftsByPaying_3 : decode cL_fundedShiftsByPaying 3 = .ok (.invokevirtual 90, 3) := by decide +kernel
theorem dL_fundedShiftsByPaying_6 : decode cL_fundedShiftsByPaying 6 = .ok (.i2l, 1) := by decide +kernel
theorem dL_fundedShiftsByPaying_7 : decode cL_fundedShiftsByPaying 7 = .ok (.lastore, 1) := by decide +kernel
theorem dL_fundedShiftsByPaying_8 : decode cL_fundedShiftsByPaying 8 = .ok (.goto 6, 3) := by decide +kernel
theorem dL_fundedShiftsByPaying_11 : decode cL_fundedShiftsByPaying 11 = .ok (.astore_n 2, 1) := by decide +kernel
theorem dL_fundedShiftsByPaying_12 : decode cL_fundedShiftsByPaying 12 = .ok (.iconst 1, 1) := by decide +kernel
theorem dL_fundedShiftsByPaying_13 : decode cL_fundedShiftsByPaying 13 = .ok (.ireturn, 1) := by decide +kernel
theorem dL_fundedShiftsByPaying_14 : decode cL_fundedShiftsByPaying 14 = .ok (.iconst 0, 1) := by decide +kernel
theorem dL_fundedShiftsByPaying_15 : decode cL_fundedShiftsByPaying 15 = .ok (.ireturn, 1) := by decide +kernel
theorem dL_signUp_0 : decode cL_signUp 0 = .ok (.aload_n 3, 1) := by decide +kernel
theorem dL_signUp_1 : decode cL_signUp 1 = .ok (.iconst 0, 1) := by decide +kernel
theorem dL_signUp_2 : decode cL_signUp 2 = .ok (.aload_n 0, 1) := by decide +kernel
theorem dL_signUp_3 : decode cL_signUp 3 = .ok (.iload_n 1, 1) := by decide +kernel
theorem dL_signUp_4 : decode cL_signUp 4 = .ok (.iload_n 2, 1) := by decide +kernel
theorem dL_signUp_5 : decode cL_signUp 5 = .ok (.invokevirtual 93, 3) := by decide +kernel
theorem dL_signUp_8 : decode cL_signUp 8 = .ok (.i2l, 1) := by decide +kernel
theorem dL_signUp_9 : decode cL_signUp 9 = .ok (.lastore, 1) := by decide +kernel
theorem dL_signUp_10 : decode cL_signUp 10 = .ok (.goto 15, 3) := by decide +kernel
theorem dL_signUp_13 : decode cL_signUp 13 = .ok (.astore 4, 2) := by decide +kernel
theorem dL_signUp_15 : decode cL_signUp 15 = .ok (.iconst 1, 1) := by decide +kernel
theorem dL_signUp_16 : decode cL_signUp 16 = .ok (.ireturn, 1) := by decide +kernel
theorem dL_signUp_17 : decode cL_signUp 17 = .ok (.astore 4, 2) := by decide +kernel
theorem dL_signUp_19 : decode cL_signUp 19 = .ok (.iconst 2, 1) := by decide +kernel
theorem dL_signUp_20 : decode cL_signUp 20 = .ok (.ireturn, 1) := by decide +kernel
theorem dL_signUp_21 : decode cL_signUp 21 = .ok (.astore 4, 2) := by decide +kernel
theorem dL_signUp_23 : decode cL_signUp 23 = .ok (.iconst 3, 1) := by decide +kernel
theorem dL_signUp_24 : decode cL_signUp 24 = .ok (.ireturn, 1) := by decide +kernel
theorem dL_signUp_25 : decode cL_signUp 25 = .ok (.iconst 0, 1) := by decide +kernel
theorem dL_signUp_26 : decode cL_signUp 26 = .ok (.ireturn, 1) := by decide +kernel
theorem dL_strikeOff_0 : decode cL_strikeOff 0 = .ok (.aload_n 2, 1) := by decide +kernel
theorem dL_strikeOff_1 : decode cL_strikeOff 1 = .ok (.iconst 0, 1) := by decide +kernel
theorem dL_strikeOff_2 : decode cL_strikeOff 2 = .ok (.aload_n 0, 1) := by decide +kernel
theorem dL_strikeOff_3 : decode cL_strikeOff 3 = .ok (.iload_n 1, 1) := by decide +kernel
theorem dL_strikeOff_4 : decode cL_strikeOff 4 = .ok (.invokevirtual 96, 3) := by decide +kernel
theorem dL_strikeOff_7 : decode cL_strikeOff 7 = .ok (.i2l, 1) := by decide +kernel
theorem dL_strikeOff_8 : decode cL_strikeOff 8 = .ok (.lastore, 1) := by decide +kernel
theorem dL_strikeOff_9 : decode cL_strikeOff 9 = .ok (.goto 9, 3) := by decide +kernel
theorem dL_strikeOff_12 : decode cL_strikeOff 12 = .ok (.astore_n 3, 1) := by decide +kernel
theorem dL_strikeOff_13 : decode cL_strikeOff 13 = .ok (.iconst 1, 1) := by decide +kernel
theorem dL_strikeOff_14 : decode cL_strikeOff 14 = .ok (.ireturn, 1) := by decide +kernel
theorem dL_strikeOff_15 : decode cL_strikeOff 15 = .ok (.astore_n 3, 1) := by decide +kernel
theorem dL_strikeOff_16 : decode cL_strikeOff 16 = .ok (.iconst 2, 1) := by decide +kernel
theorem dL_strikeOff_17 : decode cL_strikeOff 17 = .ok (.ireturn, 1) := by decide +kernel
theorem dL_strikeOff_18 : decode cL_strikeOff 18 = .ok (.iconst 0, 1) := by decide +kernel
theorem dL_strikeOff_19 : decode cL_strikeOff 19 = .ok (.ireturn, 1) := by decide +kernel
theorem dL_listLength_0 : decode cL_listLength 0 = .ok (.aload_n 2, 1) := by decide +kernel
theorem dL_listLength_1 : decode cL_listLength 1 = .ok (.iconst 0, 1) := by decide +kernel
theorem dL_listLength_2 : decode cL_listLength 2 = .ok (.aload_n 0, 1) := by decide +kernel
theorem dL_listLength_3 : decode cL_listLength 3 = .ok (.iload_n 1, 1) := by decide +kernel
theorem dL_listLength_4 : decode cL_listLength 4 = .ok (.invokevirtual 99, 3) := by decide +kernel
theorem dL_listLength_7 : decode cL_listLength 7 = .ok (.i2l, 1) := by decide +kernel
theorem dL_listLength_8 : decode cL_listLength 8 = .ok (.lastore, 1) := by decide +kernel
theorem dL_listLength_9 : decode cL_listLength 9 = .ok (.goto 6, 3) := by decide +kernel
theorem dL_listLength_12 : decode cL_listLength 12 = .ok (.astore_n 3, 1) := by decide +kernel
theorem dL_listLength_13 : decode cL_listLength 13 = .ok (.iconst 1, 1) := by decide +kernel
theorem dL_listLength_14 : decode cL_listLength 14 = .ok (.ireturn, 1) := by decide +kernel
theorem dL_listLength_15 : decode cL_listLength 15 = .ok (.iconst 0, 1) := by decide +kernel
theorem dL_listLength_16 : decode cL_listLength 16 = .ok (.ireturn, 1) := by decide +kernel
theorem dL_listedAt_0 : decode cL_listedAt 0 = .ok (.aload_n 3, 1) := by decide +kernel
theorem dL_listedAt_1 : decode cL_listedAt 1 = .ok (.iconst 0, 1) := by decide +kernel
theorem dL_listedAt_2 : decode cL_listedAt 2 = .ok (.aload_n 0, 1) := by decide +kernel
theorem dL_listedAt_3 : decode cL_listedAt 3 = .ok (.iload_n 1, 1) := by decide +kernel
theorem dL_listedAt_4 : decode cL_listedAt 4 = .ok (.iload_n 2, 1) := by decide +kernel
theorem dL_listedAt_5 : decode cL_listedAt 5 = .ok (.invokevirtual 102, 3) := by decide +kernel
theorem dL_listedAt_8 : decode cL_listedAt 8 = .ok (.i2l, 1) := by decide +kernel
theorem dL_listedAt_9 : decode cL_listedAt 9 = .ok (.lastore, 1) := by decide +kernel
theorem dL_listedAt_10 : decode cL_listedAt 10 = .ok (.goto 11, 3) := by decide +kernel
theorem dL_listedAt_13 : decode cL_listedAt 13 = .ok (.astore 4, 2) := by decide +kernel
theorem dL_listedAt_15 : decode cL_listedAt 15 = .ok (.iconst 1, 1) := by decide +kernel
theorem dL_listedAt_16 : decode cL_listedAt 16 = .ok (.ireturn, 1) := by decide +kernel
theorem dL_listedAt_17 : decode cL_listedAt 17 = .ok (.astore 4, 2) := by decide +kernel
theorem dL_listedAt_19 : decode cL_listedAt 19 = .ok (.iconst 2, 1) := by decide +kernel
theorem dL_listedAt_20 : decode cL_listedAt 20 = .ok (.ireturn, 1) := by decide +kernel
theorem dL_listedAt_21 : decode cL_listedAt 21 = .ok (.iconst 0, 1) := by decide +kernel
theorem dL_listedAt_22 : decode cL_listedAt 22 = .ok (.ireturn, 1) := by decide +kernel
theorem dL_listOf_0 : decode cL_listOf 0 = .ok (.aload_n 2, 1) := by decide +kernel
theorem dL_listOf_1 : decode cL_listOf 1 = .ok (.iconst 0, 1) := by decide +kernel
theorem dL_listOf_2 : decode cL_listOf 2 = .ok (.aload_n 0, 1) := by decide +kernel
theorem dL_listOf_3 : decode cL_listOf 3 = .ok (.iload_n 1, 1) := by decide +kernel
theorem dL_listOf_4 : decode cL_listOf 4 = .ok (.invokevirtual 105, 3) := by decide +kernel
theorem dL_listOf_7 : decode cL_listOf 7 = .ok (.i2l, 1) := by decide +kernel
theorem dL_listOf_8 : decode cL_listOf 8 = .ok (.lastore, 1) := by decide +kernel
theorem dL_listOf_9 : decode cL_listOf 9 = .ok (.goto 9, 3) := by decide +kernel
theorem dL_listOf_12 : decode cL_listOf 12 = .ok (.astore_n 3, 1) := by decide +kernel
theorem dL_listOf_13 : decode cL_listOf 13 = .ok (.iconst 1, 1) := by decide +kernel
theorem dL_listOf_14 : decode cL_listOf 14 = .ok (.ireturn, 1) := by decide +kernel
theorem dL_listOf_15 : decode cL_listOf 15 = .ok (.astore_n 3, 1) := by decide +kernel
theorem dL_listOf_16 : decode cL_listOf 16 = .ok (.iconst 2, 1) := by decide +kernel
theorem dL_listOf_17 : decode cL_listOf 17 = .ok (.ireturn, 1) := by decide +kernel
theorem dL_listOf_18 : decode cL_listOf 18 = .ok (.iconst 0, 1) := by decide +kernel
theorem dL_listOf_19 : decode cL_listOf 19 = .ok (.ireturn, 1) := by decide +kernel
theorem dL_makeOffer_0 : decode cL_makeOffer 0 = .ok (.aload_n 2, 1) := by decide +kernel
theorem dL_makeOffer_1 : decode cL_makeOffer 1 = .ok (.iconst 0, 1) := by decide +kernel
theorem dL_makeOffer_2 : decode cL_makeOffer 2 = .ok (.aload_n 0, 1) := by decide +kernel
theorem dL_makeOffer_3 : decode cL_makeOffer 3 = .ok (.iload_n 1, 1) := by decide +kernel
theorem dL_makeOffer_4 : decode cL_makeOffer 4 = .ok (.invokevirtual 108, 3) := by decide +kernel
theorem dL_makeOffer_7 : decode cL_makeOffer 7 = .ok (.i2l, 1) := by decide +kernel
theorem dL_makeOffer_8 : decode cL_makeOffer 8 = .ok (.lastore, 1) := by decide +kernel
theorem dL_makeOffer_9 : decode cL_makeOffer 9 = .ok (.goto 9, 3) := by decide +kernel
theorem dL_makeOffer_12 : decode cL_makeOffer 12 = .ok (.astore_n 3, 1) := by decide +kernel
theorem dL_makeOffer_13 : decode cL_makeOffer 13 = .ok (.iconst 1, 1) := by decide +kernel
theorem dL_makeOffer_14 : decode cL_makeOffer 14 = .ok (.ireturn, 1) := by decide +kernel
theorem dL_makeOffer_15 : decode cL_makeOffer 15 = .ok (.astore_n 3, 1) := by decide +kernel
theorem dL_makeOffer_16 : decode cL_makeOffer 16 = .ok (.iconst 2, 1) := by decide +kernel
theorem dL_makeOffer_17 : decode cL_makeOffer 17 = .ok (.ireturn, 1) := by decide +kernel
theorem dL_makeOffer_18 : decode cL_makeOffer 18 = .ok (.iconst 0, 1) := by decide +kernel
theorem dL_makeOffer_19 : decode cL_makeOffer 19 = .ok (.ireturn, 1) := by decide +kernel
theorem dL_accept_0 : decode cL_accept 0 = .ok (.aload_n 2, 1) := by decide +kernel
theorem dL_accept_1 : decode cL_accept 1 = .ok (.iconst 0, 1) := by decide +kernel
theorem dL_accept_2 : decode cL_accept 2 = .ok (.aload_n 0, 1) := by decide +kernel
theorem dL_accept_3 : decode cL_accept 3 = .ok (.iload_n 1, 1) := by decide +kernel
theorem dL_accept_4 : decode cL_accept 4 = .ok (.invokevirtual 111, 3) := by decide +kernel
theorem dL_accept_7 : decode cL_accept 7 = .ok (.ifCond .eq 7, 3) := by decide +kernel
theorem dL_accept_10 : decode cL_accept 10 = .ok (.lconst 1, 1) := by decide +kernel
theorem dL_accept_11 : decode cL_accept 11 = .ok (.goto 4, 3) := by decide +kernel
theorem dL_accept_14 : decode cL_accept 14 = .ok (.lconst 0, 1) := by decide +kernel
theorem dL_accept_15 : decode cL_accept 15 = .ok (.lastore, 1) := by decide +kernel
theorem dL_accept_16 : decode cL_accept 16 = .ok (.goto 12, 3) := by decide +kernel
theorem dL_accept_19 : decode cL_accept 19 = .ok (.astore_n 3, 1) := by decide +kernel
theorem dL_accept_20 : decode cL_accept 20 = .ok (.iconst 1, 1) := by decide +kernel
theorem dL_accept_21 : decode cL_accept 21 = .ok (.ireturn, 1) := by decide +kernel
theorem dL_accept_22 : decode cL_accept 22 = .ok (.astore_n 3, 1) := by decide +kernel
theorem dL_accept_23 : decode cL_accept 23 = .ok (.iconst 2, 1) := by decide +kernel
theorem dL_accept_24 : decode cL_accept 24 = .ok (.ireturn, 1) := by decide +kernel
theorem dL_accept_25 : decode cL_accept 25 = .ok (.astore_n 3, 1) := by decide +kernel
theorem dL_accept_26 : decode cL_accept 26 = .ok (.iconst 3, 1) := by decide +kernel
theorem dL_accept_27 : decode cL_accept 27 = .ok (.ireturn, 1) := by decide +kernel
theorem dL_accept_28 : decode cL_accept 28 = .ok (.iconst 0, 1) := by decide +kernel
theorem dL_accept_29 : decode cL_accept 29 = .ok (.ireturn, 1) := by decide +kernel
theorem dL_offerPercent_0 : decode cL_offerPercent 0 = .ok (.aload_n 1, 1) := by decide +kernel
theorem dL_offerPercent_1 : decode cL_offerPercent 1 = .ok (.iconst 0, 1) := by decide +kernel
theorem dL_offerPercent_2 : decode cL_offerPercent 2 = .ok (.aload_n 0, 1) := by decide +kernel
theorem dL_offerPercent_3 : decode cL_offerPercent 3 = .ok (.invokevirtual 114, 3) := by decide +kernel
theorem dL_offerPercent_6 : decode cL_offerPercent 6 = .ok (.i2l, 1) := by decide +kernel
theorem dL_offerPercent_7 : decode cL_offerPercent 7 = .ok (.lastore, 1) := by decide +kernel
theorem dL_offerPercent_8 : decode cL_offerPercent 8 = .ok (.goto 6, 3) := by decide +kernel
theorem dL_offerPercent_11 : decode cL_offerPercent 11 = .ok (.astore_n 2, 1) := by decide +kernel
theorem dL_offerPercent_12 : decode cL_offerPercent 12 = .ok (.iconst 1, 1) := by decide +kernel
theorem dL_offerPercent_13 : decode cL_offerPercent 13 = .ok (.ireturn, 1) := by decide +kernel
theorem dL_offerPercent_14 : decode cL_offerPercent 14 = .ok (.iconst 0, 1) := by decide +kernel
theorem dL_offerPercent_15 : decode cL_offerPercent 15 = .ok (.ireturn, 1) := by decide +kernel
theorem dL_acceptances_0 : decode cL_acceptances 0 = .ok (.aload_n 1, 1) := by decide +kernel
theorem dL_acceptances_1 : decode cL_acceptances 1 = .ok (.iconst 0, 1) := by decide +kernel
theorem dL_acceptances_2 : decode cL_acceptances 2 = .ok (.aload_n 0, 1) := by decide +kernel
theorem dL_acceptances_3 : decode cL_acceptances 3 = .ok (.invokevirtual 117, 3) := by decide +kernel
theorem dL_acceptances_6 : decode cL_acceptances 6 = .ok (.i2l, 1) := by decide +kernel
theorem dL_acceptances_7 : decode cL_acceptances 7 = .ok (.lastore, 1) := by decide +kernel
theorem dL_acceptances_8 : decode cL_acceptances 8 = .ok (.goto 6, 3) := by decide +kernel
theorem dL_acceptances_11 : decode cL_acceptances 11 = .ok (.astore_n 2, 1) := by decide +kernel
theorem dL_acceptances_12 : decode cL_acceptances 12 = .ok (.iconst 1, 1) := by decide +kernel
theorem dL_acceptances_13 : decode cL_acceptances 13 = .ok (.ireturn, 1) := by decide +kernel
theorem dL_acceptances_14 : decode cL_acceptances 14 = .ok (.iconst 0, 1) := by decide +kernel
theorem dL_acceptances_15 : decode cL_acceptances 15 = .ok (.ireturn, 1) := by decide +kernel
theorem dL_offeredRate_0 : decode cL_offeredRate 0 = .ok (.aload_n 2, 1) := by decide +kernel
theorem dL_offeredRate_1 : decode cL_offeredRate 1 = .ok (.iconst 0, 1) := by decide +kernel
theorem dL_offeredRate_2 : decode cL_offeredRate 2 = .ok (.aload_n 0, 1) := by decide +kernel
theorem dL_offeredRate_3 : decode cL_offeredRate 3 = .ok (.iload_n 1, 1) := by decide +kernel
theorem dL_offeredRate_4 : decode cL_offeredRate 4 = .ok (.invokevirtual 120, 3) := by decide +kernel
theorem dL_offeredRate_7 : decode cL_offeredRate 7 = .ok (.i2l, 1) := by decide +kernel
theorem dL_offeredRate_8 : decode cL_offeredRate 8 = .ok (.lastore, 1) := by decide +kernel
theorem dL_offeredRate_9 : decode cL_offeredRate 9 = .ok (.goto 9, 3) := by decide +kernel
theorem dL_offeredRate_12 : decode cL_offeredRate 12 = .ok (.astore_n 3, 1) := by decide +kernel
theorem dL_offeredRate_13 : decode cL_offeredRate 13 = .ok (.iconst 1, 1) := by decide +kernel
theorem dL_offeredRate_14 : decode cL_offeredRate 14 = .ok (.ireturn, 1) := by decide +kernel
theorem dL_offeredRate_15 : decode cL_offeredRate 15 = .ok (.astore_n 3, 1) := by decide +kernel
theorem dL_offeredRate_16 : decode cL_offeredRate 16 = .ok (.iconst 2, 1) := by decide +kernel
theorem dL_offeredRate_17 : decode cL_offeredRate 17 = .ok (.ireturn, 1) := by decide +kernel
theorem dL_offeredRate_18 : decode cL_offeredRate 18 = .ok (.iconst 0, 1) := by decide +kernel
theorem dL_offeredRate_19 : decode cL_offeredRate 19 = .ok (.ireturn, 1) := by decide +kernel
theorem dL_append_0 : decode cL_append 0 = .ok (.aload_n 2, 1) := by decide +kernel
theorem dL_append_1 : decode cL_append 1 = .ok (.iconst 0, 1) := by decide +kernel
theorem dL_append_2 : decode cL_append 2 = .ok (.aload_n 0, 1) := by decide +kernel
theorem dL_append_3 : decode cL_append 3 = .ok (.iload_n 1, 1) := by decide +kernel
theorem dL_append_4 : decode cL_append 4 = .ok (.invokevirtual 123, 3) := by decide +kernel
theorem dL_append_7 : decode cL_append 7 = .ok (.i2l, 1) := by decide +kernel
theorem dL_append_8 : decode cL_append 8 = .ok (.lastore, 1) := by decide +kernel
theorem dL_append_9 : decode cL_append 9 = .ok (.goto 9, 3) := by decide +kernel
theorem dL_append_12 : decode cL_append 12 = .ok (.astore_n 3, 1) := by decide +kernel
theorem dL_append_13 : decode cL_append 13 = .ok (.iconst 1, 1) := by decide +kernel
theorem dL_append_14 : decode cL_append 14 = .ok (.ireturn, 1) := by decide +kernel
theorem dL_append_15 : decode cL_append 15 = .ok (.astore_n 3, 1) := by decide +kernel
theorem dL_append_16 : decode cL_append 16 = .ok (.iconst 2, 1) := by decide +kernel
theorem dL_append_17 : decode cL_append 17 = .ok (.ireturn, 1) := by decide +kernel
theorem dL_append_18 : decode cL_append 18 = .ok (.iconst 0, 1) := by decide +kernel
theorem dL_append_19 : decode cL_append 19 = .ok (.ireturn, 1) := by decide +kernel
theorem dL_run_0 : decode cL_run 0 = .ok (.aload_n 1, 1) := by decide +kernel
theorem dL_run_1 : decode cL_run 1 = .ok (.iconst 0, 1) := by decide +kernel
theorem dL_run_2 : decode cL_run 2 = .ok (.aload_n 0, 1) := by decide +kernel
theorem dL_run_3 : decode cL_run 3 = .ok (.invokevirtual 127, 3) := by decide +kernel
theorem dL_run_6 : decode cL_run 6 = .ok (.i2l, 1) := by decide +kernel
theorem dL_run_7 : decode cL_run 7 = .ok (.lastore, 1) := by decide +kernel
theorem dL_run_8 : decode cL_run 8 = .ok (.goto 9, 3) := by decide +kernel
theorem dL_run_11 : decode cL_run 11 = .ok (.astore_n 2, 1) := by decide +kernel
theorem dL_run_12 : decode cL_run 12 = .ok (.iconst 1, 1) := by decide +kernel
theorem dL_run_13 : decode cL_run 13 = .ok (.ireturn, 1) := by decide +kernel
theorem dL_run_14 : decode cL_run 14 = .ok (.astore_n 2, 1) := by decide +kernel
theorem dL_run_15 : decode cL_run 15 = .ok (.iconst 2, 1) := by decide +kernel
theorem dL_run_16 : decode cL_run 16 = .ok (.ireturn, 1) := by decide +kernel
theorem dL_run_17 : decode cL_run 17 = .ok (.iconst 0, 1) := by decide +kernel
theorem dL_run_18 : decode cL_run 18 = .ok (.ireturn, 1) := by decide +kernel
theorem dL_errorPosition_0 : decode cL_errorPosition 0 = .ok (.aload_n 1, 1) := by decide +kernel
theorem dL_errorPosition_1 : decode cL_errorPosition 1 = .ok (.iconst 0, 1) := by decide +kernel
theorem dL_errorPosition_2 : decode cL_errorPosition 2 = .ok (.aload_n 0, 1) := by decide +kernel
theorem dL_errorPosition_3 : decode cL_errorPosition 3 = .ok (.invokevirtual 130, 3) := by decide +kernel
theorem dL_errorPosition_6 : decode cL_errorPosition 6 = .ok (.i2l, 1) := by decide +kernel
theorem dL_errorPosition_7 : decode cL_errorPosition 7 = .ok (.lastore, 1) := by decide +kernel
theorem dL_errorPosition_8 : decode cL_errorPosition 8 = .ok (.goto 6, 3) := by decide +kernel
theorem dL_errorPosition_11 : decode cL_errorPosition 11 = .ok (.astore_n 2, 1) := by decide +kernel
theorem dL_errorPosition_12 : decode cL_errorPosition 12 = .ok (.iconst 1, 1) := by decide +kernel
theorem dL_errorPosition_13 : decode cL_errorPosition 13 = .ok (.ireturn, 1) := by decide +kernel
theorem dL_errorPosition_14 : decode cL_errorPosition 14 = .ok (.iconst 0, 1) := by decide +kernel
theorem dL_errorPosition_15 : decode cL_errorPosition 15 = .ok (.ireturn, 1) := by decide +kernel
theorem dL_failedCommand_0 : decode cL_failedCommand 0 = .ok (.aload_n 1, 1) := by decide +kernel
theorem dL_failedCommand_1 : decode cL_failedCommand 1 = .ok (.iconst 0, 1) := by decide +kernel
theorem dL_failedCommand_2 : decode cL_failedCommand 2 = .ok (.aload_n 0, 1) := by decide +kernel
theorem dL_failedCommand_3 : decode cL_failedCommand 3 = .ok (.invokevirtual 133, 3) := by decide +kernel
theorem dL_failedCommand_6 : decode cL_failedCommand 6 = .ok (.i2l, 1) := by decide +kernel
theorem dL_failedCommand_7 : decode cL_failedCommand 7 = .ok (.lastore, 1) := by decide +kernel
theorem dL_failedCommand_8 : decode cL_failedCommand 8 = .ok (.goto 6, 3) := by decide +kernel
theorem dL_failedCommand_11 : decode cL_failedCommand 11 = .ok (.astore_n 2, 1) := by decide +kernel
theorem dL_failedCommand_12 : decode cL_failedCommand 12 = .ok (.iconst 1, 1) := by decide +kernel
theorem dL_failedCommand_13 : decode cL_failedCommand 13 = .ok (.ireturn, 1) := by decide +kernel
theorem dL_failedCommand_14 : decode cL_failedCommand 14 = .ok (.iconst 0, 1) := by decide +kernel
theorem dL_failedCommand_15 : decode cL_failedCommand 15 = .ok (.ireturn, 1) := by decide +kernel
theorem dL_describeMember_0 : decode cL_describeMember 0 = .ok (.aload_n 2, 1) := by decide +kernel
theorem dL_describeMember_1 : decode cL_describeMember 1 = .ok (.iconst 0, 1) := by decide +kernel
theorem dL_describeMember_2 : decode cL_describeMember 2 = .ok (.aload_n 0, 1) := by decide +kernel
theorem dL_describeMember_3 : decode cL_describeMember 3 = .ok (.iload_n 1, 1) := by decide +kernel
theorem dL_describeMember_4 : decode cL_describeMember 4 = .ok (.invokevirtual 136, 3) := by decide +kernel
theorem dL_describeMember_7 : decode cL_describeMember 7 = .ok (.i2l, 1) := by decide +kernel
theorem dL_describeMember_8 : decode cL_describeMember 8 = .ok (.lastore, 1) := by decide +kernel
theorem dL_describeMember_9 : decode cL_describeMember 9 = .ok (.goto 6, 3) := by decide +kernel
theorem dL_describeMember_12 : decode cL_describeMember 12 = .ok (.astore_n 3, 1) := by decide +kernel
theorem dL_describeMember_13 : decode cL_describeMember 13 = .ok (.iconst 1, 1) := by decide +kernel
theorem dL_describeMember_14 : decode cL_describeMember 14 = .ok (.ireturn, 1) := by decide +kernel
theorem dL_describeMember_15 : decode cL_describeMember 15 = .ok (.iconst 0, 1) := by decide +kernel
theorem dL_describeMember_16 : decode cL_describeMember 16 = .ok (.ireturn, 1) := by decide +kernel
theorem dL_lineAt_0 : decode cL_lineAt 0 = .ok (.aload_n 2, 1) := by decide +kernel
theorem dL_lineAt_1 : decode cL_lineAt 1 = .ok (.iconst 0, 1) := by decide +kernel
theorem dL_lineAt_2 : decode cL_lineAt 2 = .ok (.aload_n 0, 1) := by decide +kernel
theorem dL_lineAt_3 : decode cL_lineAt 3 = .ok (.iload_n 1, 1) := by decide +kernel
theorem dL_lineAt_4 : decode cL_lineAt 4 = .ok (.invokevirtual 139, 3) := by decide +kernel
theorem dL_lineAt_7 : decode cL_lineAt 7 = .ok (.i2l, 1) := by decide +kernel
theorem dL_lineAt_8 : decode cL_lineAt 8 = .ok (.lastore, 1) := by decide +kernel
theorem dL_lineAt_9 : decode cL_lineAt 9 = .ok (.goto 6, 3) := by decide +kernel
theorem dL_lineAt_12 : decode cL_lineAt 12 = .ok (.astore_n 3, 1) := by decide +kernel
theorem dL_lineAt_13 : decode cL_lineAt 13 = .ok (.iconst 1, 1) := by decide +kernel
theorem dL_lineAt_14 : decode cL_lineAt 14 = .ok (.ireturn, 1) := by decide +kernel
theorem dL_lineAt_15 : decode cL_lineAt 15 = .ok (.iconst 0, 1) := by decide +kernel
theorem dL_lineAt_16 : decode cL_lineAt 16 = .ok (.ireturn, 1) := by decide +kernel
theorem dL_meanLostDays_0 : decode cL_meanLostDays 0 = .ok (.aload_n 1, 1) := by decide +kernel
theorem dL_meanLostDays_1 : decode cL_meanLostDays 1 = .ok (.iconst 0, 1) := by decide +kernel
theorem dL_meanLostDays_2 : decode cL_meanLostDays 2 = .ok (.aload_n 0, 1) := by decide +kernel
theorem dL_meanLostDays_3 : decode cL_meanLostDays 3 = .ok (.invokevirtual 143, 3) := by decide +kernel
theorem dL_meanLostDays_6 : decode cL_meanLostDays 6 = .ok (.dastore, 1) := by decide +kernel
theorem dL_meanLostDays_7 : decode cL_meanLostDays 7 = .ok (.goto 6, 3) := by decide +kernel
theorem dL_meanLostDays_10 : decode cL_meanLostDays 10 = .ok (.astore_n 2, 1) := by decide +kernel
theorem dL_meanLostDays_11 : decode cL_meanLostDays 11 = .ok (.iconst 1, 1) := by decide +kernel
theorem dL_meanLostDays_12 : decode cL_meanLostDays 12 = .ok (.ireturn, 1) := by decide +kernel
theorem dL_meanLostDays_13 : decode cL_meanLostDays 13 = .ok (.iconst 0, 1) := by decide +kernel
theorem dL_meanLostDays_14 : decode cL_meanLostDays 14 = .ok (.ireturn, 1) := by decide +kernel
theorem dL_undo_0 : decode cL_undo 0 = .ok (.aload_n 1, 1) := by decide +kernel
theorem dL_undo_1 : decode cL_undo 1 = .ok (.iconst 0, 1) := by decide +kernel
theorem dL_undo_2 : decode cL_undo 2 = .ok (.aload_n 0, 1) := by decide +kernel
theorem dL_undo_3 : decode cL_undo 3 = .ok (.invokevirtual 147, 3) := by decide +kernel
theorem dL_undo_6 : decode cL_undo 6 = .ok (.i2l, 1) := by decide +kernel
theorem dL_undo_7 : decode cL_undo 7 = .ok (.lastore, 1) := by decide +kernel
theorem dL_undo_8 : decode cL_undo 8 = .ok (.goto 6, 3) := by decide +kernel
theorem dL_undo_11 : decode cL_undo 11 = .ok (.astore_n 2, 1) := by decide +kernel
theorem dL_undo_12 : decode cL_undo 12 = .ok (.iconst 1, 1) := by decide +kernel
theorem dL_undo_13 : decode cL_undo 13 = .ok (.ireturn, 1) := by decide +kernel
theorem dL_undo_14 : decode cL_undo 14 = .ok (.iconst 0, 1) := by decide +kernel
theorem dL_undo_15 : decode cL_undo 15 = .ok (.ireturn, 1) := by decide +kernel
theorem dL_restore_0 : decode cL_restore 0 = .ok (.aload_n 1, 1) := by decide +kernel
theorem dL_restore_1 : decode cL_restore 1 = .ok (.iconst 0, 1) := by decide +kernel
theorem dL_restore_2 : decode cL_restore 2 = .ok (.aload_n 0, 1) := by decide +kernel
theorem dL_restore_3 : decode cL_restore 3 = .ok (.invokevirtual 150, 3) := by decide +kernel
theorem dL_restore_6 : decode cL_restore 6 = .ok (.i2l, 1) := by decide +kernel
theorem dL_restore_7 : decode cL_restore 7 = .ok (.lastore, 1) := by decide +kernel
theorem dL_restore_8 : decode cL_restore 8 = .ok (.goto 6, 3) := by decide +kernel
theorem dL_restore_11 : decode cL_restore 11 = .ok (.astore_n 2, 1) := by decide +kernel
theorem dL_restore_12 : decode cL_restore 12 = .ok (.iconst 1, 1) := by decide +kernel
theorem dL_restore_13 : decode cL_restore 13 = .ok (.ireturn, 1) := by decide +kernel
theorem dL_restore_14 : decode cL_restore 14 = .ok (.iconst 0, 1) := by decide +kernel
theorem dL_restore_15 : decode cL_restore 15 = .ok (.ireturn, 1) := by decide +kernel

