theorem dX7_meltingPointByDifferences_1 : decode cX7_meltingPointByDifferences 1 = .ok (.iload_n 1, 1) := by decide +kernel
theorem dX7_meltingPointByDifferences_2 : decode cX7_meltingPointByDifferences 2 = .ok (.invokevirtual 151, 3) := by decide +kernel
theorem dX7_meltingPointByDifferences_5 : decode cX7_meltingPointByDifferences 5 = .ok (.invokevirtual 158, 3) := by decide +kernel
theorem dX7_meltingPointByDifferences_8 : decode cX7_meltingPointByDifferences 8 = .ok (.ireturn, 1) := by decide +kernel
theorem dX7_isMolten_0 : decode cX7_isMolten 0 = .ok (.iload_n 1, 1) := by decide +kernel
theorem dX7_isMolten_1 : decode cX7_isMolten 1 = .ok (.iconst 3, 1) := by decide +kernel
theorem dX7_isMolten_2 : decode cX7_isMolten 2 = .ok (.invokestatic 117, 3) := by decide +kernel
theorem dX7_isMolten_5 : decode cX7_isMolten 5 = .ok (.aload_n 0, 1) := by decide +kernel
theorem dX7_isMolten_6 : decode cX7_isMolten 6 = .ok (.getfield 10, 3) := by decide +kernel
theorem dX7_isMolten_9 : decode cX7_isMolten 9 = .ok (.getfield 121, 3) := by decide +kernel
theorem dX7_isMolten_12 : decode cX7_isMolten 12 = .ok (.iload_n 1, 1) := by decide +kernel
theorem dX7_isMolten_13 : decode cX7_isMolten 13 = .ok (.aaload, 1) := by decide +kernel
theorem dX7_isMolten_14 : decode cX7_isMolten 14 = .ok (.invokevirtual 161, 3) := by decide +kernel
theorem dX7_isMolten_17 : decode cX7_isMolten 17 = .ok (.ireturn, 1) := by decide +kernel
theorem dX7_minutesUntilMolten_0 : decode cX7_minutesUntilMolten 0 = .ok (.aload_n 0, 1) := by decide +kernel
theorem dX7_minutesUntilMolten_1 : decode cX7_minutesUntilMolten 1 = .ok (.iload_n 1, 1) := by decide +kernel
theorem dX7_minutesUntilMolten_2 : decode cX7_minutesUntilMolten 2 = .ok (.invokevirtual 165, 3) := by decide +kernel
theorem dX7_minutesUntilMolten_5 : decode cX7_minutesUntilMolten 5 = .ok (.aload_n 0, 1) := by decide +kernel
theorem dX7_minutesUntilMolten_6 : decode cX7_minutesUntilMolten 6 = .ok (.getfield 10, 3) := by decide +kernel
theorem dX7_minutesUntilMolten_9 : decode cX7_minutesUntilMolten 9 = .ok (.iload_n 1, 1) := by decide +kernel
theorem dX7_minutesUntilMolten_10 : decode cX7_minutesUntilMolten 10 = .ok (.invokevirtual 168, 3) := by decide +kernel
theorem dX7_minutesUntilMolten_13 : decode cX7_minutesUntilMolten 13 = .ok (.ireturn, 1) := by decide +kernel
theorem dX7_minutesUntilMoltenByDivision_0 : decode cX7_minutesUntilMoltenByDivision 0 = .ok (.aload_n 0, 1) := by decide +kernel
theorem dX7_minutesUntilMoltenByDivision_1 : decode cX7_minutesUntilMoltenByDivision 1 = .ok (.iload_n 1, 1) := by decide +kernel
theorem dX7_minutesUntilMoltenByDivision_2 : decode cX7_minutesUntilMoltenByDivision 2 = .ok (.invokevirtual 165, 3) := by decide +kernel
theorem dX7_minutesUntilMoltenByDivision_5 : decode cX7_minutesUntilMoltenByDivision 5 = .ok (.aload_n 0, 1) := by decide +kernel
theorem dX7_minutesUntilMoltenByDivision_6 : decode cX7_minutesUntilMoltenByDivision 6 = .ok (.getfield 10, 3) := by decide +kernel
theorem dX7_minutesUntilMoltenByDivision_9 : decode cX7_minutesUntilMoltenByDivision 9 = .ok (.iload_n 1, 1) := by decide +kernel
theorem dX7_minutesUntilMoltenByDivision_10 : decode cX7_minutesUntilMoltenByDivision 10 = .ok (.invokevirtual 172, 3) := by decide +kernel
theorem dX7_minutesUntilMoltenByDivision_13 : decode cX7_minutesUntilMoltenByDivision 13 = .ok (.ireturn, 1) := by decide +kernel
theorem dX7_furnaceByTemperature_0 : decode cX7_furnaceByTemperature 0 = .ok (.iconst 0, 1) := by decide +kernel
theorem dX7_furnaceByTemperature_1 : decode cX7_furnaceByTemperature 1 = .ok (.istore_n 2, 1) := by decide +kernel
theorem dX7_furnaceByTemperature_2 : decode cX7_furnaceByTemperature 2 = .ok (.iload_n 2, 1) := by decide +kernel
theorem dX7_furnaceByTemperature_3 : decode cX7_furnaceByTemperature 3 = .ok (.iconst 3, 1) := by decide +kernel
theorem dX7_furnaceByTemperature_4 : decode cX7_furnaceByTemperature 4 = .ok (.if_icmp .ge 23, 3) := by decide +kernel
theorem dX7_furnaceByTemperature_7 : decode cX7_furnaceByTemperature 7 = .ok (.aload_n 0, 1) := by decide +kernel
theorem dX7_furnaceByTemperature_8 : decode cX7_furnaceByTemperature 8 = .ok (.getfield 10, 3) := by decide +kernel
theorem dX7_furnaceByTemperature_11 : decode cX7_furnaceByTemperature 11 = .ok (.iload_n 2, 1) := by decide +kernel
theorem dX7_furnaceByTemperature_12 : decode cX7_furnaceByTemperature 12 = .ok (.invokevirtual 175, 3) := by decide +kernel
theorem dX7_furnaceByTemperature_15 : decode cX7_furnaceByTemperature 15 = .ok (.iload_n 1, 1) := by decide +kernel
theorem dX7_furnaceByTemperature_16 : decode cX7_furnaceByTemperature 16 = .ok (.if_icmp .ne 5, 3) := by decide +kernel
theorem dX7_furnaceByTemperature_19 : decode cX7_furnaceByTemperature 19 = .ok (.iload_n 2, 1) := by decide +kernel
theorem dX7_furnaceByTemperature_20 : decode cX7_furnaceByTemperature 20 = .ok (.ireturn, 1) := by decide +kernel
theorem dX7_furnaceByTemperature_21 : decode cX7_furnaceByTemperature 21 = .ok (.iinc 2 1, 3) := by decide +kernel
theorem dX7_furnaceByTemperature_24 : decode cX7_furnaceByTemperature 24 = .ok (.goto (-22), 3) := by decide +kernel
theorem dX7_furnaceByTemperature_27 : decode cX7_furnaceByTemperature 27 = .ok (.new 108, 3) := by decide +kernel
theorem dX7_furnaceByTemperature_30 : decode cX7_furnaceByTemperature 30 = .ok (.dup, 1) := by decide +kernel
theorem dX7_furnaceByTemperature_31 : decode cX7_furnaceByTemperature 31 = .ok (.invokespecial 110, 3) := by decide +kernel
theorem dX7_furnaceByTemperature_34 : decode cX7_furnaceByTemperature 34 = .ok (.athrow, 1) := by decide +kernel
theorem dX7_ladleMass_0 : decode cX7_ladleMass 0 = .ok (.iload_n 1, 1) := by decide +kernel
theorem dX7_ladleMass_1 : decode cX7_ladleMass 1 = .ok (.iconst 3, 1) := by decide +kernel
theorem dX7_ladleMass_2 : decode cX7_ladleMass 2 = .ok (.invokestatic 117, 3) := by decide +kernel
theorem dX7_ladleMass_5 : decode cX7_ladleMass 5 = .ok (.aload_n 0, 1) := by decide +kernel
theorem dX7_ladleMass_6 : decode cX7_ladleMass 6 = .ok (.getfield 10, 3) := by decide +kernel
theorem dX7_ladleMass_9 : decode cX7_ladleMass 9 = .ok (.getfield 178, 3) := by decide +kernel
theorem dX7_ladleMass_12 : decode cX7_ladleMass 12 = .ok (.iload_n 1, 1) := by decide +kernel
theorem dX7_ladleMass_13 : decode cX7_ladleMass 13 = .ok (.aaload, 1) := by decide +kernel
theorem dX7_ladleMass_14 : decode cX7_ladleMass 14 = .ok (.getfield 125, 3) := by decide +kernel
theorem dX7_ladleMass_17 : decode cX7_ladleMass 17 = .ok (.getfield 131, 3) := by decide +kernel
theorem dX7_ladleMass_20 : decode cX7_ladleMass 20 = .ok (.iload_n 2, 1) := by decide +kernel
theorem dX7_ladleMass_21 : decode cX7_ladleMass 21 = .ok (.invokestatic 137, 3) := by decide +kernel
theorem dX7_ladleMass_24 : decode cX7_ladleMass 24 = .ok (.iaload, 1) := by decide +kernel
theorem dX7_ladleMass_25 : decode cX7_ladleMass 25 = .ok (.ireturn, 1) := by decide +kernel
theorem dX7_ladleTotal_0 : decode cX7_ladleTotal 0 = .ok (.iload_n 1, 1) := by decide +kernel
theorem dX7_ladleTotal_1 : decode cX7_ladleTotal 1 = .ok (.iconst 3, 1) := by decide +kernel
theorem dX7_ladleTotal_2 : decode cX7_ladleTotal 2 = .ok (.invokestatic 117, 3) := by decide +kernel
theorem dX7_ladleTotal_5 : decode cX7_ladleTotal 5 = .ok (.aload_n 0, 1) := by decide +kernel
theorem dX7_ladleTotal_6 : decode cX7_ladleTotal 6 = .ok (.getfield 10, 3) := by decide +kernel
theorem dX7_ladleTotal_9 : decode cX7_ladleTotal 9 = .ok (.getfield 178, 3) := by decide +kernel
theorem dX7_ladleTotal_12 : decode cX7_ladleTotal 12 = .ok (.iload_n 1, 1) := by decide +kernel
theorem dX7_ladleTotal_13 : decode cX7_ladleTotal 13 = .ok (.aaload, 1) := by decide +kernel
theorem dX7_ladleTotal_14 : decode cX7_ladleTotal 14 = .ok (.getfield 125, 3) := by decide +kernel
theorem dX7_ladleTotal_17 : decode cX7_ladleTotal 17 = .ok (.invokevirtual 141, 3) := by decide +kernel
theorem dX7_ladleTotal_20 : decode cX7_ladleTotal 20 = .ok (.ireturn, 1) := by decide +kernel
theorem dX7_ladleTemperature_0 : decode cX7_ladleTemperature 0 = .ok (.iload_n 1, 1) := by decide +kernel
theorem dX7_ladleTemperature_1 : decode cX7_ladleTemperature 1 = .ok (.iconst 3, 1) := by decide +kernel
theorem dX7_ladleTemperature_2 : decode cX7_ladleTemperature 2 = .ok (.invokestatic 117, 3) := by decide +kernel
theorem dX7_ladleTemperature_5 : decode cX7_ladleTemperature 5 = .ok (.aload_n 0, 1) := by decide +kernel
theorem dX7_ladleTemperature_6 : decode cX7_ladleTemperature 6 = .ok (.getfield 10, 3) := by decide +kernel
theorem dX7_ladleTemperature_9 : decode cX7_ladleTemperature 9 = .ok (.getfield 178, 3) := by decide +kernel
theorem dX7_ladleTemperature_12 : decode cX7_ladleTemperature 12 = .ok (.iload_n 1, 1) := by decide +kernel
theorem dX7_ladleTemperature_13 : decode cX7_ladleTemperature 13 = .ok (.aaload, 1) := by decide +kernel
theorem dX7_ladleTemperature_14 : decode cX7_ladleTemperature 14 = .ok (.getfield 145, 3) := by decide +kernel
theorem dX7_ladleTemperature_17 : decode cX7_ladleTemperature 17 = .ok (.ireturn, 1) := by decide +kernel
theorem dX7_pouringMinutes_0 : decode cX7_pouringMinutes 0 = .ok (.iload_n 1, 1) := by decide +kernel
theorem dX7_pouringMinutes_1 : decode cX7_pouringMinutes 1 = .ok (.iconst 3, 1) := by decide +kernel
theorem dX7_pouringMinutes_2 : decode cX7_pouringMinutes 2 = .ok (.invokestatic 117, 3) := by decide +kernel
theorem dX7_pouringMinutes_5 : decode cX7_pouringMinutes 5 = .ok (.aload_n 0, 1) := by decide +kernel
theorem dX7_pouringMinutes_6 : decode cX7_pouringMinutes 6 = .ok (.getfield 10, 3) := by decide +kernel
theorem dX7_pouringMinutes_9 : decode cX7_pouringMinutes 9 = .ok (.getfield 178, 3) := by decide +kernel
theorem dX7_pouringMinutes_12 : decode cX7_pouringMinutes 12 = .ok (.iload_n 1, 1) := by decide +kernel
theorem dX7_pouringMinutes_13 : decode cX7_pouringMinutes 13 = .ok (.aaload, 1) := by decide +kernel
theorem dX7_pouringMinutes_14 : decode cX7_pouringMinutes 14 = .ok (.astore_n 2, 1) := by decide +kernel
theorem dX7_pouringMinutes_15 : decode cX7_pouringMinutes 15 = .ok (.aload_n 2, 1) := by decide +kernel
theorem dX7_pouringMinutes_16 : decode cX7_pouringMinutes 16 = .ok (.invokevirtual 161, 3) := by decide +kernel
theorem dX7_pouringMinutes_19 : decode cX7_pouringMinutes 19 = .ok (.ifCond .ne 11, 3) := by decide +kernel
theorem dX7_pouringMinutes_22 : decode cX7_pouringMinutes 22 = .ok (.new 108, 3) := by decide +kernel
theorem dX7_pouringMinutes_25 : decode cX7_pouringMinutes 25 = .ok (.dup, 1) := by decide +kernel
theorem dX7_pouringMinutes_26 : decode cX7_pouringMinutes 26 = .ok (.invokespecial 110, 3) := by decide +kernel
theorem dX7_pouringMinutes_29 : decode cX7_pouringMinutes 29 = .ok (.athrow, 1) := by decide +kernel
theorem dX7_pouringMinutes_30 : decode cX7_pouringMinutes 30 = .ok (.aload_n 2, 1) := by decide +kernel
theorem dX7_pouringMinutes_31 : decode cX7_pouringMinutes 31 = .ok (.getfield 145, 3) := by decide +kernel
theorem dX7_pouringMinutes_34 : decode cX7_pouringMinutes 34 = .ok (.aload_n 2, 1) := by decide +kernel
theorem dX7_pouringMinutes_35 : decode cX7_pouringMinutes 35 = .ok (.getfield 125, 3) := by decide +kernel
theorem dX7_pouringMinutes_38 : decode cX7_pouringMinutes 38 = .ok (.invokevirtual 155, 3) := by decide +kernel
theorem dX7_pouringMinutes_41 : decode cX7_pouringMinutes 41 = .ok (.isub, 1) := by decide +kernel
theorem dX7_pouringMinutes_42 : decode cX7_pouringMinutes 42 = .ok (.bipush 10, 2) := by decide +kernel
theorem dX7_pouringMinutes_44 : decode cX7_pouringMinutes 44 = .ok (.idiv, 1) := by decide +kernel
theorem dX7_pouringMinutes_45 : decode cX7_pouringMinutes 45 = .ok (.ireturn, 1) := by decide +kernel
theorem dX7_mouldCount_0 : decode cX7_mouldCount 0 = .ok (.aload_n 0, 1) := by decide +kernel
theorem dX7_mouldCount_1 : decode cX7_mouldCount 1 = .ok (.getfield 10, 3) := by decide +kernel
theorem dX7_mouldCount_4 : decode cX7_mouldCount 4 = .ok (.getfield 181, 3) := by decide +kernel
theorem dX7_mouldCount_7 : decode cX7_mouldCount 7 = .ok (.ireturn, 1) := by decide +kernel
theorem dX7_volume_0 : decode cX7_volume 0 = .ok (.iload_n 1, 1) := by decide +kernel
theorem dX7_volume_1 : decode cX7_volume 1 = .ok (.aload_n 0, 1) := by decide +kernel
theorem dX7_volume_2 : decode cX7_volume 2 = .ok (.getfield 10, 3) := by decide +kernel
theorem dX7_volume_5 : decode cX7_volume 5 = .ok (.getfield 181, 3) := by decide +kernel
theorem dX7_volume_8 : decode cX7_volume 8 = .ok (.invokestatic 117, 3) := by decide +kernel
theorem dX7_volume_11 : decode cX7_volume 11 = .ok (.aload_n 0, 1) := by decide +kernel
theorem dX7_volume_12 : decode cX7_volume 12 = .ok (.getfield 10, 3) := by decide +kernel
theorem dX7_volume_15 : decode cX7_volume 15 = .ok (.getfield 184, 3) := by decide +kernel
theorem dX7_volume_18 : decode cX7_volume 18 = .ok (.iload_n 1, 1) := by decide +kernel
theorem dX7_volume_19 : decode cX7_volume 19 = .ok (.iaload, 1) := by decide +kernel
theorem dX7_volume_20 : decode cX7_volume 20 = .ok (.ireturn, 1) := by decide +kernel
theorem dX7_isFilled_0 : decode cX7_isFilled 0 = .ok (.iload_n 1, 1) := by decide +kernel
theorem dX7_isFilled_1 : decode cX7_isFilled 1 = .ok (.aload_n 0, 1) := by decide +kernel
theorem dX7_isFilled_2 : decode cX7_isFilled 2 = .ok (.getfield 10, 3) := by decide +kernel
theorem dX7_isFilled_5 : decode cX7_isFilled 5 = .ok (.getfield 181, 3) := by decide +kernel
theorem dX7_isFilled_8 : decode cX7_isFilled 8 = .ok (.invokestatic 117, 3) := by decide +kernel
theorem dX7_isFilled_11 : decode cX7_isFilled 11 = .ok (.aload_n 0, 1) := by decide +kernel
theorem dX7_isFilled_12 : decode cX7_isFilled 12 = .ok (.getfield 10, 3) := by decide +kernel
theorem dX7_isFilled_15 : decode cX7_isFilled 15 = .ok (.getfield 187, 3) := by decide +kernel
theorem dX7_isFilled_18 : decode cX7_isFilled 18 = .ok (.iload_n 1, 1) := by decide +kernel
theorem dX7_isFilled_19 : decode cX7_isFilled 19 = .ok (.aaload, 1) := by decide +kernel
theorem dX7_isFilled_20 : decode cX7_isFilled 20 = .ok (.invokevirtual 141, 3) := by decide +kernel
theorem dX7_isFilled_23 : decode cX7_isFilled 23 = .ok (.ifCond .le 7, 3) := by decide +kernel
theorem dX7_isFilled_26 : decode cX7_isFilled 26 = .ok (.iconst 1, 1) := by decide +kernel
theorem dX7_isFilled_27 : decode cX7_isFilled 27 = .ok (.goto 4, 3) := by decide +kernel
theorem dX7_isFilled_30 : decode cX7_isFilled 30 = .ok (.iconst 0, 1) := by decide +kernel
theorem dX7_isFilled_31 : decode cX7_isFilled 31 = .ok (.ireturn, 1) := by decide +kernel
theorem dX7_mouldMass_0 : decode cX7_mouldMass 0 = .ok (.iload_n 1, 1) := by decide +kernel
theorem dX7_mouldMass_1 : decode cX7_mouldMass 1 = .ok (.aload_n 0, 1) := by decide +kernel
theorem dX7_mouldMass_2 : decode cX7_mouldMass 2 = .ok (.getfield 10, 3) := by decide +kernel
theorem dX7_mouldMass_5 : decode cX7_mouldMass 5 = .ok (.getfield 181, 3) := by decide +kernel
theorem dX7_mouldMass_8 : decode cX7_mouldMass 8 = .ok (.invokestatic 117, 3) := by decide +kernel
theorem dX7_mouldMass_11 : decode cX7_mouldMass 11 = .ok (.aload_n 0, 1) := by decide +kernel
theorem dX7_mouldMass_12 : decode cX7_mouldMass 12 = .ok (.getfield 10, 3) := by decide +kernel
theorem dX7_mouldMass_15 : decode cX7_mouldMass 15 = .ok (.getfield 187, 3) := by decide +kernel
theorem dX7_mouldMass_18 : decode cX7_mouldMass 18 = .ok (.iload_n 1, 1) := by decide +kernel
theorem dX7_mouldMass_19 : decode cX7_mouldMass 19 = .ok (.aaload, 1) := by decide +kernel
theorem dX7_mouldMass_20 : decode cX7_mouldMass 20 = .ok (.getfield 131, 3) := by decide +kernel
theorem dX7_mouldMass_23 : decode cX7_mouldMass 23 = .ok (.iload_n 2, 1) := by decide +kernel
theorem dX7_mouldMass_24 : decode cX7_mouldMass 24 = .ok (.invokestatic 137, 3) := by decide +kernel
theorem dX7_mouldMass_27 : decode cX7_mouldMass 27 = .ok (.iaload, 1) := by decide +kernel
theorem dX7_mouldMass_28 : decode cX7_mouldMass 28 = .ok (.ireturn, 1) := by decide +kernel
theorem dX7_ingotCount_0 : decode cX7_ingotCount 0 = .ok (.aload_n 0, 1) := by decide +kernel
theorem dX7_ingotCount_1 : decode cX7_ingotCount 1 = .ok (.getfield 10, 3) := by decide +kernel
theorem dX7_ingotCount_4 : decode cX7_ingotCount 4 = .ok (.getfield 191, 3) := by decide +kernel
theorem dX7_ingotCount_7 : decode cX7_ingotCount 7 = .ok (.ireturn, 1) := by decide +kernel
theorem dX7_ingotMass_0 : decode cX7_ingotMass 0 = .ok (.iload_n 1, 1) := by decide +kernel
theorem dX7_ingotMass_1 : decode cX7_ingotMass 1 = .ok (.aload_n 0, 1) := by decide +kernel
theorem dX7_ingotMass_2 : decode cX7_ingotMass 2 = .ok (.getfield 10, 3) := by decide +kernel
theorem dX7_ingotMass_5 : decode cX7_ingotMass 5 = .ok (.getfield 191, 3) := by decide +kernel
theorem dX7_ingotMass_8 : decode cX7_ingotMass 8 = .ok (.invokestatic 117, 3) := by decide +kernel
theorem dX7_ingotMass_11 : decode cX7_ingotMass 11 = .ok (.aload_n 0, 1) := by decide +kernel
theorem dX7_ingotMass_12 : decode cX7_ingotMass 12 = .ok (.getfield 10, 3) := by decide +kernel
theorem dX7_ingotMass_15 : decode cX7_ingotMass 15 = .ok (.getfield 194, 3) := by decide +kernel
theorem dX7_ingotMass_18 : decode cX7_ingotMass 18 = .ok (.iload_n 1, 1) := by decide +kernel
theorem dX7_ingotMass_19 : decode cX7_ingotMass 19 = .ok (.aaload, 1) := by decide +kernel
theorem dX7_ingotMass_20 : decode cX7_ingotMass 20 = .ok (.getfield 131, 3) := by decide +kernel
theorem dX7_ingotMass_23 : decode cX7_ingotMass 23 = .ok (.iload_n 2, 1) := by decide +kernel
theorem dX7_ingotMass_24 : decode cX7_ingotMass 24 = .ok (.invokestatic 137, 3) := by decide +kernel
theorem dX7_ingotMass_27 : decode cX7_ingotMass 27 = .ok (.iaload, 1) := by decide +kernel
theorem dX7_ingotMass_28 : decode cX7_ingotMass 28 = .ok (.ireturn, 1) := by decide +kernel
theorem dX7_share_0 : decode cX7_share 0 = .ok (.iload_n 1, 1) := by decide +kernel
theorem dX7_share_1 : decode cX7_share 1 = .ok (.aload_n 0, 1) := by decide +kernel
theorem dX7_share_2 : decode cX7_share 2 = .ok (.getfield 10, 3) := by decide +kernel
theorem dX7_share_5 : decode cX7_share 5 = .ok (.getfield 191, 3) := by decide +kernel
theorem dX7_share_8 : decode cX7_share 8 = .ok (.invokestatic 117, 3) := by decide +kernel
theorem dX7_share_11 : decode cX7_share 11 = .ok (.aload_n 0, 1) := by decide +kernel
theorem dX7_share_12 : decode cX7_share 12 = .ok (.getfield 10, 3) := by decide +kernel
theorem dX7_share_15 : decode cX7_share 15 = .ok (.getfield 194, 3) := by decide +kernel
theorem dX7_share_18 : decode cX7_share 18 = .ok (.iload_n 1, 1) := by decide +kernel
theorem dX7_share_19 : decode cX7_share 19 = .ok (.aaload, 1) := by decide +kernel
theorem dX7_share_20 : decode cX7_share 20 = .ok (.iload_n 2, 1) := by decide +kernel
theorem dX7_share_21 : decode cX7_share 21 = .ok (.invokestatic 137, 3) := by decide +kernel
theorem dX7_share_24 : decode cX7_share 24 = .ok (.invokevirtual 197, 3) := by decide +kernel
theorem dX7_share_27 : decode cX7_share 27 = .ok (.ireturn, 1) := by decide +kernel
theorem dX7_grade_0 : decode cX7_grade 0 = .ok (.iload_n 1, 1) := by decide +kernel
theorem dX7_grade_1 : decode cX7_grade 1 = .ok (.aload_n 0, 1) := by decide +kernel
theorem dX7_grade_2 : decode cX7_grade 2 = .ok (.getfield 10, 3) := by decide +kernel
theorem dX7_grade_5 : decode cX7_grade 5 = .ok (.getfield 191, 3) := by decide +kernel
theorem dX7_grade_8 : decode cX7_grade 8 = .ok (.invokestatic 117, 3) := by decide +kernel
theorem dX7_grade_11 : decode cX7_grade 11 = .ok (.aload_n 0, 1) := by decide +kernel
theorem dX7_grade_12 : decode cX7_grade 12 = .ok (.getfield 10, 3) := by decide +kernel
theorem dX7_grade_15 : decode cX7_grade 15 = .ok (.getfield 194, 3) := by decide +kernel
theorem dX7_grade_18 : decode cX7_grade 18 = .ok (.iload_n 1, 1) := by decide +kernel
theorem dX7_grade_19 : decode cX7_grade 19 = .ok (.aaload, 1) := by decide +kernel
theorem dX7_grade_20 : decode cX7_grade 20 = .ok (.invokevirtual 200, 3) := by decide +kernel
theorem dX7_grade_23 : decode cX7_grade 23 = .ok (.ireturn, 1) := by decide +kernel
theorem dX7_ingotByMass_0 : decode cX7_ingotByMass 0 = .ok (.iconst 0, 1) := by decide +kernel
theorem dX7_ingotByMass_1 : decode cX7_ingotByMass 1 = .ok (.istore_n 2, 1) := by decide +kernel
theorem dX7_ingotByMass_2 : decode cX7_ingotByMass 2 = .ok (.iload_n 2, 1) := by decide +kernel
theorem dX7_ingotByMass_3 : decode cX7_ingotByMass 3 = .ok (.aload_n 0, 1) := by decide +kernel
theorem dX7_ingotByMass_4 : decode cX7_ingotByMass 4 = .ok (.getfield 10, 3) := by decide +kernel
theorem dX7_ingotByMass_7 : decode cX7_ingotByMass 7 = .ok (.getfield 191, 3) := by decide +kernel
theorem dX7_ingotByMass_10 : decode cX7_ingotByMass 10 = .ok (.if_icmp .ge 23, 3) := by decide +kernel
theorem dX7_ingotByMass_13 : decode cX7_ingotByMass 13 = .ok (.aload_n 0, 1) := by decide +kernel
theorem dX7_ingotByMass_14 : decode cX7_ingotByMass 14 = .ok (.getfield 10, 3) := by decide +kernel
theorem dX7_ingotByMass_17 : decode cX7_ingotByMass 17 = .ok (.iload_n 2, 1) := by decide +kernel
theorem dX7_ingotByMass_18 : decode cX7_ingotByMass 18 = .ok (.invokevirtual 204, 3) := by decide +kernel
theorem dX7_ingotByMass_21 : decode cX7_ingotByMass 21 = .ok (.iload_n 1, 1) := by decide +kernel
theorem dX7_ingotByMass_22 : decode cX7_ingotByMass 22 = .ok (.if_icmp .ne 5, 3) := by decide +kernel
theorem dX7_ingotByMass_25 : decode cX7_ingotByMass 25 = .ok (.iload_n 2, 1) := by decide +kernel
theorem dX7_ingotByMass_26 : decode cX7_ingotByMass 26 = .ok (.ireturn, 1) := by decide +kernel
theorem dX7_ingotByMass_27 : decode cX7_ingotByMass 27 = .ok (.iinc 2 1, 3) := by decide +kernel
theorem dX7_ingotByMass_30 : decode cX7_ingotByMass 30 = .ok (.goto (-28), 3) := by decide +kernel
theorem dX7_ingotByMass_33 : decode cX7_ingotByMass 33 = .ok (.new 108, 3) := by decide +kernel
theorem dX7_ingotByMass_36 : decode cX7_ingotByMass 36 = .ok (.dup, 1) := by decide +kernel
theorem dX7_ingotByMass_37 : decode cX7_ingotByMass 37 = .ok (.invokespecial 110, 3) := by decide +kernel
theorem dX7_ingotByMass_40 : decode cX7_ingotByMass 40 = .ok (.athrow, 1) := by decide +kernel
theorem dX7_time_0 : decode cX7_time 0 = .ok (.aload_n 0, 1) := by decide +kernel
theorem dX7_time_1 : decode cX7_time 1 = .ok (.getfield 10, 3) := by decide +kernel
theorem dX7_time_4 : decode cX7_time 4 = .ok (.getfield 207, 3) := by decide +kernel
theorem dX7_time_7 : decode cX7_time 7 = .ok (.ireturn, 1) := by decide +kernel
theorem dX7_charged_0 : decode cX7_charged 0 = .ok (.aload_n 0, 1) := by decide +kernel
theorem dX7_charged_1 : decode cX7_charged 1 = .ok (.getfield 10, 3) := by decide +kernel
theorem dX7_charged_4 : decode cX7_charged 4 = .ok (.getfield 210, 3) := by decide +kernel
theorem dX7_charged_7 : decode cX7_charged 7 = .ok (.getfield 131, 3) := by decide +kernel
theorem dX7_charged_10 : decode cX7_charged 10 = .ok (.iload_n 1, 1) := by decide +kernel
theorem dX7_charged_11 : decode cX7_charged 11 = .ok (.invokestatic 137, 3) := by decide +kernel
theorem dX7_charged_14 : decode cX7_charged 14 = .ok (.iaload, 1) := by decide +kernel
theorem dX7_charged_15 : decode cX7_charged 15 = .ok (.ireturn, 1) := by decide +kernel
theorem dX7_slag_0 : decode cX7_slag 0 = .ok (.aload_n 0, 1) := by decide +kernel
theorem dX7_slag_1 : decode cX7_slag 1 = .ok (.getfield 10, 3) := by decide +kernel
theorem dX7_slag_4 : decode cX7_slag 4 = .ok (.getfield 213, 3) := by decide +kernel
theorem dX7_slag_7 : decode cX7_slag 7 = .ok (.getfield 131, 3) := by decide +kernel
theorem dX7_slag_10 : decode cX7_slag 10 = .ok (.iload_n 1, 1) := by decide +kernel
theorem dX7_slag_11 : decode cX7_slag 11 = .ok (.invokestatic 137, 3) := by decide +kernel
theorem dX7_slag_14 : decode cX7_slag 14 = .ok (.iaload, 1) := by decide +kernel
theorem dX7_slag_15 : decode cX7_slag 15 = .ok (.ireturn, 1) := by decide +kernel
theorem dX7_stock_0 : decode cX7_stock 0 = .ok (.aload_n 0, 1) := by decide +kernel
theorem dX7_stock_1 : decode cX7_stock 1 = .ok (.getfield 10, 3) := by decide +kernel
theorem dX7_stock_4 : decode cX7_stock 4 = .ok (.iload_n 1, 1) := by decide +kernel
theorem dX7_stock_5 : decode cX7_stock 5 = .ok (.invokestatic 137, 3) := by decide +kernel
theorem dX7_stock_8 : decode cX7_stock 8 = .ok (.invokevirtual 216, 3) := by decide +kernel
theorem dX7_stock_11 : decode cX7_stock 11 = .ok (.ireturn, 1) := by decide +kernel
theorem dX7_stockByAccounts_0 : decode cX7_stockByAccounts 0 = .ok (.aload_n 0, 1) := by decide +kernel
theorem dX7_stockByAccounts_1 : decode cX7_stockByAccounts 1 = .ok (.getfield 10, 3) := by decide +kernel
theorem dX7_stockByAccounts_4 : decode cX7_stockByAccounts 4 = .ok (.iload_n 1, 1) := by decide +kernel
theorem dX7_stockByAccounts_5 : decode cX7_stockByAccounts 5 = .ok (.invokestatic 137, 3) := by decide +kernel
theorem dX7_stockByAccounts_8 : decode cX7_stockByAccounts 8 = .ok (.invokevirtual 219, 3) := by decide +kernel
theorem dX7_stockByAccounts_11 : decode cX7_stockByAccounts 11 = .ok (.ireturn, 1) := by decide +kernel
theorem dX7_meanTemperature_0 : decode cX7_meanTemperature 0 = .ok (.iconst 0, 1) := by decide +kernel
theorem dX7_meanTemperature_1 : decode cX7_meanTemperature 1 = .ok (.istore_n 1, 1) := by decide +kernel
theorem dX7_meanTemperature_2 : decode cX7_meanTemperature 2 = .ok (.iconst 0, 1) := by decide +kernel
theorem dX7_meanTemperature_3 : decode cX7_meanTemperature 3 = .ok (.istore_n 2, 1) := by decide +kernel
theorem dX7_meanTemperature_4 : decode cX7_meanTemperature 4 = .ok (.iload_n 2, 1) := by decide +kernel
theorem dX7_meanTemperature_5 : decode cX7_meanTemperature 5 = .ok (.iconst 3, 1) := by decide +kernel
theorem dX7_meanTemperature_6 : decode cX7_meanTemperature 6 = .ok (.if_icmp .ge 24, 3) := by decide +kernel
theorem dX7_meanTemperature_9 : decode cX7_meanTemperature 9 = .ok (.iload_n 1, 1) := by decide +kernel
theorem dX7_meanTemperature_10 : decode cX7_meanTemperature 10 = .ok (.aload_n 0, 1) := by decide +kernel
theorem dX7_meanTemperature_11 : decode cX7_meanTemperature 11 = .ok (.getfield 10, 3) := by decide +kernel
theorem dX7_meanTemperature_14 : decode cX7_meanTemperature 14 = .ok (.getfield 121, 3) := by decide +kernel
theorem dX7_meanTemperature_17 : decode cX7_meanTemperature 17 = .ok (.iload_n 2, 1) := by decide +kernel
theorem dX7_meanTemperature_18 : decode cX7_meanTemperature 18 = .ok (.aaload, 1) := by decide +kernel
theorem dX7_meanTemperature_19 : decode cX7_meanTemperature 19 = .ok (.getfield 145, 3) := by decide +kernel
theorem dX7_meanTemperature_22 : decode cX7_meanTemperature 22 = .ok (.iadd, 1) := by decide +kernel
theorem dX7_meanTemperature_23 : decode cX7_meanTemperature 23 = .ok (.istore_n 1, 1) := by decide +kernel
theorem dX7_meanTemperature_24 : decode cX7_meanTemperature 24 = .ok (.iinc 2 1, 3) := by decide +kernel
theorem dX7_meanTemperature_27 : decode cX7_meanTemperature 27 = .ok (.goto (-23), 3) := by decide +kernel
theorem dX7_meanTemperature_30 : decode cX7_meanTemperature 30 = .ok (.iload_n 1, 1) := by decide +kernel
theorem dX7_meanTemperature_31 : decode cX7_meanTemperature 31 = .ok (.i2d, 1) := by decide +kernel
theorem dX7_meanTemperature_32 : decode cX7_meanTemperature 32 = .ok (.ldc2_w 222, 3) := by decide +kernel
theorem dX7_meanTemperature_35 : decode cX7_meanTemperature 35 = .ok (.ddiv, 1) := by decide +kernel
theorem dX7_meanTemperature_36 : decode cX7_meanTemperature 36 = .ok (.dreturn, 1) := by decide +kernel
theorem dX7_slagRate_0 : decode cX7_slagRate 0 = .ok (.aload_n 0, 1) := by decide +kernel
theorem dX7_slagRate_1 : decode cX7_slagRate 1 = .ok (.getfield 10, 3) := by decide +kernel
theorem dX7_slagRate_4 : decode cX7_slagRate 4 = .ok (.getfield 210, 3) := by decide +kernel
theorem dX7_slagRate_7 : decode cX7_slagRate 7 = .ok (.invokevirtual 141, 3) := by decide +kernel
theorem dX7_slagRate_10 : decode cX7_slagRate 10 = .ok (.istore_n 1, 1) := by decide +kernel
theorem dX7_slagRate_11 : decode cX7_slagRate 11 = .ok (.iload_n 1, 1) := by decide +kernel
theorem dX7_slagRate_12 : decode cX7_slagRate 12 = .ok (.ifCond .ne 11, 3) := by decide +kernel
theorem dX7_slagRate_15 : decode cX7_slagRate 15 = .ok (.new 224, 3) := by decide +kernel
theorem dX7_slagRate_18 : decode cX7_slagRate 18 = .ok (.dup, 1) := by decide +kernel
theorem dX7_slagRate_19 : decode cX7_slagRate 19 = .ok (.invokespecial 226, 3) := by decide +kernel
theorem dX7_slagRate_22 : decode cX7_slagRate 22 = .ok (.athrow, 1) := by decide +kernel
theorem dX7_slagRate_23 : decode cX7_slagRate 23 = .ok (.aload_n 0, 1) := by decide +kernel
theorem dX7_slagRate_24 : decode cX7_slagRate 24 = .ok (.getfield 10, 3) := by decide +kernel
theorem dX7_slagRate_27 : decode cX7_slagRate 27 = .ok (.getfield 213, 3) := by decide +kernel
theorem dX7_slagRate_30 : decode cX7_slagRate 30 = .ok (.invokevirtual 141, 3) := by decide +kernel
theorem dX7_slagRate_33 : decode cX7_slagRate 33 = .ok (.i2f, 1) := by decide +kernel
theorem dX7_slagRate_34 : decode cX7_slagRate 34 = .ok (.iload_n 1, 1) := by decide +kernel
theorem dX7_slagRate_35 : decode cX7_slagRate 35 = .ok (.i2f, 1) := by decide +kernel
theorem dX7_slagRate_36 : decode cX7_slagRate 36 = .ok (.fdiv, 1) := by decide +kernel
theorem dX7_slagRate_37 : decode cX7_slagRate 37 = .ok (.freturn, 1) := by decide +kernel
theorem dX7_isConsistent_0 : decode cX7_isConsistent 0 = .ok (.iconst 0, 1) := by decide +kernel
theorem dX7_isConsistent_1 : decode cX7_isConsistent 1 = .ok (.istore_n 1, 1) := by decide +kernel
theorem dX7_isConsistent_2 : decode cX7_isConsistent 2 = .ok (.iload_n 1, 1) := by decide +kernel
theorem dX7_isConsistent_3 : decode cX7_isConsistent 3 = .ok (.iconst 3, 1) := by decide +kernel
theorem dX7_isConsistent_4 : decode cX7_isConsistent 4 = .ok (.if_icmp .ge 22, 3) := by decide +kernel
theorem dX7_isConsistent_7 : decode cX7_isConsistent 7 = .ok (.aload_n 0, 1) := by decide +kernel
theorem dX7_isConsistent_8 : decode cX7_isConsistent 8 = .ok (.getfield 10, 3) := by decide +kernel
theorem dX7_isConsistent_11 : decode cX7_isConsistent 11 = .ok (.iload_n 1, 1) := by decide +kernel
theorem dX7_isConsistent_12 : decode cX7_isConsistent 12 = .ok (.invokevirtual 227, 3) := by decide +kernel
theorem dX7_isConsistent_15 : decode cX7_isConsistent 15 = .ok (.ifCond .ne 5, 3) := by decide +kernel
theorem dX7_isConsistent_18 : decode cX7_isConsistent 18 = .ok (.iconst 0, 1) := by decide +kernel
theorem dX7_isConsistent_19 : decode cX7_isConsistent 19 = .ok (.ireturn, 1) := by decide +kernel
theorem dX7_isConsistent_20 : decode cX7_isConsistent 20 = .ok (.iinc 1 1, 3) := by decide +kernel
theorem dX7_isConsistent_23 : decode cX7_isConsistent 23 = .ok (.goto (-21), 3) := by decide +kernel
theorem dX7_isConsistent_26 : decode cX7_isConsistent 26 = .ok (.iconst 0, 1) := by decide +kernel
theorem dX7_isConsistent_27 : decode cX7_isConsistent 27 = .ok (.istore_n 1, 1) := by decide +kernel
theorem dX7_isConsistent_28 : decode cX7_isConsistent 28 = .ok (.iload_n 1, 1) := by decide +kernel
theorem dX7_isConsistent_29 : decode cX7_isConsistent 29 = .ok (.iconst 4, 1) := by decide +kernel
theorem dX7_isConsistent_30 : decode cX7_isConsistent 30 = .ok (.if_icmp .ge 30, 3) := by decide +kernel
theorem dX7_isConsistent_33 : decode cX7_isConsistent 33 = .ok (.aload_n 0, 1) := by decide +kernel
theorem dX7_isConsistent_34 : decode cX7_isConsistent 34 = .ok (.getfield 10, 3) := by decide +kernel
theorem dX7_isConsistent_37 : decode cX7_isConsistent 37 = .ok (.iload_n 1, 1) := by decide +kernel
theorem dX7_isConsistent_38 : decode cX7_isConsistent 38 = .ok (.invokevirtual 216, 3) := by decide +kernel
theorem dX7_isConsistent_41 : decode cX7_isConsistent 41 = .ok (.aload_n 0, 1) := by decide +kernel
theorem dX7_isConsistent_42 : decode cX7_isConsistent 42 = .ok (.getfield 10, 3) := by decide +kernel
theorem dX7_isConsistent_45 : decode cX7_isConsistent 45 = .ok (.iload_n 1, 1) := by decide +kernel
theorem dX7_isConsistent_46 : decode cX7_isConsistent 46 = .ok (.invokevirtual 219, 3) := by decide +kernel
theorem dX7_isConsistent_49 : decode cX7_isConsistent 49 = .ok (.if_icmp .eq 5, 3) := by decide +kernel
theorem dX7_isConsistent_52 : decode cX7_isConsistent 52 = .ok (.iconst 0, 1) := by decide +kernel
theorem dX7_isConsistent_53 : decode cX7_isConsistent 53 = .ok (.ireturn, 1) := by decide +kernel
theorem dX7_isConsistent_54 : decode cX7_isConsistent 54 = .ok (.iinc 1 1, 3) := by decide +kernel
theorem dX7_isConsistent_57 : decode cX7_isConsistent 57 = .ok (.goto (-29), 3) := by decide +kernel
theorem dX7_isConsistent_60 : decode cX7_isConsistent 60 = .ok (.iconst 1, 1) := by decide +kernel
theorem dX7_isConsistent_61 : decode cX7_isConsistent 61 = .ok (.ireturn, 1) := by decide +kernel
theorem dX7_renderFurnace_0 : decode cX7_renderFurnace 0 = .ok (.iload_n 1, 1) := by decide +kernel
theorem dX7_renderFurnace_1 : decode cX7_renderFurnace 1 = .ok (.iconst 3, 1) := by decide +kernel
theorem dX7_renderFurnace_2 : decode cX7_renderFurnace 2 = .ok (.invokestatic 117, 3) := by decide +kernel
theorem dX7_renderFurnace_5 : decode cX7_renderFurnace 5 = .ok (.aload_n 0, 1) := by decide +kernel
theorem dX7_renderFurnace_6 : decode cX7_renderFurnace 6 = .ok (.getfield 10, 3) := by decide +kernel
theorem dX7_renderFurnace_9 : decode cX7_renderFurnace 9 = .ok (.getfield 121, 3) := by decide +kernel
theorem dX7_renderFurnace_12 : decode cX7_renderFurnace 12 = .ok (.iload_n 1, 1) := by decide +kernel
theorem dX7_renderFurnace_13 : decode cX7_renderFurnace 13 = .ok (.aaload, 1) := by decide +kernel
theorem dX7_renderFurnace_14 : decode cX7_renderFurnace 14 = .ok (.astore_n 2, 1) := by decide +kernel
theorem dX7_renderFurnace_15 : decode cX7_renderFurnace 15 = .ok (.aload_n 0, 1) := by decide +kernel
theorem dX7_renderFurnace_16 : decode cX7_renderFurnace 16 = .ok (.getfield 47, 3) := by decide +kernel
theorem dX7_renderFurnace_19 : decode cX7_renderFurnace 19 = .ok (.iconst 0, 1) := by decide +kernel
theorem dX7_renderFurnace_20 : decode cX7_renderFurnace 20 = .ok (.invokevirtual 231, 3) := by decide +kernel
theorem dX7_renderFurnace_23 : decode cX7_renderFurnace 23 = .ok (.iconst 0, 1) := by decide +kernel
theorem dX7_renderFurnace_24 : decode cX7_renderFurnace 24 = .ok (.istore_n 3, 1) := by decide +kernel
theorem dX7_renderFurnace_25 : decode cX7_renderFurnace 25 = .ok (.iload_n 3, 1) := by decide +kernel
theorem dX7_renderFurnace_26 : decode cX7_renderFurnace 26 = .ok (.iconst 4, 1) := by decide +kernel
theorem dX7_renderFurnace_27 : decode cX7_renderFurnace 27 = .ok (.if_icmp .ge 43, 3) := by decide +kernel
theorem dX7_renderFurnace_30 : decode cX7_renderFurnace 30 = .ok (.aload_n 2, 1) := by decide +kernel
theorem dX7_renderFurnace_31 : decode cX7_renderFurnace 31 = .ok (.getfield 125, 3) := by decide +kernel
theorem dX7_renderFurnace_34 : decode cX7_renderFurnace 34 = .ok (.getfield 131, 3) := by decide +kernel
theorem dX7_renderFurnace_37 : decode cX7_renderFurnace 37 = .ok (.iload_n 3, 1) := by decide +kernel
theorem dX7_renderFurnace_38 : decode cX7_renderFurnace 38 = .ok (.iaload, 1) := by decide +kernel
theorem dX7_renderFurnace_39 : decode cX7_renderFurnace 39 = .ok (.istore 4, 2) := by decide +kernel
theorem dX7_renderFurnace_41 : decode cX7_renderFurnace 41 = .ok (.iload 4, 2) := by decide +kernel
theorem dX7_renderFurnace_43 : decode cX7_renderFurnace 43 = .ok (.ifCond .le 21, 3) := by decide +kernel
theorem dX7_renderFurnace_46 : decode cX7_renderFurnace 46 = .ok (.aload_n 0, 1) := by decide +kernel
theorem dX7_renderFurnace_47 : decode cX7_renderFurnace 47 = .ok (.getfield 47, 3) := by decide +kernel
theorem dX7_renderFurnace_50 : decode cX7_renderFurnace 50 = .ok (.getstatic 234, 3) := by decide +kernel
theorem dX7_renderFurnace_53 : decode cX7_renderFurnace 53 = .ok (.iload_n 3, 1) := by decide +kernel
theorem dX7_renderFurnace_54 : decode cX7_renderFurnace 54 = .ok (.caload, 1) := by decide +kernel
theorem dX7_renderFurnace_55 : decode cX7_renderFurnace 55 = .ok (.invokevirtual 238, 3) := by decide +kernel
theorem dX7_renderFurnace_58 : decode cX7_renderFurnace 58 = .ok (.iload 4, 2) := by decide +kernel
theorem dX7_renderFurnace_60 : decode cX7_renderFurnace 60 = .ok (.invokevirtual 242, 3) := by decide +kernel
theorem dX7_renderFurnace_63 : decode cX7_renderFurnace 63 = .ok (.pop, 1) := by decide +kernel
theorem dX7_renderFurnace_64 : decode cX7_renderFurnace 64 = .ok (.iinc 3 1, 3) := by decide +kernel
theorem dX7_renderFurnace_67 : decode cX7_renderFurnace 67 = .ok (.goto (-42), 3) := by decide +kernel
theorem dX7_renderFurnace_70 : decode cX7_renderFurnace 70 = .ok (.aload_n 0, 1) := by decide +kernel
theorem dX7_renderFurnace_71 : decode cX7_renderFurnace 71 = .ok (.getfield 47, 3) := by decide +kernel
theorem dX7_renderFurnace_74 : decode cX7_renderFurnace 74 = .ok (.bipush 64, 2) := by decide +kernel
theorem dX7_renderFurnace_76 : decode cX7_renderFurnace 76 = .ok (.invokevirtual 238, 3) := by decide +kernel
theorem dX7_renderFurnace_79 : decode cX7_renderFurnace 79 = .ok (.aload_n 2, 1) := by decide +kernel
theorem dX7_renderFurnace_80 : decode cX7_renderFurnace 80 = .ok (.getfield 145, 3) := by decide +kernel
theorem dX7_renderFurnace_83 : decode cX7_renderFurnace 83 = .ok (.invokevirtual 242, 3) := by decide +kernel
theorem dX7_renderFurnace_86 : decode cX7_renderFurnace 86 = .ok (.pop, 1) := by decide +kernel
theorem dX7_renderFurnace_87 : decode cX7_renderFurnace 87 = .ok (.aload_n 0, 1) := by decide +kernel
theorem dX7_renderFurnace_88 : decode cX7_renderFurnace 88 = .ok (.getfield 47, 3) := by decide +kernel
theorem dX7_renderFurnace_91 : decode cX7_renderFurnace 91 = .ok (.invokevirtual 245, 3) := by decide +kernel
theorem dX7_renderFurnace_94 : decode cX7_renderFurnace 94 = .ok (.ireturn, 1) := by decide +kernel
theorem dX7_renderGrades_0 : decode cX7_renderGrades 0 = .ok (.aload_n 0, 1) := by decide +kernel
theorem dX7_renderGrades_1 : decode cX7_renderGrades 1 = .ok (.getfield 47, 3) := by decide +kernel
theorem dX7_renderGrades_4 : decode cX7_renderGrades 4 = .ok (.iconst 0, 1) := by decide +kernel
theorem dX7_renderGrades_5 : decode cX7_renderGrades 5 = .ok (.invokevirtual 231, 3) := by decide +kernel
theorem dX7_renderGrades_8 : decode cX7_renderGrades 8 = .ok (.iconst 0, 1) := by decide +kernel
theorem dX7_renderGrades_9 : decode cX7_renderGrades 9 = .ok (.istore_n 1, 1) := by decide +kernel
theorem dX7_renderGrades_10 : decode cX7_renderGrades 10 = .ok (.iload_n 1, 1) := by decide +kernel
theorem dX7_renderGrades_11 : decode cX7_renderGrades 11 = .ok (.aload_n 0, 1) := by decide +kernel
theorem dX7_renderGrades_12 : decode cX7_renderGrades 12 = .ok (.getfield 10, 3) := by decide +kernel
theorem dX7_renderGrades_15 : decode cX7_renderGrades 15 = .ok (.getfield 191, 3) := by decide +kernel
theorem dX7_renderGrades_18 : decode cX7_renderGrades 18 = .ok (.if_icmp .ge 29, 3) := by decide +kernel
theorem dX7_renderGrades_21 : decode cX7_renderGrades 21 = .ok (.aload_n 0, 1) := by decide +kernel
theorem dX7_renderGrades_22 : decode cX7_renderGrades 22 = .ok (.getfield 47, 3) := by decide +kernel
theorem dX7_renderGrades_25 : decode cX7_renderGrades 25 = .ok (.aload_n 0, 1) := by decide +kernel
theorem dX7_renderGrades_26 : decode cX7_renderGrades 26 = .ok (.getfield 10, 3) := by decide +kernel
theorem dX7_renderGrades_29 : decode cX7_renderGrades 29 = .ok (.getfield 194, 3) := by decide +kernel
theorem dX7_renderGrades_32 : decode cX7_renderGrades 32 = .ok (.iload_n 1, 1) := by decide +kernel
theorem dX7_renderGrades_33 : decode cX7_renderGrades 33 = .ok (.aaload, 1) := by decide +kernel
theorem dX7_renderGrades_34 : decode cX7_renderGrades 34 = .ok (.invokevirtual 200, 3) := by decide +kernel
theorem dX7_renderGrades_37 : decode cX7_renderGrades 37 = .ok (.invokevirtual 238, 3) := by decide +kernel
theorem dX7_renderGrades_40 : decode cX7_renderGrades 40 = .ok (.pop, 1) := by decide +kernel
theorem dX7_renderGrades_41 : decode cX7_renderGrades 41 = .ok (.iinc 1 1, 3) := by decide +kernel
theorem dX7_renderGrades_44 : decode cX7_renderGrades 44 = .ok (.goto (-34), 3) := by decide +kernel
theorem dX7_renderGrades_47 : decode cX7_renderGrades 47 = .ok (.aload_n 0, 1) := by decide +kernel
theorem dX7_renderGrades_48 : decode cX7_renderGrades 48 = .ok (.getfield 47, 3) := by decide +kernel
theorem dX7_renderGrades_51 : decode cX7_renderGrades 51 = .ok (.invokevirtual 245, 3) := by decide +kernel
theorem dX7_renderGrades_54 : decode cX7_renderGrades 54 = .ok (.ireturn, 1) := by decide +kernel
theorem dX7_outputAt_0 : decode cX7_outputAt 0 = .ok (.iload_n 1, 1) := by decide +kernel
theorem dX7_outputAt_1 : decode cX7_outputAt 1 = .ok (.aload_n 0, 1) := by decide +kernel
theorem dX7_outputAt_2 : decode cX7_outputAt 2 = .ok (.getfield 47, 3) := by decide +kernel
theorem dX7_outputAt_5 : decode cX7_outputAt 5 = .ok (.invokevirtual 245, 3) := by decide +kernel
theorem dX7_outputAt_8 : decode cX7_outputAt 8 = .ok (.invokestatic 117, 3) := by decide +kernel
theorem dX7_outputAt_11 : decode cX7_outputAt 11 = .ok (.aload_n 0, 1) := by decide +kernel
theorem dX7_outputAt_12 : decode cX7_outputAt 12 = .ok (.getfield 47, 3) := by decide +kernel
theorem dX7_outputAt_15 : decode cX7_outputAt 15 = .ok (.iload_n 1, 1) := by decide +kernel
theorem dX7_outputAt_16 : decode cX7_outputAt 16 = .ok (.invokevirtual 248, 3) := by decide +kernel
theorem dX7_outputAt_19 : decode cX7_outputAt 19 = .ok (.ireturn, 1) := by decide +kernel
theorem dX7_type_0 : decode cX7_type 0 = .ok (.iload_n 1, 1) := by decide +kernel
theorem dX7_type_1 : decode cX7_type 1 = .ok (.bipush 32, 2) := by decide +kernel
theorem dX7_type_3 : decode cX7_type 3 = .ok (.if_icmp .lt 9, 3) := by decide +kernel
theorem dX7_type_6 : decode cX7_type 6 = .ok (.iload_n 1, 1) := by decide +kernel
theorem dX7_type_7 : decode cX7_type 7 = .ok (.bipush 126, 2) := by decide +kernel
theorem dX7_type_9 : decode cX7_type 9 = .ok (.if_icmp .le 11, 3) := by decide +kernel
theorem dX7_type_12 : decode cX7_type 12 = .ok (.new 105, 3) := by decide +kernel
theorem dX7_type_15 : decode cX7_type 15 = .ok (.dup, 1) := by decide +kernel
theorem dX7_type_16 : decode cX7_type 16 = .ok (.invokespecial 107, 3) := by decide +kernel
theorem dX7_type_19 : decode cX7_type 19 = .ok (.athrow, 1) := by decide +kernel
theorem dX7_type_20 : decode cX7_type 20 = .ok (.aload_n 0, 1) := by decide +kernel
theorem dX7_type_21 : decode cX7_type 21 = .ok (.getfield 33, 3) := by decide +kernel
theorem dX7_type_24 : decode cX7_type 24 = .ok (.iload_n 1, 1) := by decide +kernel
theorem dX7_type_25 : decode cX7_type 25 = .ok (.invokevirtual 252, 3) := by decide +kernel
theorem dX7_type_28 : decode cX7_type 28 = .ok (.ifCond .ne 11, 3) := by decide +kernel
theorem dX7_type_31 : decode cX7_type 31 = .ok (.new 111, 3) := by decide +kernel
theorem dX7_type_34 : decode cX7_type 34 = .ok (.dup, 1) := by decide +kernel
theorem dX7_type_35 : decode cX7_type 35 = .ok (.invokespecial 113, 3) := by decide +kernel
theorem dX7_type_38 : decode cX7_type 38 = .ok (.athrow, 1) := by decide +kernel
theorem dX7_type_39 : decode cX7_type 39 = .ok (.aload_n 0, 1) := by decide +kernel
theorem dX7_type_40 : decode cX7_type 40 = .ok (.getfield 33, 3) := by decide +kernel
theorem dX7_type_43 : decode cX7_type 43 = .ok (.getfield 255, 3) := by decide +kernel
theorem dX7_type_46 : decode cX7_type 46 = .ok (.ireturn, 1) := by decide +kernel
theorem dX7_runScript_0 : decode cX7_runScript 0 = .ok (.aload_n 0, 1) := by decide +kernel
theorem dX7_runScript_1 : decode cX7_runScript 1 = .ok (.getfield 33, 3) := by decide +kernel
theorem dX7_runScript_4 : decode cX7_runScript 4 = .ok (.invokevirtual 257, 3) := by decide +kernel
theorem dX7_runScript_7 : decode cX7_runScript 7 = .ok (.istore_n 1, 1) := by decide +kernel
theorem dX7_runScript_8 : decode cX7_runScript 8 = .ok (.aload_n 0, 1) := by decide +kernel
theorem dX7_runScript_9 : decode cX7_runScript 9 = .ok (.getfield 33, 3) := by decide +kernel
theorem dX7_runScript_12 : decode cX7_runScript 12 = .ok (.invokevirtual 260, 3) := by decide +kernel
theorem dX7_runScript_15 : decode cX7_runScript 15 = .ok (.iload_n 1, 1) := by decide +kernel
theorem dX7_runScript_16 : decode cX7_runScript 16 = .ok (.iconst (-1), 1) := by decide +kernel
theorem dX7_runScript_17 : decode cX7_runScript 17 = .ok (.if_icmp .eq 16, 3) := by decide +kernel
theorem dX7_runScript_20 : decode cX7_runScript 20 = .ok (.aload_n 0, 1) := by decide +kernel
theorem dX7_runScript_21 : decode cX7_runScript 21 = .ok (.iload_n 1, 1) := by decide +kernel
theorem dX7_runScript_22 : decode cX7_runScript 22 = .ok (.putfield 37, 3) := by decide +kernel
theorem dX7_runScript_25 : decode cX7_runScript 25 = .ok (.new 105, 3) := by decide +kernel
theorem dX7_runScript_28 : decode cX7_runScript 28 = .ok (.dup, 1) := by decide +kernel
theorem dX7_runScript_29 : decode cX7_runScript 29 = .ok (.invokespecial 107, 3) := by decide +kernel
theorem dX7_runScript_32 : decode cX7_runScript 32 = .ok (.athrow, 1) := by decide +kernel
theorem dX7_runScript_33 : decode cX7_runScript 33 = .ok (.aload_n 0, 1) := by decide +kernel
theorem dX7_runScript_34 : decode cX7_runScript 34 = .ok (.invokevirtual 263, 3) := by decide +kernel
theorem dX7_runScript_37 : decode cX7_runScript 37 = .ok (.istore_n 2, 1) := by decide +kernel
theorem dX7_runScript_38 : decode cX7_runScript 38 = .ok (.iload_n 2, 1) := by decide +kernel
theorem dX7_runScript_39 : decode cX7_runScript 39 = .ok (.iconst (-1), 1) := by decide +kernel
theorem dX7_runScript_40 : decode cX7_runScript 40 = .ok (.if_icmp .eq 16, 3) := by decide +kernel
theorem dX7_runScript_43 : decode cX7_runScript 43 = .ok (.aload_n 0, 1) := by decide +kernel
theorem dX7_runScript_44 : decode cX7_runScript 44 = .ok (.iload_n 2, 1) := by decide +kernel
theorem dX7_runScript_45 : decode cX7_runScript 45 = .ok (.putfield 41, 3) := by decide +kernel
theorem dX7_runScript_48 : decode cX7_runScript 48 = .ok (.new 111, 3) := by decide +kernel
theorem dX7_runScript_51 : decode cX7_runScript 51 = .ok (.dup, 1) := by decide +kernel
theorem dX7_runScript_52 : decode cX7_runScript 52 = .ok (.invokespecial 113, 3) := by decide +kernel
theorem dX7_runScript_55 : decode cX7_runScript 55 = .ok (.athrow, 1) := by decide +kernel
theorem dX7_runScript_56 : decode cX7_runScript 56 = .ok (.aload_n 0, 1) := by decide +kernel
theorem dX7_runScript_57 : decode cX7_runScript 57 = .ok (.getfield 33, 3) := by decide +kernel
theorem dX7_runScript_60 : decode cX7_runScript 60 = .ok (.getfield 266, 3) := by decide +kernel
theorem dX7_runScript_63 : decode cX7_runScript 63 = .ok (.ireturn, 1) := by decide +kernel
theorem dX7_performScript_0 : decode cX7_performScript 0 = .ok (.aload_n 0, 1) := by decide +kernel
theorem dX7_performScript_1 : decode cX7_performScript 1 = .ok (.getfield 19, 3) := by decide +kernel
theorem dX7_performScript_4 : decode cX7_performScript 4 = .ok (.aload_n 0, 1) := by decide +kernel
theorem dX7_performScript_5 : decode cX7_performScript 5 = .ok (.getfield 10, 3) := by decide +kernel
theorem dX7_performScript_8 : decode cX7_performScript 8 = .ok (.invokevirtual 88, 3) := by decide +kernel
theorem dX7_performScript_11 : decode cX7_performScript 11 = .ok (.iconst 0, 1) := by decide +kernel
theorem dX7_performScript_12 : decode cX7_performScript 12 = .ok (.istore_n 1, 1) := by decide +kernel
theorem dX7_performScript_13 : decode cX7_performScript 13 = .ok (.iload_n 1, 1) := by decide +kernel
theorem dX7_performScript_14 : decode cX7_performScript 14 = .ok (.aload_n 0, 1) := by decide +kernel
theorem dX7_performScript_15 : decode cX7_performScript 15 = .ok (.getfield 33, 3) := by decide +kernel
theorem dX7_performScript_18 : decode cX7_performScript 18 = .ok (.getfield 266, 3) := by decide +kernel
theorem dX7_performScript_21 : decode cX7_performScript 21 = .ok (.if_icmp .ge 60, 3) := by decide +kernel
theorem dX7_performScript_24 : decode cX7_performScript 24 = .ok (.aload_n 0, 1) := by decide +kernel
theorem dX7_performScript_25 : decode cX7_performScript 25 = .ok (.getfield 33, 3) := by decide +kernel
theorem dX7_performScript_28 : decode cX7_performScript 28 = .ok (.getfield 269, 3) := by decide +kernel
theorem dX7_performScript_31 : decode cX7_performScript 31 = .ok (.iload_n 1, 1) := by decide +kernel
theorem dX7_performScript_32 : decode cX7_performScript 32 = .ok (.aaload, 1) := by decide +kernel
theorem dX7_performScript_33 : decode cX7_performScript 33 = .ok (.astore_n 2, 1) := by decide +kernel
theorem dX7_performScript_34 : decode cX7_performScript 34 = .ok (.aload_n 0, 1) := by decide +kernel
theorem dX7_performScript_35 : decode cX7_performScript 35 = .ok (.getfield 10, 3) := by decide +kernel
theorem dX7_performScript_38 : decode cX7_performScript 38 = .ok (.aload_n 0, 1) := by decide +kernel
theorem dX7_performScript_39 : decode cX7_performScript 39 = .ok (.getfield 33, 3) := by decide +kernel
theorem dX7_performScript_42 : decode cX7_performScript 42 = .ok (.getfield 273, 3) := by decide +kernel
theorem dX7_performScript_45 : decode cX7_performScript 45 = .ok (.iload_n 1, 1) := by decide +kernel
theorem dX7_performScript_46 : decode cX7_performScript 46 = .ok (.aaload, 1) := by decide +kernel
theorem dX7_performScript_47 : decode cX7_performScript 47 = .ok (.aload_n 2, 1) := by decide +kernel
theorem dX7_performScript_48 : decode cX7_performScript 48 = .ok (.iconst 0, 1) := by decide +kernel
theorem dX7_performScript_49 : decode cX7_performScript 49 = .ok (.iaload, 1) := by decide +kernel
theorem dX7_performScript_50 : decode cX7_performScript 50 = .ok (.aload_n 2, 1) := by decide +kernel
theorem dX7_performScript_51 : decode cX7_performScript 51 = .ok (.iconst 1, 1) := by decide +kernel
theorem dX7_performScript_52 : decode cX7_performScript 52 = .ok (.iaload, 1) := by decide +kernel
theorem dX7_performScript_53 : decode cX7_performScript 53 = .ok (.aload_n 2, 1) := by decide +kernel
theorem dX7_performScript_54 : decode cX7_performScript 54 = .ok (.iconst 2, 1) := by decide +kernel
theorem dX7_performScript_55 : decode cX7_performScript 55 = .ok (.iaload, 1) := by decide +kernel
theorem dX7_performScript_56 : decode cX7_performScript 56 = .ok (.invokevirtual 92, 3) := by decide +kernel
theorem dX7_performScript_59 : decode cX7_performScript 59 = .ok (.ifCond .ge 16, 3) := by decide +kernel
theorem dX7_performScript_62 : decode cX7_performScript 62 = .ok (.aload_n 0, 1) := by decide +kernel
theorem dX7_performScript_63 : decode cX7_performScript 63 = .ok (.getfield 19, 3) := by decide +kernel
theorem dX7_performScript_66 : decode cX7_performScript 66 = .ok (.aload_n 0, 1) := by decide +kernel
theorem dX7_performScript_67 : decode cX7_performScript 67 = .ok (.getfield 10, 3) := by decide +kernel
theorem dX7_performScript_70 : decode cX7_performScript 70 = .ok (.invokevirtual 277, 3) := by decide +kernel
theorem dX7_performScript_73 : decode cX7_performScript 73 = .ok (.iload_n 1, 1) := by decide +kernel
theorem dX7_performScript_74 : decode cX7_performScript 74 = .ok (.ireturn, 1) := by decide +kernel
theorem dX7_performScript_75 : decode cX7_performScript 75 = .ok (.iinc 1 1, 3) := by decide +kernel
theorem dX7_performScript_78 : decode cX7_performScript 78 = .ok (.goto (-65), 3) := by decide +kernel
theorem dX7_performScript_81 : decode cX7_performScript 81 = .ok (.aload_n 0, 1) := by decide +kernel
theorem dX7_performScript_82 : decode cX7_performScript 82 = .ok (.getfield 19, 3) := by decide +kernel
theorem dX7_performScript_85 : decode cX7_performScript 85 = .ok (.invokevirtual 99, 3) := by decide +kernel
theorem dX7_performScript_88 : decode cX7_performScript 88 = .ok (.iconst (-1), 1) := by decide +kernel
theorem dX7_performScript_89 : decode cX7_performScript 89 = .ok (.ireturn, 1) := by decide +kernel
theorem dX7_errorPosition_0 : decode cX7_errorPosition 0 = .ok (.aload_n 0, 1) := by decide +kernel
theorem dX7_errorPosition_1 : decode cX7_errorPosition 1 = .ok (.getfield 37, 3) := by decide +kernel
theorem dX7_errorPosition_4 : decode cX7_errorPosition 4 = .ok (.iconst (-1), 1) := by decide +kernel
theorem dX7_errorPosition_5 : decode cX7_errorPosition 5 = .ok (.if_icmp .ne 11, 3) := by decide +kernel
theorem dX7_errorPosition_8 : decode cX7_errorPosition 8 = .ok (.new 108, 3) := by decide +kernel
theorem dX7_errorPosition_11 : decode cX7_errorPosition 11 = .ok (.dup, 1) := by decide +kernel
theorem dX7_errorPosition_12 : decode cX7_errorPosition 12 = .ok (.invokespecial 110, 3) := by decide +kernel
theorem dX7_errorPosition_15 : decode cX7_errorPosition 15 = .ok (.athrow, 1) := by decide +kernel
theorem dX7_errorPosition_16 : decode cX7_errorPosition 16 = .ok (.aload_n 0, 1) := by decide +kernel
theorem dX7_errorPosition_17 : decode cX7_errorPosition 17 = .ok (.getfield 37, 3) := by decide +kernel
theorem dX7_errorPosition_20 : decode cX7_errorPosition 20 = .ok (.ireturn, 1) := by decide +kernel
theorem dX7_failedCommand_0 : decode cX7_failedCommand 0 = .ok (.aload_n 0, 1) := by decide +kernel
theorem dX7_failedCommand_1 : decode cX7_failedCommand 1 = .ok (.getfield 41, 3) := by decide +kernel
theorem dX7_failedCommand_4 : decode cX7_failedCommand 4 = .ok (.iconst (-1), 1) := by decide +kernel
theorem dX7_failedCommand_5 : decode cX7_failedCommand 5 = .ok (.if_icmp .ne 11, 3) := by decide +kernel
theorem dX7_failedCommand_8 : decode cX7_failedCommand 8 = .ok (.new 108, 3) := by decide +kernel
theorem dX7_failedCommand_11 : decode cX7_failedCommand 11 = .ok (.dup, 1) := by decide +kernel
theorem dX7_failedCommand_12 : decode cX7_failedCommand 12 = .ok (.invokespecial 110, 3) := by decide +kernel
theorem dX7_failedCommand_15 : decode cX7_failedCommand 15 = .ok (.athrow, 1) := by decide +kernel
theorem dX7_failedCommand_16 : decode cX7_failedCommand 16 = .ok (.aload_n 0, 1) := by decide +kernel
theorem dX7_failedCommand_17 : decode cX7_failedCommand 17 = .ok (.getfield 41, 3) := by decide +kernel
theorem dX7_failedCommand_20 : decode cX7_failedCommand 20 = .ok (.ireturn, 1) := by decide +kernel
theorem dX7_undo_0 : decode cX7_undo 0 = .ok (.aload_n 0, 1) := by decide +kernel
theorem dX7_undo_1 : decode cX7_undo 1 = .ok (.getfield 19, 3) := by decide +kernel
theorem dX7_undo_4 : decode cX7_undo 4 = .ok (.aload_n 0, 1) := by decide +kernel
theorem dX7_undo_5 : decode cX7_undo 5 = .ok (.getfield 10, 3) := by decide +kernel
theorem dX7_undo_8 : decode cX7_undo 8 = .ok (.invokevirtual 280, 3) := by decide +kernel
theorem dX7_undo_11 : decode cX7_undo 11 = .ok (.ifCond .ne 11, 3) := by decide +kernel
theorem dX7_undo_14 : decode cX7_undo 14 = .ok (.new 108, 3) := by decide +kernel
theorem dX7_undo_17 : decode cX7_undo 17 = .ok (.dup, 1) := by decide +kernel
theorem dX7_undo_18 : decode cX7_undo 18 = .ok (.invokespecial 110, 3) := by decide +kernel
theorem dX7_undo_21 : decode cX7_undo 21 = .ok (.athrow, 1) := by decide +kernel
theorem dX7_undo_22 : decode cX7_undo 22 = .ok (.aload_n 0, 1) := by decide +kernel
theorem dX7_undo_23 : decode cX7_undo 23 = .ok (.getfield 19, 3) := by decide +kernel
theorem dX7_undo_26 : decode cX7_undo 26 = .ok (.getfield 284, 3) := by decide +kernel
theorem dX7_undo_29 : decode cX7_undo 29 = .ok (.ireturn, 1) := by decide +kernel
theorem dX7_save_0 : decode cX7_save 0 = .ok (.aload_n 0, 1) := by decide +kernel
theorem dX7_save_1 : decode cX7_save 1 = .ok (.getfield 23, 3) := by decide +kernel
theorem dX7_save_4 : decode cX7_save 4 = .ok (.aload_n 0, 1) := by decide +kernel
theorem dX7_save_5 : decode cX7_save 5 = .ok (.getfield 10, 3) := by decide +kernel
theorem dX7_save_8 : decode cX7_save 8 = .ok (.invokevirtual 287, 3) := by decide +kernel
theorem dX7_save_11 : decode cX7_save 11 = .ok (.aload_n 0, 1) := by decide +kernel
theorem dX7_save_12 : decode cX7_save 12 = .ok (.iconst 1, 1) := by decide +kernel
theorem dX7_save_13 : decode cX7_save 13 = .ok (.putfield 26, 3) := by decide +kernel
theorem dX7_save_16 : decode cX7_save 16 = .ok (.aload_n 0, 1) := by decide +kernel
theorem dX7_save_17 : decode cX7_save 17 = .ok (.getfield 10, 3) := by decide +kernel
theorem dX7_save_20 : decode cX7_save 20 = .ok (.getfield 191, 3) := by decide +kernel
theorem dX7_save_23 : decode cX7_save 23 = .ok (.ireturn, 1) := by decide +kernel
theorem dX7_restore_0 : decode cX7_restore 0 = .ok (.aload_n 0, 1) := by decide +kernel
theorem dX7_restore_1 : decode cX7_restore 1 = .ok (.getfield 26, 3) := by decide +kernel
theorem dX7_restore_4 : decode cX7_restore 4 = .ok (.ifCond .ne 11, 3) := by decide +kernel
theorem dX7_restore_7 : decode cX7_restore 7 = .ok (.new 111, 3) := by decide +kernel
theorem dX7_restore_10 : decode cX7_restore 10 = .ok (.dup, 1) := by decide +kernel
theorem dX7_restore_11 : decode cX7_restore 11 = .ok (.invokespecial 113, 3) := by decide +kernel
theorem dX7_restore_14 : decode cX7_restore 14 = .ok (.athrow, 1) := by decide +kernel
theorem dX7_restore_15 : decode cX7_restore 15 = .ok (.aload_n 0, 1) := by decide +kernel
theorem dX7_restore_16 : decode cX7_restore 16 = .ok (.getfield 10, 3) := by decide +kernel
theorem dX7_restore_19 : decode cX7_restore 19 = .ok (.aload_n 0, 1) := by decide +kernel
theorem dX7_restore_20 : decode cX7_restore 20 = .ok (.getfield 23, 3) := by decide +kernel
theorem dX7_restore_23 : decode cX7_restore 23 = .ok (.invokevirtual 287, 3) := by decide +kernel
theorem dX7_restore_26 : decode cX7_restore 26 = .ok (.aload_n 0, 1) := by decide +kernel
theorem dX7_restore_27 : decode cX7_restore 27 = .ok (.getfield 19, 3) := by decide +kernel
theorem dX7_restore_30 : decode cX7_restore 30 = .ok (.invokevirtual 290, 3) := by decide +kernel
theorem dX7_restore_33 : decode cX7_restore 33 = .ok (.aload_n 0, 1) := by decide +kernel
theorem dX7_restore_34 : decode cX7_restore 34 = .ok (.getfield 10, 3) := by decide +kernel
theorem dX7_restore_37 : decode cX7_restore 37 = .ok (.getfield 191, 3) := by decide +kernel
theorem dX7_restore_40 : decode cX7_restore 40 = .ok (.ireturn, 1) := by decide +kernel
theorem dX7_outside_0 : decode cX7_outside 0 = .ok (.iload_n 0, 1) := by decide +kernel
theorem dX7_outside_1 : decode cX7_outside 1 = .ok (.ifCond .lt 8, 3) := by decide +kernel
theorem dX7_outside_4 : decode cX7_outside 4 = .ok (.iload_n 0, 1) := by decide +kernel
theorem dX7_outside_5 : decode cX7_outside 5 = .ok (.iload_n 1, 1) := by decide +kernel
theorem dX7_outside_6 : decode cX7_outside 6 = .ok (.if_icmp .lt 7, 3) := by decide +kernel
theorem dX7_outside_9 : decode cX7_outside 9 = .ok (.iconst 1, 1) := by decide +kernel
theorem dX7_outside_10 : decode cX7_outside 10 = .ok (.goto 4, 3) := by decide +kernel
theorem dX7_outside_13 : decode cX7_outside 13 = .ok (.iconst 0, 1) := by decide +kernel
theorem dX7_outside_14 : decode cX7_outside 14 = .ok (.ireturn, 1) := by decide +kernel
theorem dX7_requireIndex_0 : decode cX7_requireIndex 0 = .ok (.iload_n 0, 1) := by decide +kernel
theorem dX7_requireIndex_1 : decode cX7_requireIndex 1 = .ok (.iload_n 1, 1) := by decide +kernel
theorem dX7_requireIndex_2 : decode cX7_requireIndex 2 = .ok (.invokestatic 293, 3) := by decide +kernel
theorem dX7_requireIndex_5 : decode cX7_requireIndex 5 = .ok (.ifCond .eq 11, 3) := by decide +kernel
theorem dX7_requireIndex_8 : decode cX7_requireIndex 8 = .ok (.new 102, 3) := by decide +kernel
theorem dX7_requireIndex_11 : decode cX7_requireIndex 11 = .ok (.dup, 1) := by decide +kernel
theorem dX7_requireIndex_12 : decode cX7_requireIndex 12 = .ok (.invokespecial 104, 3) := by decide +kernel
theorem dX7_requireIndex_15 : decode cX7_requireIndex 15 = .ok (.athrow, 1) := by decide +kernel
theorem dX7_requireIndex_16 : decode cX7_requireIndex 16 = .ok (.return_, 1) := by decide +kernel
theorem dX7_requireMaterial_0 : decode cX7_requireMaterial 0 = .ok (.iload_n 0, 1) := by decide +kernel
theorem dX7_requireMaterial_1 : decode cX7_requireMaterial 1 = .ok (.invokestatic 297, 3) := by decide +kernel
theorem dX7_requireMaterial_4 : decode cX7_requireMaterial 4 = .ok (.istore_n 1, 1) := by decide +kernel
theorem dX7_requireMaterial_5 : decode cX7_requireMaterial 5 = .ok (.iload_n 1, 1) := by decide +kernel
theorem dX7_requireMaterial_6 : decode cX7_requireMaterial 6 = .ok (.iconst (-1), 1) := by decide +kernel
theorem dX7_requireMaterial_7 : decode cX7_requireMaterial 7 = .ok (.if_icmp .ne 11, 3) := by decide +kernel
theorem dX7_requireMaterial_10 : decode cX7_requireMaterial 10 = .ok (.new 105, 3) := by decide +kernel
theorem dX7_requireMaterial_13 : decode cX7_requireMaterial 13 = .ok (.dup, 1) := by decide +kernel
theorem dX7_requireMaterial_14 : decode cX7_requireMaterial 14 = .ok (.invokespecial 107, 3) := by decide +kernel
theorem dX7_requireMaterial_17 : decode cX7_requireMaterial 17 = .ok (.athrow, 1) := by decide +kernel
theorem dX7_requireMaterial_18 : decode cX7_requireMaterial 18 = .ok (.iload_n 1, 1) := by decide +kernel
theorem dX7_requireMaterial_19 : decode cX7_requireMaterial 19 = .ok (.ireturn, 1) := by decide +kernel
theorem dX7_materialOf_0 : decode cX7_materialOf 0 = .ok (.iconst 0, 1) := by decide +kernel
theorem dX7_materialOf_1 : decode cX7_materialOf 1 = .ok (.istore_n 1, 1) := by decide +kernel
theorem dX7_materialOf_2 : decode cX7_materialOf 2 = .ok (.iload_n 1, 1) := by decide +kernel
theorem dX7_materialOf_3 : decode cX7_materialOf 3 = .ok (.iconst 4, 1) := by decide +kernel
theorem dX7_materialOf_4 : decode cX7_materialOf 4 = .ok (.if_icmp .ge 20, 3) := by decide +kernel
theorem dX7_materialOf_7 : decode cX7_materialOf 7 = .ok (.getstatic 234, 3) := by decide +kernel
theorem dX7_materialOf_10 : decode cX7_materialOf 10 = .ok (.iload_n 1, 1) := by decide +kernel
theorem dX7_materialOf_11 : decode cX7_materialOf 11 = .ok (.caload, 1) := by decide +kernel
theorem dX7_materialOf_12 : decode cX7_materialOf 12 = .ok (.iload_n 0, 1) := by decide +kernel
theorem dX7_materialOf_13 : decode cX7_materialOf 13 = .ok (.if_icmp .ne 5, 3) := by decide +kernel
theorem dX7_materialOf_16 : decode cX7_materialOf 16 = .ok (.iload_n 1, 1) := by decide +kernel
theorem dX7_materialOf_17 : decode cX7_materialOf 17 = .ok (.ireturn, 1) := by decide +kernel
theorem dX7_materialOf_18 : decode cX7_materialOf 18 = .ok (.iinc 1 1, 3) := by decide +kernel
theorem dX7_materialOf_21 : decode cX7_materialOf 21 = .ok (.goto (-19), 3) := by decide +kernel
theorem dX7_materialOf_24 : decode cX7_materialOf 24 = .ok (.iconst (-1), 1) := by decide +kernel
theorem dX7_materialOf_25 : decode cX7_materialOf 25 = .ok (.ireturn, 1) := by decide +kernel
theorem dX7_requireFilledFurnace_0 : decode cX7_requireFilledFurnace 0 = .ok (.iload_n 1, 1) := by decide +kernel
theorem dX7_requireFilledFurnace_1 : decode cX7_requireFilledFurnace 1 = .ok (.iconst 3, 1) := by decide +kernel
theorem dX7_requireFilledFurnace_2 : decode cX7_requireFilledFurnace 2 = .ok (.invokestatic 117, 3) := by decide +kernel
theorem dX7_requireFilledFurnace_5 : decode cX7_requireFilledFurnace 5 = .ok (.aload_n 0, 1) := by decide +kernel
theorem dX7_requireFilledFurnace_6 : decode cX7_requireFilledFurnace 6 = .ok (.getfield 10, 3) := by decide +kernel
theorem dX7_requireFilledFurnace_9 : decode cX7_requireFilledFurnace 9 = .ok (.getfield 121, 3) := by decide +kernel
theorem dX7_requireFilledFurnace_12 : decode cX7_requireFilledFurnace 12 = .ok (.iload_n 1, 1) := by decide +kernel
theorem dX7_requireFilledFurnace_13 : decode cX7_requireFilledFurnace 13 = .ok (.aaload, 1) := by decide +kernel
theorem dX7_requireFilledFurnace_14 : decode cX7_requireFilledFurnace 14 = .ok (.getfield 125, 3) := by decide +kernel
theorem dX7_requireFilledFurnace_17 : decode cX7_requireFilledFurnace 17 = .ok (.astore_n 2, 1) := by decide +kernel
theorem dX7_requireFilledFurnace_18 : decode cX7_requireFilledFurnace 18 = .ok (.aload_n 2, 1) := by decide +kernel
theorem dX7_requireFilledFurnace_19 : decode cX7_requireFilledFurnace 19 = .ok (.invokevirtual 141, 3) := by decide +kernel
theorem dX7_requireFilledFurnace_22 : decode cX7_requireFilledFurnace 22 = .ok (.ifCond .ne 11, 3) := by decide +kernel
theorem dX7_requireFilledFurnace_25 : decode cX7_requireFilledFurnace 25 = .ok (.new 108, 3) := by decide +kernel
theorem dX7_requireFilledFurnace_28 : decode cX7_requireFilledFurnace 28 = .ok (.dup, 1) := by decide +kernel
theorem dX7_requireFilledFurnace_29 : decode cX7_requireFilledFurnace 29 = .ok (.invokespecial 110, 3) := by decide +kernel
theorem dX7_requireFilledFurnace_32 : decode cX7_requireFilledFurnace 32 = .ok (.athrow, 1) := by decide +kernel
theorem dX7_requireFilledFurnace_33 : decode cX7_requireFilledFurnace 33 = .ok (.aload_n 2, 1) := by decide +kernel
theorem dX7_requireFilledFurnace_34 : decode cX7_requireFilledFurnace 34 = .ok (.areturn, 1) := by decide +kernel
theorem dX7_requireMeltingFurnace_0 : decode cX7_requireMeltingFurnace 0 = .ok (.iload_n 1, 1) := by decide +kernel
theorem dX7_requireMeltingFurnace_1 : decode cX7_requireMeltingFurnace 1 = .ok (.iconst 3, 1) := by decide +kernel
theorem dX7_requireMeltingFurnace_2 : decode cX7_requireMeltingFurnace 2 = .ok (.invokestatic 117, 3) := by decide +kernel
theorem dX7_requireMeltingFurnace_5 : decode cX7_requireMeltingFurnace 5 = .ok (.aload_n 0, 1) := by decide +kernel
theorem dX7_requireMeltingFurnace_6 : decode cX7_requireMeltingFurnace 6 = .ok (.getfield 10, 3) := by decide +kernel
theorem dX7_requireMeltingFurnace_9 : decode cX7_requireMeltingFurnace 9 = .ok (.iload_n 1, 1) := by decide +kernel
theorem dX7_requireMeltingFurnace_10 : decode cX7_requireMeltingFurnace 10 = .ok (.invokevirtual 300, 3) := by decide +kernel
theorem dX7_requireMeltingFurnace_13 : decode cX7_requireMeltingFurnace 13 = .ok (.ifCond .ne 11, 3) := by decide +kernel
theorem dX7_requireMeltingFurnace_16 : decode cX7_requireMeltingFurnace 16 = .ok (.new 108, 3) := by decide +kernel
theorem dX7_requireMeltingFurnace_19 : decode cX7_requireMeltingFurnace 19 = .ok (.dup, 1) := by decide +kernel
theorem dX7_requireMeltingFurnace_20 : decode cX7_requireMeltingFurnace 20 = .ok (.invokespecial 110, 3) := by decide +kernel
theorem dX7_requireMeltingFurnace_23 : decode cX7_requireMeltingFurnace 23 = .ok (.athrow, 1) := by decide +kernel
theorem dX7_requireMeltingFurnace_24 : decode cX7_requireMeltingFurnace 24 = .ok (.return_, 1) := by decide +kernel
theorem dX7_withinLimits_0 : decode cX7_withinLimits 0 = .ok (.iload_n 0, 1) := by decide +kernel
theorem dX7_withinLimits_1 : decode cX7_withinLimits 1 = .ok (.bipush 20, 2) := by decide +kernel
theorem dX7_withinLimits_3 : decode cX7_withinLimits 3 = .ok (.if_icmp .ge 6, 3) := by decide +kernel
theorem dX7_withinLimits_6 : decode cX7_withinLimits 6 = .ok (.bipush 20, 2) := by decide +kernel
theorem dX7_withinLimits_8 : decode cX7_withinLimits 8 = .ok (.ireturn, 1) := by decide +kernel
theorem dX7_withinLimits_9 : decode cX7_withinLimits 9 = .ok (.iload_n 0, 1) := by decide +kernel
theorem dX7_withinLimits_10 : decode cX7_withinLimits 10 = .ok (.sipush 1500, 3) := by decide +kernel
theorem dX7_withinLimits_13 : decode cX7_withinLimits 13 = .ok (.if_icmp .le 9, 3) := by decide +kernel
theorem dX7_withinLimits_16 : decode cX7_withinLimits 16 = .ok (.sipush 1500, 3) := by decide +kernel
theorem dX7_withinLimits_19 : decode cX7_withinLimits 19 = .ok (.goto 4, 3) := by decide +kernel
theorem dX7_withinLimits_22 : decode cX7_withinLimits 22 = .ok (.iload_n 0, 1) := by decide +kernel
theorem dX7_withinLimits_23 : decode cX7_withinLimits 23 = .ok (.ireturn, 1) := by decide +kernel
theorem dX8_init_0 : decode cX8_init 0 = .ok (.aload_n 0, 1) := by decide +kernel
theorem dX8_init_1 : decode cX8_init 1 = .ok (.invokespecial 1, 3) := by decide +kernel
theorem dX8_init_4 : decode cX8_init 4 = .ok (.aload_n 0, 1) := by decide +kernel
theorem dX8_init_5 : decode cX8_init 5 = .ok (.iconst (-1), 1) := by decide +kernel
theorem dX8_init_6 : decode cX8_init 6 = .ok (.putfield 7, 3) := by decide +kernel
theorem dX8_init_9 : decode cX8_init 9 = .ok (.aload_n 0, 1) := by decide +kernel
theorem dX8_init_10 : decode cX8_init 10 = .ok (.iconst (-1), 1) := by decide +kernel
theorem dX8_init_11 : decode cX8_init 11 = .ok (.putfield 13, 3) := by decide +kernel
theorem dX8_init_14 : decode cX8_init 14 = .ok (.aload_n 0, 1) := by decide +kernel
theorem dX8_init_15 : decode cX8_init 15 = .ok (.sipush 128, 3) := by decide +kernel
theorem dX8_init_18 : decode cX8_init 18 = .ok (.newarray .int, 2) := by decide +kernel
theorem dX8_init_20 : decode cX8_init 20 = .ok (.putfield 16, 3) := by decide +kernel
theorem dX8_init_23 : decode cX8_init 23 = .ok (.aload_n 0, 1) := by decide +kernel
theorem dX8_init_24 : decode cX8_init 24 = .ok (.sipush 128, 3) := by decide +kernel
theorem dX8_init_27 : decode cX8_init 27 = .ok (.newarray .int, 2) := by decide +kernel
theorem dX8_init_29 : decode cX8_init 29 = .ok (.putfield 20, 3) := by decide +kernel
theorem dX8_init_32 : decode cX8_init 32 = .ok (.aload_n 0, 1) := by decide +kernel
theorem dX8_init_33 : decode cX8_init 33 = .ok (.sipush 128, 3) := by decide +kernel
theorem dX8_init_36 : decode cX8_init 36 = .ok (.newarray .int, 2) := by decide +kernel
theorem dX8_init_38 : decode cX8_init 38 = .ok (.putfield 23, 3) := by decide +kernel
theorem dX8_init_41 : decode cX8_init 41 = .ok (.aload_n 0, 1) := by decide +kernel
theorem dX8_init_42 : decode cX8_init 42 = .ok (.sipush 1024, 3) := by decide +kernel
theorem dX8_init_45 : decode cX8_init 45 = .ok (.newarray .int, 2) := by decide +kernel
theorem dX8_init_47 : decode cX8_init 47 = .ok (.putfield 26, 3) := by decide +kernel
theorem dX8_init_50 : decode cX8_init 50 = .ok (.aload_n 0, 1) := by decide +kernel
theorem dX8_init_51 : decode cX8_init 51 = .ok (.iconst 4, 1) := by decide +kernel
theorem dX8_init_52 : decode cX8_init 52 = .ok (.newarray .int, 2) := by decide +kernel
theorem dX8_init_54 : decode cX8_init 54 = .ok (.putfield 29, 3) := by decide +kernel
theorem dX8_init_57 : decode cX8_init 57 = .ok (.aload_n 0, 1) := by decide +kernel
theorem dX8_init_58 : decode cX8_init 58 = .ok (.iconst 4, 1) := by decide +kernel
theorem dX8_init_59 : decode cX8_init 59 = .ok (.newarray .int, 2) := by decide +kernel
theorem dX8_init_61 : decode cX8_init 61 = .ok (.dup, 1) := by decide +kernel
theorem dX8_init_62 : decode cX8_init 62 = .ok (.iconst 0, 1) := by decide +kernel
theorem dX8_init_63 : decode cX8_init 63 = .ok (.sipush 1085, 3) := by decide +kernel
theorem dX8_init_66 : decode cX8_init 66 = .ok (.iastore, 1) := by decide +kernel
theorem dX8_init_67 : decode cX8_init 67 = .ok (.dup, 1) := by decide +kernel
theorem dX8_init_68 : decode cX8_init 68 = .ok (.iconst 1, 1) := by decide +kernel
theorem dX8_init_69 : decode cX8_init 69 = .ok (.sipush 232, 3) := by decide +kernel
theorem dX8_init_72 : decode cX8_init 72 = .ok (.iastore, 1) := by decide +kernel
theorem dX8_init_73 : decode cX8_init 73 = .ok (.dup, 1) := by decide +kernel
theorem dX8_init_74 : decode cX8_init 74 = .ok (.iconst 2, 1) := by decide +kernel
theorem dX8_init_75 : decode cX8_init 75 = .ok (.sipush 327, 3) := by decide +kernel
theorem dX8_init_78 : decode cX8_init 78 = .ok (.iastore, 1) := by decide +kernel
theorem dX8_init_79 : decode cX8_init 79 = .ok (.dup, 1) := by decide +kernel
theorem dX8_init_80 : decode cX8_init 80 = .ok (.iconst 3, 1) := by decide +kernel
theorem dX8_init_81 : decode cX8_init 81 = .ok (.sipush 1200, 3) := by decide +kernel
theorem dX8_init_84 : decode cX8_init 84 = .ok (.iastore, 1) := by decide +kernel
theorem dX8_init_85 : decode cX8_init 85 = .ok (.putfield 32, 3) := by decide +kernel
theorem dX8_init_88 : decode cX8_init 88 = .ok (.aload_n 0, 1) := by decide +kernel
theorem dX8_init_89 : decode cX8_init 89 = .ok (.bipush 60, 2) := by decide +kernel
theorem dX8_init_91 : decode cX8_init 91 = .ok (.newarray .int, 2) := by decide +kernel
theorem dX8_init_93 : decode cX8_init 93 = .ok (.putfield 35, 3) := by decide +kernel
theorem dX8_init_96 : decode cX8_init 96 = .ok (.aload_n 0, 1) := by decide +kernel
theorem dX8_init_97 : decode cX8_init 97 = .ok (.bipush 40, 2) := by decide +kernel
theorem dX8_init_99 : decode cX8_init 99 = .ok (.newarray .int, 2) := by decide +kernel
theorem dX8_init_101 : decode cX8_init 101 = .ok (.putfield 38, 3) := by decide +kernel
theorem dX8_init_104 : decode cX8_init 104 = .ok (.aload_n 0, 1) := by decide +kernel
theorem dX8_init_105 : decode cX8_init 105 = .ok (.bipush 10, 2) := by decide +kernel
theorem dX8_init_107 : decode cX8_init 107 = .ok (.newarray .int, 2) := by decide +kernel
theorem dX8_init_109 : decode cX8_init 109 = .ok (.putfield 41, 3) := by decide +kernel
theorem dX8_init_112 : decode cX8_init 112 = .ok (.aload_n 0, 1) := by decide +kernel
theorem dX8_init_113 : decode cX8_init 113 = .ok (.bipush 53, 2) := by decide +kernel
theorem dX8_init_115 : decode cX8_init 115 = .ok (.newarray .int, 2) := by decide +kernel
theorem dX8_init_117 : decode cX8_init 117 = .ok (.dup, 1) := by decide +kernel
theorem dX8_init_118 : decode cX8_init 118 = .ok (.iconst 0, 1) := by decide +kernel
theorem dX8_init_119 : decode cX8_init 119 = .ok (.bipush 99, 2) := by decide +kernel
theorem dX8_init_121 : decode cX8_init 121 = .ok (.iastore, 1) := by decide +kernel
theorem dX8_init_122 : decode cX8_init 122 = .ok (.dup, 1) := by decide +kernel
theorem dX8_init_123 : decode cX8_init 123 = .ok (.iconst 1, 1) := by decide +kernel
theorem dX8_init_124 : decode cX8_init 124 = .ok (.bipush 104, 2) := by decide +kernel
theorem dX8_init_126 : decode cX8_init 126 = .ok (.iastore, 1) := by decide +kernel
theorem dX8_init_127 : decode cX8_init 127 = .ok (.dup, 1) := by decide +kernel
theorem dX8_init_128 : decode cX8_init 128 = .ok (.iconst 2, 1) := by decide +kernel
theorem dX8_init_129 : decode cX8_init 129 = .ok (.bipush 97, 2) := by decide +kernel
theorem dX8_init_131 : decode cX8_init 131 = .ok (.iastore, 1) := by decide +kernel
theorem dX8_init_132 : decode cX8_init 132 = .ok (.dup, 1) := by decide +kernel
theorem dX8_init_133 : decode cX8_init 133 = .ok (.iconst 3, 1) := by decide +kernel
theorem dX8_init_134 : decode cX8_init 134 = .ok (.bipush 114, 2) := by decide +kernel
theorem dX8_init_136 : decode cX8_init 136 = .ok (.iastore, 1) := by decide +kernel
theorem dX8_init_137 : decode cX8_init 137 = .ok (.dup, 1) := by decide +kernel
theorem dX8_init_138 : decode cX8_init 138 = .ok (.iconst 4, 1) := by decide +kernel
theorem dX8_init_139 : decode cX8_init 139 = .ok (.bipush 103, 2) := by decide +kernel
theorem dX8_init_141 : decode cX8_init 141 = .ok (.iastore, 1) := by decide +kernel
theorem dX8_init_142 : decode cX8_init 142 = .ok (.dup, 1) := by decide +kernel
theorem dX8_init_143 : decode cX8_init 143 = .ok (.iconst 5, 1) := by decide +kernel
theorem dX8_init_144 : decode cX8_init 144 = .ok (.bipush 101, 2) := by decide +kernel
theorem dX8_init_146 : decode cX8_init 146 = .ok (.iastore, 1) := by decide +kernel
theorem dX8_init_147 : decode cX8_init 147 = .ok (.dup, 1) := by decide +kernel
theorem dX8_init_148 : decode cX8_init 148 = .ok (.bipush 6, 2) := by decide +kernel
theorem dX8_init_150 : decode cX8_init 150 = .ok (.bipush 32, 2) := by decide +kernel
theorem dX8_init_152 : decode cX8_init 152 = .ok (.iastore, 1) := by decide +kernel
theorem dX8_init_153 : decode cX8_init 153 = .ok (.dup, 1) := by decide +kernel
theorem dX8_init_154 : decode cX8_init 154 = .ok (.bipush 7, 2) := by decide +kernel
theorem dX8_init_156 : decode cX8_init 156 = .ok (.bipush 102, 2) := by decide +kernel
theorem dX8_init_158 : decode cX8_init 158 = .ok (.iastore, 1) := by decide +kernel
theorem dX8_init_159 : decode cX8_init 159 = .ok (.dup, 1) := by decide +kernel
theorem dX8_init_160 : decode cX8_init 160 = .ok (.bipush 8, 2) := by decide +kernel
theorem dX8_init_162 : decode cX8_init 162 = .ok (.bipush 105, 2) := by decide +kernel
theorem dX8_init_164 : decode cX8_init 164 = .ok (.iastore, 1) := by decide +kernel
theorem dX8_init_165 : decode cX8_init 165 = .ok (.dup, 1) := by decide +kernel
theorem dX8_init_166 : decode cX8_init 166 = .ok (.bipush 9, 2) := by decide +kernel
theorem dX8_init_168 : decode cX8_init 168 = .ok (.bipush 114, 2) := by decide +kernel
theorem dX8_init_170 : decode cX8_init 170 = .ok (.iastore, 1) := by decide +kernel
theorem dX8_init_171 : decode cX8_init 171 = .ok (.dup, 1) := by decide +kernel
theorem dX8_init_172 : decode cX8_init 172 = .ok (.bipush 10, 2) := by decide +kernel
theorem dX8_init_174 : decode cX8_init 174 = .ok (.bipush 101, 2) := by decide +kernel
theorem dX8_init_176 : decode cX8_init 176 = .ok (.iastore, 1) := by decide +kernel
theorem dX8_init_177 : decode cX8_init 177 = .ok (.dup, 1) := by decide +kernel
theorem dX8_init_178 : decode cX8_init 178 = .ok (.bipush 11, 2) := by decide +kernel
theorem dX8_init_180 : decode cX8_init 180 = .ok (.bipush 32, 2) := by decide +kernel
theorem dX8_init_182 : decode cX8_init 182 = .ok (.iastore, 1) := by decide +kernel
theorem dX8_init_183 : decode cX8_init 183 = .ok (.dup, 1) := by decide +kernel
theorem dX8_init_184 : decode cX8_init 184 = .ok (.bipush 12, 2) := by decide +kernel
theorem dX8_init_186 : decode cX8_init 186 = .ok (.bipush 115, 2) := by decide +kernel
theorem dX8_init_188 : decode cX8_init 188 = .ok (.iastore, 1) := by decide +kernel
theorem dX8_init_189 : decode cX8_init 189 = .ok (.dup, 1) := by decide +kernel
theorem dX8_init_190 : decode cX8_init 190 = .ok (.bipush 13, 2) := by decide +kernel
theorem dX8_init_192 : decode cX8_init 192 = .ok (.bipush 107, 2) := by decide +kernel
theorem dX8_init_194 : decode cX8_init 194 = .ok (.iastore, 1) := by decide +kernel
theorem dX8_init_195 : decode cX8_init 195 = .ok (.dup, 1) := by decide +kernel
theorem dX8_init_196 : decode cX8_init 196 = .ok (.bipush 14, 2) := by decide +kernel
theorem dX8_init_198 : decode cX8_init 198 = .ok (.bipush 105, 2) := by decide +kernel
theorem dX8_init_200 : decode cX8_init 200 = .ok (.iastore, 1) := by decide +kernel
theorem dX8_init_201 : decode cX8_init 201 = .ok (.dup, 1) := by decide +kernel
theorem dX8_init_202 : decode cX8_init 202 = .ok (.bipush 15, 2) := by decide +kernel
theorem dX8_init_204 : decode cX8_init 204 = .ok (.bipush 109, 2) := by decide +kernel
theorem dX8_init_206 : decode cX8_init 206 = .ok (.iastore, 1) := by decide +kernel
theorem dX8_init_207 : decode cX8_init 207 = .ok (.dup, 1) := by decide +kernel
theorem dX8_init_208 : decode cX8_init 208 = .ok (.bipush 16, 2) := by decide +kernel
theorem dX8_init_210 : decode cX8_init 210 = .ok (.bipush 32, 2) := by decide +kernel
theorem dX8_init_212 : decode cX8_init 212 = .ok (.iastore, 1) := by decide +kernel
theorem dX8_init_213 : decode cX8_init 213 = .ok (.dup, 1) := by decide +kernel
theorem dX8_init_214 : decode cX8_init 214 = .ok (.bipush 17, 2) := by decide +kernel
theorem dX8_init_216 : decode cX8_init 216 = .ok (.bipush 116, 2) := by decide +kernel
theorem dX8_init_218 : decode cX8_init 218 = .ok (.iastore, 1) := by decide +kernel
theorem dX8_init_219 : decode cX8_init 219 = .ok (.dup, 1) := by decide +kernel
theorem dX8_init_220 : decode cX8_init 220 = .ok (.bipush 18, 2) := by decide +kernel
theorem dX8_init_222 : decode cX8_init 222 = .ok (.bipush 97, 2) := by decide +kernel
theorem dX8_init_224 : decode cX8_init 224 = .ok (.iastore, 1) := by decide +kernel
theorem dX8_init_225 : decode cX8_init 225 = .ok (.dup, 1) := by decide +kernel
theorem dX8_init_226 : decode cX8_init 226 = .ok (.bipush 19, 2) := by decide +kernel
theorem dX8_init_228 : decode cX8_init 228 = .ok (.bipush 112, 2) := by decide +kernel
theorem dX8_init_230 : decode cX8_init 230 = .ok (.iastore, 1) := by decide +kernel
theorem dX8_init_231 : decode cX8_init 231 = .ok (.dup, 1) := by decide +kernel
theorem dX8_init_232 : decode cX8_init 232 = .ok (.bipush 20, 2) := by decide +kernel
theorem dX8_init_234 : decode cX8_init 234 = .ok (.bipush 32, 2) := by decide +kernel
theorem dX8_init_236 : decode cX8_init 236 = .ok (.iastore, 1) := by decide +kernel
theorem dX8_init_237 : decode cX8_init 237 = .ok (.dup, 1) := by decide +kernel
theorem dX8_init_238 : decode cX8_init 238 = .ok (.bipush 21, 2) := by decide +kernel
theorem dX8_init_240 : decode cX8_init 240 = .ok (.bipush 98, 2) := by decide +kernel
theorem dX8_init_242 : decode cX8_init 242 = .ok (.iastore, 1) := by decide +kernel
theorem dX8_init_243 : decode cX8_init 243 = .ok (.dup, 1) := by decide +kernel
theorem dX8_init_244 : decode cX8_init 244 = .ok (.bipush 22, 2) := by decide +kernel
theorem dX8_init_246 : decode cX8_init 246 = .ok (.bipush 97, 2) := by decide +kernel
theorem dX8_init_248 : decode cX8_init 248 = .ok (.iastore, 1) := by decide +kernel
theorem dX8_init_249 : decode cX8_init 249 = .ok (.dup, 1) := by decide +kernel
theorem dX8_init_250 : decode cX8_init 250 = .ok (.bipush 23, 2) := by decide +kernel
theorem dX8_init_252 : decode cX8_init 252 = .ok (.bipush 99, 2) := by decide +kernel
theorem dX8_init_254 : decode cX8_init 254 = .ok (.iastore, 1) := by decide +kernel
theorem dX8_init_255 : decode cX8_init 255 = .ok (.dup, 1) := by decide +kernel
theorem dX8_init_256 : decode cX8_init 256 = .ok (.bipush 24, 2) := by decide +kernel
theorem dX8_init_258 : decode cX8_init 258 = .ok (.bipush 107, 2) := by decide +kernel
theorem dX8_init_260 : decode cX8_init 260 = .ok (.iastore, 1) := by decide +kernel
theorem dX8_init_261 : decode cX8_init 261 = .ok (.dup, 1) := by decide +kernel
theorem dX8_init_262 : decode cX8_init 262 = .ok (.bipush 25, 2) := by decide +kernel
theorem dX8_init_264 : decode cX8_init 264 = .ok (.bipush 32, 2) := by decide +kernel
theorem dX8_init_266 : decode cX8_init 266 = .ok (.iastore, 1) := by decide +kernel
theorem dX8_init_267 : decode cX8_init 267 = .ok (.dup, 1) := by decide +kernel
theorem dX8_init_268 : decode cX8_init 268 = .ok (.bipush 26, 2) := by decide +kernel
theorem dX8_init_270 : decode cX8_init 270 = .ok (.bipush 109, 2) := by decide +kernel
theorem dX8_init_272 : decode cX8_init 272 = .ok (.iastore, 1) := by decide +kernel
theorem dX8_init_273 : decode cX8_init 273 = .ok (.dup, 1) := by decide +kernel
theorem dX8_init_274 : decode cX8_init 274 = .ok (.bipush 27, 2) := by decide +kernel
theorem dX8_init_276 : decode cX8_init 276 = .ok (.bipush 111, 2) := by decide +kernel
theorem dX8_init_278 : decode cX8_init 278 = .ok (.iastore, 1) := by decide +kernel
theorem dX8_init_279 : decode cX8_init 279 = .ok (.dup, 1) := by decide +kernel
theorem dX8_init_280 : decode cX8_init 280 = .ok (.bipush 28, 2) := by decide +kernel
theorem dX8_init_282 : decode cX8_init 282 = .ok (.bipush 117, 2) := by decide +kernel
theorem dX8_init_284 : decode cX8_init 284 = .ok (.iastore, 1) := by decide +kernel
theorem dX8_init_285 : decode cX8_init 285 = .ok (.dup, 1) := by decide +kernel
theorem dX8_init_286 : decode cX8_init 286 = .ok (.bipush 29, 2) := by decide +kernel
theorem dX8_init_288 : decode cX8_init 288 = .ok (.bipush 108, 2) := by decide +kernel
theorem dX8_init_290 : decode cX8_init 290 = .ok (.iastore, 1) := by decide +kernel
theorem dX8_init_291 : decode cX8_init 291 = .ok (.dup, 1) := by decide +kernel
theorem dX8_init_292 : decode cX8_init 292 = .ok (.bipush 30, 2) := by decide +kernel
theorem dX8_init_294 : decode cX8_init 294 = .ok (.bipush 100, 2) := by decide +kernel
theorem dX8_init_296 : decode cX8_init 296 = .ok (.iastore, 1) := by decide +kernel
theorem dX8_init_297 : decode cX8_init 297 = .ok (.dup, 1) := by decide +kernel
theorem dX8_init_298 : decode cX8_init 298 = .ok (.bipush 31, 2) := by decide +kernel
theorem dX8_init_300 : decode cX8_init 300 = .ok (.bipush 32, 2) := by decide +kernel
theorem dX8_init_302 : decode cX8_init 302 = .ok (.iastore, 1) := by decide +kernel
theorem dX8_init_303 : decode cX8_init 303 = .ok (.dup, 1) := by decide +kernel
theorem dX8_init_304 : decode cX8_init 304 = .ok (.bipush 32, 2) := by decide +kernel
theorem dX8_init_306 : decode cX8_init 306 = .ok (.bipush 112, 2) := by decide +kernel
theorem dX8_init_308 : decode cX8_init 308 = .ok (.iastore, 1) := by decide +kernel
theorem dX8_init_309 : decode cX8_init 309 = .ok (.dup, 1) := by decide +kernel
theorem dX8_init_310 : decode cX8_init 310 = .ok (.bipush 33, 2) := by decide +kernel
theorem dX8_init_312 : decode cX8_init 312 = .ok (.bipush 111, 2) := by decide +kernel
theorem dX8_init_314 : decode cX8_init 314 = .ok (.iastore, 1) := by decide +kernel
theorem dX8_init_315 : decode cX8_init 315 = .ok (.dup, 1) := by decide +kernel
theorem dX8_init_316 : decode cX8_init 316 = .ok (.bipush 34, 2) := by decide +kernel
theorem dX8_init_318 : decode cX8_init 318 = .ok (.bipush 117, 2) := by decide +kernel
theorem dX8_init_320 : decode cX8_init 320 = .ok (.iastore, 1) := by decide +kernel
theorem dX8_init_321 : decode cX8_init 321 = .ok (.dup, 1) := by decide +kernel
theorem dX8_init_322 : decode cX8_init 322 = .ok (.bipush 35, 2) := by decide +kernel
theorem dX8_init_324 : decode cX8_init 324 = .ok (.bipush 114, 2) := by decide +kernel
theorem dX8_init_326 : decode cX8_init 326 = .ok (.iastore, 1) := by decide +kernel
theorem dX8_init_327 : decode cX8_init 327 = .ok (.dup, 1) := by decide +kernel
theorem dX8_init_328 : decode cX8_init 328 = .ok (.bipush 36, 2) := by decide +kernel
theorem dX8_init_330 : decode cX8_init 330 = .ok (.bipush 32, 2) := by decide +kernel
theorem dX8_init_332 : decode cX8_init 332 = .ok (.iastore, 1) := by decide +kernel
theorem dX8_init_333 : decode cX8_init 333 = .ok (.dup, 1) := by decide +kernel
theorem dX8_init_334 : decode cX8_init 334 = .ok (.bipush 37, 2) := by decide +kernel
theorem dX8_init_336 : decode cX8_init 336 = .ok (.bipush 98, 2) := by decide +kernel
theorem dX8_init_338 : decode cX8_init 338 = .ok (.iastore, 1) := by decide +kernel
theorem dX8_init_339 : decode cX8_init 339 = .ok (.dup, 1) := by decide +kernel
theorem dX8_init_340 : decode cX8_init 340 = .ok (.bipush 38, 2) := by decide +kernel
theorem dX8_init_342 : decode cX8_init 342 = .ok (.bipush 114, 2) := by decide +kernel
theorem dX8_init_344 : decode cX8_init 344 = .ok (.iastore, 1) := by decide +kernel
theorem dX8_init_345 : decode cX8_init 345 = .ok (.dup, 1) := by decide +kernel
theorem dX8_init_346 : decode cX8_init 346 = .ok (.bipush 39, 2) := by decide +kernel
theorem dX8_init_348 : decode cX8_init 348 = .ok (.bipush 101, 2) := by decide +kernel
theorem dX8_init_350 : decode cX8_init 350 = .ok (.iastore, 1) := by decide +kernel
theorem dX8_init_351 : decode cX8_init 351 = .ok (.dup, 1) := by decide +kernel
theorem dX8_init_352 : decode cX8_init 352 = .ok (.bipush 40, 2) := by decide +kernel
theorem dX8_init_354 : decode cX8_init 354 = .ok (.bipush 97, 2) := by decide +kernel
theorem dX8_init_356 : decode cX8_init 356 = .ok (.iastore, 1) := by decide +kernel
theorem dX8_init_357 : decode cX8_init 357 = .ok (.dup, 1) := by decide +kernel
theorem dX8_init_358 : decode cX8_init 358 = .ok (.bipush 41, 2) := by decide +kernel
theorem dX8_init_360 : decode cX8_init 360 = .ok (.bipush 107, 2) := by decide +kernel
theorem dX8_init_362 : decode cX8_init 362 = .ok (.iastore, 1) := by decide +kernel
theorem dX8_init_363 : decode cX8_init 363 = .ok (.dup, 1) := by decide +kernel
theorem dX8_init_364 : decode cX8_init 364 = .ok (.bipush 42, 2) := by decide +kernel
theorem dX8_init_366 : decode cX8_init 366 = .ok (.bipush 32, 2) := by decide +kernel
theorem dX8_init_368 : decode cX8_init 368 = .ok (.iastore, 1) := by decide +kernel
theorem dX8_init_369 : decode cX8_init 369 = .ok (.dup, 1) := by decide +kernel
theorem dX8_init_370 : decode cX8_init 370 = .ok (.bipush 43, 2) := by decide +kernel
theorem dX8_init_372 : decode cX8_init 372 = .ok (.bipush 109, 2) := by decide +kernel
theorem dX8_init_374 : decode cX8_init 374 = .ok (.iastore, 1) := by decide +kernel
theorem dX8_init_375 : decode cX8_init 375 = .ok (.dup, 1) := by decide +kernel
theorem dX8_init_376 : decode cX8_init 376 = .ok (.bipush 44, 2) := by decide +kernel
theorem dX8_init_378 : decode cX8_init 378 = .ok (.bipush 101, 2) := by decide +kernel
theorem dX8_init_380 : decode cX8_init 380 = .ok (.iastore, 1) := by decide +kernel
theorem dX8_init_381 : decode cX8_init 381 = .ok (.dup, 1) := by decide +kernel
theorem dX8_init_382 : decode cX8_init 382 = .ok (.bipush 45, 2) := by decide +kernel
theorem dX8_init_384 : decode cX8_init 384 = .ok (.bipush 108, 2) := by decide +kernel
theorem dX8_init_386 : decode cX8_init 386 = .ok (.iastore, 1) := by decide +kernel
theorem dX8_init_387 : decode cX8_init 387 = .ok (.dup, 1) := by decide +kernel
theorem dX8_init_388 : decode cX8_init 388 = .ok (.bipush 46, 2) := by decide +kernel
theorem dX8_init_390 : decode cX8_init 390 = .ok (.bipush 116, 2) := by decide +kernel
theorem dX8_init_392 : decode cX8_init 392 = .ok (.iastore, 1) := by decide +kernel
theorem dX8_init_393 : decode cX8_init 393 = .ok (.dup, 1) := by decide +kernel
theorem dX8_init_394 : decode cX8_init 394 = .ok (.bipush 47, 2) := by decide +kernel
theorem dX8_init_396 : decode cX8_init 396 = .ok (.bipush 32, 2) := by decide +kernel
theorem dX8_init_398 : decode cX8_init 398 = .ok (.iastore, 1) := by decide +kernel
theorem dX8_init_399 : decode cX8_init 399 = .ok (.dup, 1) := by decide +kernel
theorem dX8_init_400 : decode cX8_init 400 = .ok (.bipush 48, 2) := by decide +kernel
theorem dX8_init_402 : decode cX8_init 402 = .ok (.bipush 119, 2) := by decide +kernel
theorem dX8_init_404 : decode cX8_init 404 = .ok (.iastore, 1) := by decide +kernel
theorem dX8_init_405 : decode cX8_init 405 = .ok (.dup, 1) := by decide +kernel
theorem dX8_init_406 : decode cX8_init 406 = .ok (.bipush 49, 2) := by decide +kernel
theorem dX8_init_408 : decode cX8_init 408 = .ok (.bipush 97, 2) := by decide +kernel
theorem dX8_init_410 : decode cX8_init 410 = .ok (.iastore, 1) := by decide +kernel
theorem dX8_init_411 : decode cX8_init 411 = .ok (.dup, 1) := by decide +kernel
theorem dX8_init_412 : decode cX8_init 412 = .ok (.bipush 50, 2) := by decide +kernel
theorem dX8_init_414 : decode cX8_init 414 = .ok (.bipush 105, 2) := by decide +kernel
theorem dX8_init_416 : decode cX8_init 416 = .ok (.iastore, 1) := by decide +kernel
theorem dX8_init_417 : decode cX8_init 417 = .ok (.dup, 1) := by decide +kernel
theorem dX8_init_418 : decode cX8_init 418 = .ok (.bipush 51, 2) := by decide +kernel
theorem dX8_init_420 : decode cX8_init 420 = .ok (.bipush 116, 2) := by decide +kernel
theorem dX8_init_422 : decode cX8_init 422 = .ok (.iastore, 1) := by decide +kernel
theorem dX8_init_423 : decode cX8_init 423 = .ok (.dup, 1) := by decide +kernel
theorem dX8_init_424 : decode cX8_init 424 = .ok (.bipush 52, 2) := by decide +kernel
theorem dX8_init_426 : decode cX8_init 426 = .ok (.bipush 32, 2) := by decide +kernel
theorem dX8_init_428 : decode cX8_init 428 = .ok (.iastore, 1) := by decide +kernel
theorem dX8_init_429 : decode cX8_init 429 = .ok (.putfield 44, 3) := by decide +kernel
theorem dX8_init_432 : decode cX8_init 432 = .ok (.aload_n 0, 1) := by decide +kernel
theorem dX8_init_433 : decode cX8_init 433 = .ok (.bipush 11, 2) := by decide +kernel
theorem dX8_init_435 : decode cX8_init 435 = .ok (.newarray .int, 2) := by decide +kernel
theorem dX8_init_437 : decode cX8_init 437 = .ok (.dup, 1) := by decide +kernel
theorem dX8_init_438 : decode cX8_init 438 = .ok (.iconst 0, 1) := by decide +kernel
theorem dX8_init_439 : decode cX8_init 439 = .ok (.iconst 0, 1) := by decide +kernel
theorem dX8_init_440 : decode cX8_init 440 = .ok (.iastore, 1) := by decide +kernel
theorem dX8_init_441 : decode cX8_init 441 = .ok (.dup, 1) := by decide +kernel
theorem dX8_init_442 : decode cX8_init 442 = .ok (.iconst 1, 1) := by decide +kernel
theorem dX8_init_443 : decode cX8_init 443 = .ok (.bipush 7, 2) := by decide +kernel
theorem dX8_init_445 : decode cX8_init 445 = .ok (.iastore, 1) := by decide +kernel
theorem dX8_init_446 : decode cX8_init 446 = .ok (.dup, 1) := by decide +kernel
theorem dX8_init_447 : decode cX8_init 447 = .ok (.iconst 2, 1) := by decide +kernel
theorem dX8_init_448 : decode cX8_init 448 = .ok (.bipush 12, 2) := by decide +kernel
theorem dX8_init_450 : decode cX8_init 450 = .ok (.iastore, 1) := by decide +kernel
theorem dX8_init_451 : decode cX8_init 451 = .ok (.dup, 1) := by decide +kernel
theorem dX8_init_452 : decode cX8_init 452 = .ok (.iconst 3, 1) := by decide +kernel
theorem dX8_init_453 : decode cX8_init 453 = .ok (.bipush 17, 2) := by decide +kernel
theorem dX8_init_455 : decode cX8_init 455 = .ok (.iastore, 1) := by decide +kernel
theorem dX8_init_456 : decode cX8_init 456 = .ok (.dup, 1) := by decide +kernel
theorem dX8_init_457 : decode cX8_init 457 = .ok (.iconst 4, 1) := by decide +kernel
theorem dX8_init_458 : decode cX8_init 458 = .ok (.bipush 21, 2) := by decide +kernel
theorem dX8_init_460 : decode cX8_init 460 = .ok (.iastore, 1) := by decide +kernel
theorem dX8_init_461 : decode cX8_init 461 = .ok (.dup, 1) := by decide +kernel
theorem dX8_init_462 : decode cX8_init 462 = .ok (.iconst 5, 1) := by decide +kernel
theorem dX8_init_463 : decode cX8_init 463 = .ok (.bipush 26, 2) := by decide +kernel
theorem dX8_init_465 : decode cX8_init 465 = .ok (.iastore, 1) := by decide +kernel
theorem dX8_init_466 : decode cX8_init 466 = .ok (.dup, 1) := by decide +kernel
theorem dX8_init_467 : decode cX8_init 467 = .ok (.bipush 6, 2) := by decide +kernel
theorem dX8_init_469 : decode cX8_init 469 = .ok (.bipush 32, 2) := by decide +kernel
theorem dX8_init_471 : decode cX8_init 471 = .ok (.iastore, 1) := by decide +kernel
theorem dX8_init_472 : decode cX8_init 472 = .ok (.dup, 1) := by decide +kernel
theorem dX8_init_473 : decode cX8_init 473 = .ok (.bipush 7, 2) := by decide +kernel
theorem dX8_init_475 : decode cX8_init 475 = .ok (.bipush 37, 2) := by decide +kernel
theorem dX8_init_477 : decode cX8_init 477 = .ok (.iastore, 1) := by decide +kernel
theorem dX8_init_478 : decode cX8_init 478 = .ok (.dup, 1) := by decide +kernel
theorem dX8_init_479 : decode cX8_init 479 = .ok (.bipush 8, 2) := by decide +kernel
theorem dX8_init_481 : decode cX8_init 481 = .ok (.bipush 43, 2) := by decide +kernel
theorem dX8_init_483 : decode cX8_init 483 = .ok (.iastore, 1) := by decide +kernel
theorem dX8_init_484 : decode cX8_init 484 = .ok (.dup, 1) := by decide +kernel
theorem dX8_init_485 : decode cX8_init 485 = .ok (.bipush 9, 2) := by decide +kernel
theorem dX8_init_487 : decode cX8_init 487 = .ok (.bipush 48, 2) := by decide +kernel
theorem dX8_init_489 : decode cX8_init 489 = .ok (.iastore, 1) := by decide +kernel
theorem dX8_init_490 : decode cX8_init 490 = .ok (.dup, 1) := by decide +kernel
theorem dX8_init_491 : decode cX8_init 491 = .ok (.bipush 10, 2) := by decide +kernel
theorem dX8_init_493 : decode cX8_init 493 = .ok (.bipush 53, 2) := by decide +kernel
theorem dX8_init_495 : decode cX8_init 495 = .ok (.iastore, 1) := by decide +kernel
theorem dX8_init_496 : decode cX8_init 496 = .ok (.putfield 47, 3) := by decide +kernel
theorem dX8_init_499 : decode cX8_init 499 = .ok (.iconst 0, 1) := by decide +kernel
theorem dX8_init_500 : decode cX8_init 500 = .ok (.istore_n 1, 1) := by decide +kernel
theorem dX8_init_501 : decode cX8_init 501 = .ok (.iload_n 1, 1) := by decide +kernel
theorem dX8_init_502 : decode cX8_init 502 = .ok (.iconst 3, 1) := by decide +kernel
theorem dX8_init_503 : decode cX8_init 503 = .ok (.if_icmp .ge 22, 3) := by decide +kernel
theorem dX8_init_506 : decode cX8_init 506 = .ok (.aload_n 0, 1) := by decide +kernel
theorem dX8_init_507 : decode cX8_init 507 = .ok (.getfield 16, 3) := by decide +kernel
theorem dX8_init_510 : decode cX8_init 510 = .ok (.iload_n 1, 1) := by decide +kernel
theorem dX8_init_511 : decode cX8_init 511 = .ok (.invokestatic 50, 3) := by decide +kernel
theorem dX8_init_514 : decode cX8_init 514 = .ok (.iconst 4, 1) := by decide +kernel
theorem dX8_init_515 : decode cX8_init 515 = .ok (.iadd, 1) := by decide +kernel
theorem dX8_init_516 : decode cX8_init 516 = .ok (.bipush 20, 2) := by decide +kernel
theorem dX8_init_518 : decode cX8_init 518 = .ok (.iastore, 1) := by decide +kernel
theorem dX8_init_519 : decode cX8_init 519 = .ok (.iinc 1 1, 3) := by decide +kernel
theorem dX8_init_522 : decode cX8_init 522 = .ok (.goto (-21), 3) := by decide +kernel
theorem dX8_init_525 : decode cX8_init 525 = .ok (.iconst 0, 1) := by decide +kernel
theorem dX8_init_526 : decode cX8_init 526 = .ok (.istore_n 1, 1) := by decide +kernel
theorem dX8_init_527 : decode cX8_init 527 = .ok (.iload_n 1, 1) := by decide +kernel
theorem dX8_init_528 : decode cX8_init 528 = .ok (.iconst 3, 1) := by decide +kernel
theorem dX8_init_529 : decode cX8_init 529 = .ok (.if_icmp .ge 22, 3) := by decide +kernel
theorem dX8_init_532 : decode cX8_init 532 = .ok (.aload_n 0, 1) := by decide +kernel
theorem dX8_init_533 : decode cX8_init 533 = .ok (.getfield 16, 3) := by decide +kernel
theorem dX8_init_536 : decode cX8_init 536 = .ok (.iload_n 1, 1) := by decide +kernel
theorem dX8_init_537 : decode cX8_init 537 = .ok (.invokestatic 54, 3) := by decide +kernel
theorem dX8_init_540 : decode cX8_init 540 = .ok (.iconst 4, 1) := by decide +kernel
theorem dX8_init_541 : decode cX8_init 541 = .ok (.iadd, 1) := by decide +kernel
theorem dX8_init_542 : decode cX8_init 542 = .ok (.bipush 20, 2) := by decide +kernel
theorem dX8_init_544 : decode cX8_init 544 = .ok (.iastore, 1) := by decide +kernel
theorem dX8_init_545 : decode cX8_init 545 = .ok (.iinc 1 1, 3) := by decide +kernel
theorem dX8_init_548 : decode cX8_init 548 = .ok (.goto (-21), 3) := by decide +kernel
theorem dX8_init_551 : decode cX8_init 551 = .ok (.return_, 1) := by decide +kernel
theorem dX8_thrown_0 : decode cX8_thrown 0 = .ok (.aload_n 0, 1) := by decide +kernel
theorem dX8_thrown_1 : decode cX8_thrown 1 = .ok (.getfield 57, 3) := by decide +kernel
theorem dX8_thrown_4 : decode cX8_thrown 4 = .ok (.ireturn, 1) := by decide +kernel
theorem dX8_fail_0 : decode cX8_fail 0 = .ok (.aload_n 0, 1) := by decide +kernel
theorem dX8_fail_1 : decode cX8_fail 1 = .ok (.iload_n 1, 1) := by decide +kernel
theorem dX8_fail_2 : decode cX8_fail 2 = .ok (.putfield 57, 3) := by decide +kernel
theorem dX8_fail_5 : decode cX8_fail 5 = .ok (.iconst 0, 1) := by decide +kernel
theorem dX8_fail_6 : decode cX8_fail 6 = .ok (.ireturn, 1) := by decide +kernel
theorem dX8_isIn_0 : decode cX8_isIn 0 = .ok (.iload_n 0, 1) := by decide +kernel
theorem dX8_isIn_1 : decode cX8_isIn 1 = .ok (.iload_n 1, 1) := by decide +kernel
theorem dX8_isIn_2 : decode cX8_isIn 2 = .ok (.if_icmp .lt 12, 3) := by decide +kernel
theorem dX8_isIn_5 : decode cX8_isIn 5 = .ok (.iload_n 0, 1) := by decide +kernel
theorem dX8_isIn_6 : decode cX8_isIn 6 = .ok (.iload_n 2, 1) := by decide +kernel
theorem dX8_isIn_7 : decode cX8_isIn 7 = .ok (.if_icmp .gt 7, 3) := by decide +kernel
theorem dX8_isIn_10 : decode cX8_isIn 10 = .ok (.iconst 1, 1) := by decide +kernel
theorem dX8_isIn_11 : decode cX8_isIn 11 = .ok (.goto 4, 3) := by decide +kernel
theorem dX8_isIn_14 : decode cX8_isIn 14 = .ok (.iconst 0, 1) := by decide +kernel
theorem dX8_isIn_15 : decode cX8_isIn 15 = .ok (.ireturn, 1) := by decide +kernel
theorem dX8_lays_0 : decode cX8_lays 0 = .ok (.iconst 0, 1) := by decide +kernel
theorem dX8_lays_1 : decode cX8_lays 1 = .ok (.istore_n 2, 1) := by decide +kernel
theorem dX8_lays_2 : decode cX8_lays 2 = .ok (.iload_n 2, 1) := by decide +kernel
theorem dX8_lays_3 : decode cX8_lays 3 = .ok (.sipush 128, 3) := by decide +kernel
theorem dX8_lays_6 : decode cX8_lays 6 = .ok (.if_icmp .ge 15, 3) := by decide +kernel
theorem dX8_lays_9 : decode cX8_lays 9 = .ok (.aload_n 0, 1) := by decide +kernel
theorem dX8_lays_10 : decode cX8_lays 10 = .ok (.iload_n 2, 1) := by decide +kernel
theorem dX8_lays_11 : decode cX8_lays 11 = .ok (.aload_n 1, 1) := by decide +kernel
theorem dX8_lays_12 : decode cX8_lays 12 = .ok (.iload_n 2, 1) := by decide +kernel
theorem dX8_lays_13 : decode cX8_lays 13 = .ok (.iaload, 1) := by decide +kernel
theorem dX8_lays_14 : decode cX8_lays 14 = .ok (.iastore, 1) := by decide +kernel
theorem dX8_lays_15 : decode cX8_lays 15 = .ok (.iinc 2 1, 3) := by decide +kernel
theorem dX8_lays_18 : decode cX8_lays 18 = .ok (.goto (-16), 3) := by decide +kernel
theorem dX8_lays_21 : decode cX8_lays 21 = .ok (.return_, 1) := by decide +kernel
theorem dX8_begins_0 : decode cX8_begins 0 = .ok (.aload_n 0, 1) := by decide +kernel
theorem dX8_begins_1 : decode cX8_begins 1 = .ok (.iconst 0, 1) := by decide +kernel
theorem dX8_begins_2 : decode cX8_begins 2 = .ok (.putfield 57, 3) := by decide +kernel
theorem dX8_begins_5 : decode cX8_begins 5 = .ok (.aload_n 0, 1) := by decide +kernel
theorem dX8_begins_6 : decode cX8_begins 6 = .ok (.getfield 20, 3) := by decide +kernel
theorem dX8_begins_9 : decode cX8_begins 9 = .ok (.aload_n 0, 1) := by decide +kernel
theorem dX8_begins_10 : decode cX8_begins 10 = .ok (.getfield 16, 3) := by decide +kernel
theorem dX8_begins_13 : decode cX8_begins 13 = .ok (.invokestatic 60, 3) := by decide +kernel
theorem dX8_begins_16 : decode cX8_begins 16 = .ok (.return_, 1) := by decide +kernel
theorem dX8_ends_0 : decode cX8_ends 0 = .ok (.aload_n 0, 1) := by decide +kernel
theorem dX8_ends_1 : decode cX8_ends 1 = .ok (.getfield 57, 3) := by decide +kernel
theorem dX8_ends_4 : decode cX8_ends 4 = .ok (.ifCond .eq 16, 3) := by decide +kernel
theorem dX8_ends_7 : decode cX8_ends 7 = .ok (.aload_n 0, 1) := by decide +kernel
theorem dX8_ends_8 : decode cX8_ends 8 = .ok (.getfield 16, 3) := by decide +kernel
theorem dX8_ends_11 : decode cX8_ends 11 = .ok (.aload_n 0, 1) := by decide +kernel
theorem dX8_ends_12 : decode cX8_ends 12 = .ok (.getfield 20, 3) := by decide +kernel
theorem dX8_ends_15 : decode cX8_ends 15 = .ok (.invokestatic 60, 3) := by decide +kernel
theorem dX8_ends_18 : decode cX8_ends 18 = .ok (.iconst 0, 1) := by decide +kernel
theorem dX8_ends_19 : decode cX8_ends 19 = .ok (.ireturn, 1) := by decide +kernel
theorem dX8_ends_20 : decode cX8_ends 20 = .ok (.aload_n 0, 1) := by decide +kernel
theorem dX8_ends_21 : decode cX8_ends 21 = .ok (.getfield 64, 3) := by decide +kernel
theorem dX8_ends_24 : decode cX8_ends 24 = .ok (.bipush 8, 2) := by decide +kernel
theorem dX8_ends_26 : decode cX8_ends 26 = .ok (.if_icmp .ne 44, 3) := by decide +kernel
theorem dX8_ends_29 : decode cX8_ends 29 = .ok (.iconst 0, 1) := by decide +kernel
theorem dX8_ends_30 : decode cX8_ends 30 = .ok (.istore_n 2, 1) := by decide +kernel
theorem dX8_ends_31 : decode cX8_ends 31 = .ok (.iload_n 2, 1) := by decide +kernel
theorem dX8_ends_32 : decode cX8_ends 32 = .ok (.sipush 896, 3) := by decide +kernel
theorem dX8_ends_35 : decode cX8_ends 35 = .ok (.if_icmp .ge 25, 3) := by decide +kernel
theorem dX8_ends_38 : decode cX8_ends 38 = .ok (.aload_n 0, 1) := by decide +kernel
theorem dX8_ends_39 : decode cX8_ends 39 = .ok (.getfield 26, 3) := by decide +kernel
theorem dX8_ends_42 : decode cX8_ends 42 = .ok (.iload_n 2, 1) := by decide +kernel
theorem dX8_ends_43 : decode cX8_ends 43 = .ok (.aload_n 0, 1) := by decide +kernel
theorem dX8_ends_44 : decode cX8_ends 44 = .ok (.getfield 26, 3) := by decide +kernel
theorem dX8_ends_47 : decode cX8_ends 47 = .ok (.iload_n 2, 1) := by decide +kernel
theorem dX8_ends_48 : decode cX8_ends 48 = .ok (.sipush 128, 3) := by decide +kernel
theorem dX8_ends_51 : decode cX8_ends 51 = .ok (.iadd, 1) := by decide +kernel
theorem dX8_ends_52 : decode cX8_ends 52 = .ok (.iaload, 1) := by decide +kernel
theorem dX8_ends_53 : decode cX8_ends 53 = .ok (.iastore, 1) := by decide +kernel
theorem dX8_ends_54 : decode cX8_ends 54 = .ok (.iinc 2 1, 3) := by decide +kernel
theorem dX8_ends_57 : decode cX8_ends 57 = .ok (.goto (-26), 3) := by decide +kernel
theorem dX8_ends_60 : decode cX8_ends 60 = .ok (.aload_n 0, 1) := by decide +kernel
theorem dX8_ends_61 : decode cX8_ends 61 = .ok (.dup, 1) := by decide +kernel
theorem dX8_ends_62 : decode cX8_ends 62 = .ok (.getfield 64, 3) := by decide +kernel
theorem dX8_ends_65 : decode cX8_ends 65 = .ok (.iconst 1, 1) := by decide +kernel
theorem dX8_ends_66 : decode cX8_ends 66 = .ok (.isub, 1) := by decide +kernel
theorem dX8_ends_67 : decode cX8_ends 67 = .ok (.putfield 64, 3) := by decide +kernel
theorem dX8_ends_70 : decode cX8_ends 70 = .ok (.iconst 0, 1) := by decide +kernel
theorem dX8_ends_71 : decode cX8_ends 71 = .ok (.istore_n 2, 1) := by decide +kernel
theorem dX8_ends_72 : decode cX8_ends 72 = .ok (.iload_n 2, 1) := by decide +kernel
theorem dX8_ends_73 : decode cX8_ends 73 = .ok (.sipush 128, 3) := by decide +kernel
theorem dX8_ends_76 : decode cX8_ends 76 = .ok (.if_icmp .ge 30, 3) := by decide +kernel
theorem dX8_ends_79 : decode cX8_ends 79 = .ok (.aload_n 0, 1) := by decide +kernel
theorem dX8_ends_80 : decode cX8_ends 80 = .ok (.getfield 26, 3) := by decide +kernel
theorem dX8_ends_83 : decode cX8_ends 83 = .ok (.aload_n 0, 1) := by decide +kernel
theorem dX8_ends_84 : decode cX8_ends 84 = .ok (.getfield 64, 3) := by decide +kernel
theorem dX8_ends_87 : decode cX8_ends 87 = .ok (.sipush 128, 3) := by decide +kernel
theorem dX8_ends_90 : decode cX8_ends 90 = .ok (.imul, 1) := by decide +kernel
theorem dX8_ends_91 : decode cX8_ends 91 = .ok (.iload_n 2, 1) := by decide +kernel
theorem dX8_ends_92 : decode cX8_ends 92 = .ok (.iadd, 1) := by decide +kernel
theorem dX8_ends_93 : decode cX8_ends 93 = .ok (.aload_n 0, 1) := by decide +kernel
theorem dX8_ends_94 : decode cX8_ends 94 = .ok (.getfield 20, 3) := by decide +kernel
theorem dX8_ends_97 : decode cX8_ends 97 = .ok (.iload_n 2, 1) := by decide +kernel
theorem dX8_ends_98 : decode cX8_ends 98 = .ok (.iaload, 1) := by decide +kernel
theorem dX8_ends_99 : decode cX8_ends 99 = .ok (.iastore, 1) := by decide +kernel
theorem dX8_ends_100 : decode cX8_ends 100 = .ok (.iinc 2 1, 3) := by decide +kernel
theorem dX8_ends_103 : decode cX8_ends 103 = .ok (.goto (-31), 3) := by decide +kernel
theorem dX8_ends_106 : decode cX8_ends 106 = .ok (.aload_n 0, 1) := by decide +kernel
theorem dX8_ends_107 : decode cX8_ends 107 = .ok (.dup, 1) := by decide +kernel
theorem dX8_ends_108 : decode cX8_ends 108 = .ok (.getfield 64, 3) := by decide +kernel
theorem dX8_ends_111 : decode cX8_ends 111 = .ok (.iconst 1, 1) := by decide +kernel
theorem dX8_ends_112 : decode cX8_ends 112 = .ok (.iadd, 1) := by decide +kernel
theorem dX8_ends_113 : decode cX8_ends 113 = .ok (.putfield 64, 3) := by decide +kernel
theorem dX8_ends_116 : decode cX8_ends 116 = .ok (.iload_n 1, 1) := by decide +kernel
theorem dX8_ends_117 : decode cX8_ends 117 = .ok (.ireturn, 1) := by decide +kernel
theorem dX8_furnace_0 : decode cX8_furnace 0 = .ok (.bipush 9, 2) := by decide +kernel
theorem dX8_furnace_2 : decode cX8_furnace 2 = .ok (.bipush 6, 2) := by decide +kernel
theorem dX8_furnace_4 : decode cX8_furnace 4 = .ok (.iload_n 0, 1) := by decide +kernel
theorem dX8_furnace_5 : decode cX8_furnace 5 = .ok (.imul, 1) := by decide +kernel
theorem dX8_furnace_6 : decode cX8_furnace 6 = .ok (.iadd, 1) := by decide +kernel
theorem dX8_furnace_7 : decode cX8_furnace 7 = .ok (.ireturn, 1) := by decide +kernel
theorem dX8_ladle_0 : decode cX8_ladle 0 = .ok (.bipush 27, 2) := by decide +kernel
theorem dX8_ladle_2 : decode cX8_ladle 2 = .ok (.iconst 5, 1) := by decide +kernel
theorem dX8_ladle_3 : decode cX8_ladle 3 = .ok (.iload_n 0, 1) := by decide +kernel
theorem dX8_ladle_4 : decode cX8_ladle 4 = .ok (.imul, 1) := by decide +kernel
theorem dX8_ladle_5 : decode cX8_ladle 5 = .ok (.iadd, 1) := by decide +kernel
theorem dX8_ladle_6 : decode cX8_ladle 6 = .ok (.ireturn, 1) := by decide +kernel
theorem dX8_mould_0 : decode cX8_mould 0 = .ok (.bipush 44, 2) := by decide +kernel
theorem dX8_mould_2 : decode cX8_mould 2 = .ok (.bipush 6, 2) := by decide +kernel
theorem dX8_mould_4 : decode cX8_mould 4 = .ok (.iload_n 0, 1) := by decide +kernel
theorem dX8_mould_5 : decode cX8_mould 5 = .ok (.imul, 1) := by decide +kernel
theorem dX8_mould_6 : decode cX8_mould 6 = .ok (.iadd, 1) := by decide +kernel
theorem dX8_mould_7 : decode cX8_mould 7 = .ok (.ireturn, 1) := by decide +kernel
theorem dX8_ingot_0 : decode cX8_ingot 0 = .ok (.bipush 80, 2) := by decide +kernel
theorem dX8_ingot_2 : decode cX8_ingot 2 = .ok (.iconst 4, 1) := by decide +kernel
theorem dX8_ingot_3 : decode cX8_ingot 3 = .ok (.iload_n 0, 1) := by decide +kernel
theorem dX8_ingot_4 : decode cX8_ingot 4 = .ok (.imul, 1) := by decide +kernel
theorem dX8_ingot_5 : decode cX8_ingot 5 = .ok (.iadd, 1) := by decide +kernel
theorem dX8_ingot_6 : decode cX8_ingot 6 = .ok (.ireturn, 1) := by decide +kernel
theorem dX8_isThree_0 : decode cX8_isThree 0 = .ok (.iload_n 0, 1) := by decide +kernel
theorem dX8_isThree_1 : decode cX8_isThree 1 = .ok (.iconst 0, 1) := by decide +kernel
theorem dX8_isThree_2 : decode cX8_isThree 2 = .ok (.iconst 2, 1) := by decide +kernel
theorem dX8_isThree_3 : decode cX8_isThree 3 = .ok (.invokestatic 67, 3) := by decide +kernel
theorem dX8_isThree_6 : decode cX8_isThree 6 = .ok (.ireturn, 1) := by decide +kernel
theorem dX8_isMould_0 : decode cX8_isMould 0 = .ok (.iload_n 1, 1) := by decide +kernel
theorem dX8_isMould_1 : decode cX8_isMould 1 = .ok (.iconst 0, 1) := by decide +kernel
theorem dX8_isMould_2 : decode cX8_isMould 2 = .ok (.aload_n 0, 1) := by decide +kernel
theorem dX8_isMould_3 : decode cX8_isMould 3 = .ok (.getfield 16, 3) := by decide +kernel
theorem dX8_isMould_6 : decode cX8_isMould 6 = .ok (.bipush 42, 2) := by decide +kernel
theorem dX8_isMould_8 : decode cX8_isMould 8 = .ok (.iaload, 1) := by decide +kernel
theorem dX8_isMould_9 : decode cX8_isMould 9 = .ok (.iconst 1, 1) := by decide +kernel
theorem dX8_isMould_10 : decode cX8_isMould 10 = .ok (.isub, 1) := by decide +kernel
theorem dX8_isMould_11 : decode cX8_isMould 11 = .ok (.invokestatic 67, 3) := by decide +kernel
theorem dX8_isMould_14 : decode cX8_isMould 14 = .ok (.ireturn, 1) := by decide +kernel
theorem dX8_isIngot_0 : decode cX8_isIngot 0 = .ok (.iload_n 1, 1) := by decide +kernel
theorem dX8_isIngot_1 : decode cX8_isIngot 1 = .ok (.iconst 0, 1) := by decide +kernel
theorem dX8_isIngot_2 : decode cX8_isIngot 2 = .ok (.aload_n 0, 1) := by decide +kernel
theorem dX8_isIngot_3 : decode cX8_isIngot 3 = .ok (.getfield 16, 3) := by decide +kernel
theorem dX8_isIngot_6 : decode cX8_isIngot 6 = .ok (.bipush 43, 2) := by decide +kernel
theorem dX8_isIngot_8 : decode cX8_isIngot 8 = .ok (.iaload, 1) := by decide +kernel
theorem dX8_isIngot_9 : decode cX8_isIngot 9 = .ok (.iconst 1, 1) := by decide +kernel
theorem dX8_isIngot_10 : decode cX8_isIngot 10 = .ok (.isub, 1) := by decide +kernel
theorem dX8_isIngot_11 : decode cX8_isIngot 11 = .ok (.invokestatic 67, 3) := by decide +kernel
theorem dX8_isIngot_14 : decode cX8_isIngot 14 = .ok (.ireturn, 1) := by decide +kernel
theorem dX8_kind_0 : decode cX8_kind 0 = .ok (.iload_n 0, 1) := by decide +kernel
theorem dX8_kind_1 : decode cX8_kind 1 = .ok (.bipush 99, 2) := by decide +kernel
theorem dX8_kind_3 : decode cX8_kind 3 = .ok (.if_icmp .ne 7, 3) := by decide +kernel
theorem dX8_kind_6 : decode cX8_kind 6 = .ok (.iconst 0, 1) := by decide +kernel
theorem dX8_kind_7 : decode cX8_kind 7 = .ok (.goto 34, 3) := by decide +kernel
theorem dX8_kind_10 : decode cX8_kind 10 = .ok (.iload_n 0, 1) := by decide +kernel
theorem dX8_kind_11 : decode cX8_kind 11 = .ok (.bipush 116, 2) := by decide +kernel
theorem dX8_kind_13 : decode cX8_kind 13 = .ok (.if_icmp .ne 7, 3) := by decide +kernel
theorem dX8_kind_16 : decode cX8_kind 16 = .ok (.iconst 1, 1) := by decide +kernel
theorem dX8_kind_17 : decode cX8_kind 17 = .ok (.goto 24, 3) := by decide +kernel
theorem dX8_kind_20 : decode cX8_kind 20 = .ok (.iload_n 0, 1) := by decide +kernel
theorem dX8_kind_21 : decode cX8_kind 21 = .ok (.bipush 108, 2) := by decide +kernel
theorem dX8_kind_23 : decode cX8_kind 23 = .ok (.if_icmp .ne 7, 3) := by decide +kernel
theorem dX8_kind_26 : decode cX8_kind 26 = .ok (.iconst 2, 1) := by decide +kernel
theorem dX8_kind_27 : decode cX8_kind 27 = .ok (.goto 14, 3) := by decide +kernel
theorem dX8_kind_30 : decode cX8_kind 30 = .ok (.iload_n 0, 1) := by decide +kernel
theorem dX8_kind_31 : decode cX8_kind 31 = .ok (.bipush 111, 2) := by decide +kernel
theorem dX8_kind_33 : decode cX8_kind 33 = .ok (.if_icmp .ne 7, 3) := by decide +kernel
theorem dX8_kind_36 : decode cX8_kind 36 = .ok (.iconst 3, 1) := by decide +kernel
theorem dX8_kind_37 : decode cX8_kind 37 = .ok (.goto 4, 3) := by decide +kernel
theorem dX8_kind_40 : decode cX8_kind 40 = .ok (.iconst (-1), 1) := by decide +kernel
theorem dX8_kind_41 : decode cX8_kind 41 = .ok (.ireturn, 1) := by decide +kernel
theorem dX8_mass_0 : decode cX8_mass 0 = .ok (.aload_n 0, 1) := by decide +kernel
theorem dX8_mass_1 : decode cX8_mass 1 = .ok (.getfield 16, 3) := by decide +kernel
theorem dX8_mass_4 : decode cX8_mass 4 = .ok (.iload_n 1, 1) := by decide +kernel
theorem dX8_mass_5 : decode cX8_mass 5 = .ok (.iaload, 1) := by decide +kernel
theorem dX8_mass_6 : decode cX8_mass 6 = .ok (.aload_n 0, 1) := by decide +kernel
theorem dX8_mass_7 : decode cX8_mass 7 = .ok (.getfield 16, 3) := by decide +kernel
theorem dX8_mass_10 : decode cX8_mass 10 = .ok (.iload_n 1, 1) := by decide +kernel
theorem dX8_mass_11 : decode cX8_mass 11 = .ok (.iconst 1, 1) := by decide +kernel
theorem dX8_mass_12 : decode cX8_mass 12 = .ok (.iadd, 1) := by decide +kernel
theorem dX8_mass_13 : decode cX8_mass 13 = .ok (.iaload, 1) := by decide +kernel
theorem dX8_mass_14 : decode cX8_mass 14 = .ok (.iadd, 1) := by decide +kernel
theorem dX8_mass_15 : decode cX8_mass 15 = .ok (.aload_n 0, 1) := by decide +kernel
theorem dX8_mass_16 : decode cX8_mass 16 = .ok (.getfield 16, 3) := by decide +kernel
theorem dX8_mass_19 : decode cX8_mass 19 = .ok (.iload_n 1, 1) := by decide +kernel
theorem dX8_mass_20 : decode cX8_mass 20 = .ok (.iconst 2, 1) := by decide +kernel
theorem dX8_mass_21 : decode cX8_mass 21 = .ok (.iadd, 1) := by decide +kernel
theorem dX8_mass_22 : decode cX8_mass 22 = .ok (.iaload, 1) := by decide +kernel
theorem dX8_mass_23 : decode cX8_mass 23 = .ok (.iadd, 1) := by decide +kernel
theorem dX8_mass_24 : decode cX8_mass 24 = .ok (.aload_n 0, 1) := by decide +kernel
theorem dX8_mass_25 : decode cX8_mass 25 = .ok (.getfield 16, 3) := by decide +kernel
theorem dX8_mass_28 : decode cX8_mass 28 = .ok (.iload_n 1, 1) := by decide +kernel
theorem dX8_mass_29 : decode cX8_mass 29 = .ok (.iconst 3, 1) := by decide +kernel
theorem dX8_mass_30 : decode cX8_mass 30 = .ok (.iadd, 1) := by decide +kernel
theorem dX8_mass_31 : decode cX8_mass 31 = .ok (.iaload, 1) := by decide +kernel
theorem dX8_mass_32 : decode cX8_mass 32 = .ok (.iadd, 1) := by decide +kernel
theorem dX8_mass_33 : decode cX8_mass 33 = .ok (.ireturn, 1) := by decide +kernel
theorem dX8_point_0 : decode cX8_point 0 = .ok (.iconst 0, 1) := by decide +kernel
theorem dX8_point_1 : decode cX8_point 1 = .ok (.istore_n 2, 1) := by decide +kernel
theorem dX8_point_2 : decode cX8_point 2 = .ok (.iconst 0, 1) := by decide +kernel
theorem dX8_point_3 : decode cX8_point 3 = .ok (.istore_n 3, 1) := by decide +kernel
theorem dX8_point_4 : decode cX8_point 4 = .ok (.iload_n 3, 1) := by decide +kernel
theorem dX8_point_5 : decode cX8_point 5 = .ok (.iconst 4, 1) := by decide +kernel
theorem dX8_point_6 : decode cX8_point 6 = .ok (.if_icmp .ge 27, 3) := by decide +kernel
theorem dX8_point_9 : decode cX8_point 9 = .ok (.iload_n 2, 1) := by decide +kernel
theorem dX8_point_10 : decode cX8_point 10 = .ok (.aload_n 0, 1) := by decide +kernel
theorem dX8_point_11 : decode cX8_point 11 = .ok (.getfield 16, 3) := by decide +kernel
theorem dX8_point_14 : decode cX8_point 14 = .ok (.iload_n 1, 1) := by decide +kernel
theorem dX8_point_15 : decode cX8_point 15 = .ok (.iload_n 3, 1) := by decide +kernel
theorem dX8_point_16 : decode cX8_point 16 = .ok (.iadd, 1) := by decide +kernel
theorem dX8_point_17 : decode cX8_point 17 = .ok (.iaload, 1) := by decide +kernel
theorem dX8_point_18 : decode cX8_point 18 = .ok (.aload_n 0, 1) := by decide +kernel
theorem dX8_point_19 : decode cX8_point 19 = .ok (.getfield 32, 3) := by decide +kernel
theorem dX8_point_22 : decode cX8_point 22 = .ok (.iload_n 3, 1) := by decide +kernel
theorem dX8_point_23 : decode cX8_point 23 = .ok (.iaload, 1) := by decide +kernel
theorem dX8_point_24 : decode cX8_point 24 = .ok (.imul, 1) := by decide +kernel
theorem dX8_point_25 : decode cX8_point 25 = .ok (.iadd, 1) := by decide +kernel
theorem dX8_point_26 : decode cX8_point 26 = .ok (.istore_n 2, 1) := by decide +kernel
theorem dX8_point_27 : decode cX8_point 27 = .ok (.iinc 3 1, 3) := by decide +kernel
theorem dX8_point_30 : decode cX8_point 30 = .ok (.goto (-26), 3) := by decide +kernel
theorem dX8_point_33 : decode cX8_point 33 = .ok (.iload_n 2, 1) := by decide +kernel
theorem dX8_point_34 : decode cX8_point 34 = .ok (.aload_n 0, 1) := by decide +kernel
theorem dX8_point_35 : decode cX8_point 35 = .ok (.iload_n 1, 1) := by decide +kernel
theorem dX8_point_36 : decode cX8_point 36 = .ok (.invokevirtual 71, 3) := by decide +kernel
theorem dX8_point_39 : decode cX8_point 39 = .ok (.idiv, 1) := by decide +kernel
theorem dX8_point_40 : decode cX8_point 40 = .ok (.ireturn, 1) := by decide +kernel
theorem dX8_isFluid_0 : decode cX8_isFluid 0 = .ok (.aload_n 0, 1) := by decide +kernel
theorem dX8_isFluid_1 : decode cX8_isFluid 1 = .ok (.iload_n 1, 1) := by decide +kernel
theorem dX8_isFluid_2 : decode cX8_isFluid 2 = .ok (.invokevirtual 71, 3) := by decide +kernel
theorem dX8_isFluid_5 : decode cX8_isFluid 5 = .ok (.ifCond .le 23, 3) := by decide +kernel
theorem dX8_isFluid_8 : decode cX8_isFluid 8 = .ok (.aload_n 0, 1) := by decide +kernel
theorem dX8_isFluid_9 : decode cX8_isFluid 9 = .ok (.getfield 16, 3) := by decide +kernel
theorem dX8_isFluid_12 : decode cX8_isFluid 12 = .ok (.iload_n 1, 1) := by decide +kernel
theorem dX8_isFluid_13 : decode cX8_isFluid 13 = .ok (.iconst 4, 1) := by decide +kernel
theorem dX8_isFluid_14 : decode cX8_isFluid 14 = .ok (.iadd, 1) := by decide +kernel
theorem dX8_isFluid_15 : decode cX8_isFluid 15 = .ok (.iaload, 1) := by decide +kernel
theorem dX8_isFluid_16 : decode cX8_isFluid 16 = .ok (.aload_n 0, 1) := by decide +kernel
theorem dX8_isFluid_17 : decode cX8_isFluid 17 = .ok (.iload_n 1, 1) := by decide +kernel
theorem dX8_isFluid_18 : decode cX8_isFluid 18 = .ok (.invokevirtual 74, 3) := by decide +kernel
theorem dX8_isFluid_21 : decode cX8_isFluid 21 = .ok (.if_icmp .lt 7, 3) := by decide +kernel
theorem dX8_isFluid_24 : decode cX8_isFluid 24 = .ok (.iconst 1, 1) := by decide +kernel
theorem dX8_isFluid_25 : decode cX8_isFluid 25 = .ok (.goto 4, 3) := by decide +kernel
theorem dX8_isFluid_28 : decode cX8_isFluid 28 = .ok (.iconst 0, 1) := by decide +kernel
theorem dX8_isFluid_29 : decode cX8_isFluid 29 = .ok (.ireturn, 1) := by decide +kernel
theorem dX8_takes_0 : decode cX8_takes 0 = .ok (.aload_n 0, 1) := by decide +kernel
theorem dX8_takes_1 : decode cX8_takes 1 = .ok (.iload_n 1, 1) := by decide +kernel
theorem dX8_takes_2 : decode cX8_takes 2 = .ok (.invokevirtual 71, 3) := by decide +kernel
theorem dX8_takes_5 : decode cX8_takes 5 = .ok (.istore_n 3, 1) := by decide +kernel
theorem dX8_takes_6 : decode cX8_takes 6 = .ok (.iload_n 2, 1) := by decide +kernel
theorem dX8_takes_7 : decode cX8_takes 7 = .ok (.istore 4, 2) := by decide +kernel
theorem dX8_takes_9 : decode cX8_takes 9 = .ok (.iconst 0, 1) := by decide +kernel
theorem dX8_takes_10 : decode cX8_takes 10 = .ok (.istore 5, 2) := by decide +kernel
theorem dX8_takes_12 : decode cX8_takes 12 = .ok (.iload 5, 2) := by decide +kernel
theorem dX8_takes_14 : decode cX8_takes 14 = .ok (.iconst 4, 1) := by decide +kernel
theorem dX8_takes_15 : decode cX8_takes 15 = .ok (.if_icmp .ge 41, 3) := by decide +kernel
theorem dX8_takes_18 : decode cX8_takes 18 = .ok (.aload_n 0, 1) := by decide +kernel
theorem dX8_takes_19 : decode cX8_takes 19 = .ok (.getfield 29, 3) := by decide +kernel
theorem dX8_takes_22 : decode cX8_takes 22 = .ok (.iload 5, 2) := by decide +kernel
theorem dX8_takes_24 : decode cX8_takes 24 = .ok (.aload_n 0, 1) := by decide +kernel
theorem dX8_takes_25 : decode cX8_takes 25 = .ok (.getfield 16, 3) := by decide +kernel
theorem dX8_takes_28 : decode cX8_takes 28 = .ok (.iload_n 1, 1) := by decide +kernel
theorem dX8_takes_29 : decode cX8_takes 29 = .ok (.iload 5, 2) := by decide +kernel
theorem dX8_takes_31 : decode cX8_takes 31 = .ok (.iadd, 1) := by decide +kernel
theorem dX8_takes_32 : decode cX8_takes 32 = .ok (.iaload, 1) := by decide +kernel
theorem dX8_takes_33 : decode cX8_takes 33 = .ok (.iload_n 2, 1) := by decide +kernel
theorem dX8_takes_34 : decode cX8_takes 34 = .ok (.imul, 1) := by decide +kernel
theorem dX8_takes_35 : decode cX8_takes 35 = .ok (.iload_n 3, 1) := by decide +kernel
theorem dX8_takes_36 : decode cX8_takes 36 = .ok (.idiv, 1) := by decide +kernel
theorem dX8_takes_37 : decode cX8_takes 37 = .ok (.iastore, 1) := by decide +kernel
theorem dX8_takes_38 : decode cX8_takes 38 = .ok (.iload 4, 2) := by decide +kernel
theorem dX8_takes_40 : decode cX8_takes 40 = .ok (.aload_n 0, 1) := by decide +kernel
theorem dX8_takes_41 : decode cX8_takes 41 = .ok (.getfield 29, 3) := by decide +kernel
theorem dX8_takes_44 : decode cX8_takes 44 = .ok (.iload 5, 2) := by decide +kernel
theorem dX8_takes_46 : decode cX8_takes 46 = .ok (.iaload, 1) := by decide +kernel
theorem dX8_takes_47 : decode cX8_takes 47 = .ok (.isub, 1) := by decide +kernel
theorem dX8_takes_48 : decode cX8_takes 48 = .ok (.istore 4, 2) := by decide +kernel
theorem dX8_takes_50 : decode cX8_takes 50 = .ok (.iinc 5 1, 3) := by decide +kernel
theorem dX8_takes_53 : decode cX8_takes 53 = .ok (.goto (-41), 3) := by decide +kernel
theorem dX8_takes_56 : decode cX8_takes 56 = .ok (.iconst 0, 1) := by decide +kernel
theorem dX8_takes_57 : decode cX8_takes 57 = .ok (.istore 5, 2) := by decide +kernel
theorem dX8_takes_59 : decode cX8_takes 59 = .ok (.iload 5, 2) := by decide +kernel
theorem dX8_takes_61 : decode cX8_takes 61 = .ok (.iconst 4, 1) := by decide +kernel
theorem dX8_takes_62 : decode cX8_takes 62 = .ok (.if_icmp .ge 28, 3) := by decide +kernel
theorem dX8_takes_65 : decode cX8_takes 65 = .ok (.aload_n 0, 1) := by decide +kernel
theorem dX8_takes_66 : decode cX8_takes 66 = .ok (.getfield 16, 3) := by decide +kernel
theorem dX8_takes_69 : decode cX8_takes 69 = .ok (.iload_n 1, 1) := by decide +kernel
theorem dX8_takes_70 : decode cX8_takes 70 = .ok (.iload 5, 2) := by decide +kernel
theorem dX8_takes_72 : decode cX8_takes 72 = .ok (.iadd, 1) := by decide +kernel
theorem dX8_takes_73 : decode cX8_takes 73 = .ok (.dup2, 1) := by decide +kernel
theorem dX8_takes_74 : decode cX8_takes 74 = .ok (.iaload, 1) := by decide +kernel
theorem dX8_takes_75 : decode cX8_takes 75 = .ok (.aload_n 0, 1) := by decide +kernel
theorem dX8_takes_76 : decode cX8_takes 76 = .ok (.getfield 29, 3) := by decide +kernel
theorem dX8_takes_79 : decode cX8_takes 79 = .ok (.iload 5, 2) := by decide +kernel
theorem dX8_takes_81 : decode cX8_takes 81 = .ok (.iaload, 1) := by decide +kernel
theorem dX8_takes_82 : decode cX8_takes 82 = .ok (.isub, 1) := by decide +kernel
theorem dX8_takes_83 : decode cX8_takes 83 = .ok (.iastore, 1) := by decide +kernel
theorem dX8_takes_84 : decode cX8_takes 84 = .ok (.iinc 5 1, 3) := by decide +kernel
theorem dX8_takes_87 : decode cX8_takes 87 = .ok (.goto (-28), 3) := by decide +kernel
theorem dX8_takes_90 : decode cX8_takes 90 = .ok (.iload 4, 2) := by decide +kernel
theorem dX8_takes_92 : decode cX8_takes 92 = .ok (.ifCond .le 76, 3) := by decide +kernel
theorem dX8_takes_95 : decode cX8_takes 95 = .ok (.iconst 0, 1) := by decide +kernel
theorem dX8_takes_96 : decode cX8_takes 96 = .ok (.istore 5, 2) := by decide +kernel
theorem dX8_takes_98 : decode cX8_takes 98 = .ok (.iconst 1, 1) := by decide +kernel
theorem dX8_takes_99 : decode cX8_takes 99 = .ok (.istore 6, 2) := by decide +kernel
theorem dX8_takes_101 : decode cX8_takes 101 = .ok (.iload 6, 2) := by decide +kernel
theorem dX8_takes_103 : decode cX8_takes 103 = .ok (.iconst 4, 1) := by decide +kernel
theorem dX8_takes_104 : decode cX8_takes 104 = .ok (.if_icmp .ge 34, 3) := by decide +kernel
theorem dX8_takes_107 : decode cX8_takes 107 = .ok (.aload_n 0, 1) := by decide +kernel
theorem dX8_takes_108 : decode cX8_takes 108 = .ok (.getfield 16, 3) := by decide +kernel
theorem dX8_takes_111 : decode cX8_takes 111 = .ok (.iload_n 1, 1) := by decide +kernel
theorem dX8_takes_112 : decode cX8_takes 112 = .ok (.iload 6, 2) := by decide +kernel
theorem dX8_takes_114 : decode cX8_takes 114 = .ok (.iadd, 1) := by decide +kernel
theorem dX8_takes_115 : decode cX8_takes 115 = .ok (.iaload, 1) := by decide +kernel
theorem dX8_takes_116 : decode cX8_takes 116 = .ok (.aload_n 0, 1) := by decide +kernel
theorem dX8_takes_117 : decode cX8_takes 117 = .ok (.getfield 16, 3) := by decide +kernel
theorem dX8_takes_120 : decode cX8_takes 120 = .ok (.iload_n 1, 1) := by decide +kernel
theorem dX8_takes_121 : decode cX8_takes 121 = .ok (.iload 5, 2) := by decide +kernel
theorem dX8_takes_123 : decode cX8_takes 123 = .ok (.iadd, 1) := by decide +kernel
theorem dX8_takes_124 : decode cX8_takes 124 = .ok (.iaload, 1) := by decide +kernel
theorem dX8_takes_125 : decode cX8_takes 125 = .ok (.if_icmp .le 7, 3) := by decide +kernel
theorem dX8_takes_128 : decode cX8_takes 128 = .ok (.iload 6, 2) := by decide +kernel
theorem dX8_takes_130 : decode cX8_takes 130 = .ok (.istore 5, 2) := by decide +kernel
theorem dX8_takes_132 : decode cX8_takes 132 = .ok (.iinc 6 1, 3) := by decide +kernel
theorem dX8_takes_135 : decode cX8_takes 135 = .ok (.goto (-34), 3) := by decide +kernel
theorem dX8_takes_138 : decode cX8_takes 138 = .ok (.aload_n 0, 1) := by decide +kernel
theorem dX8_takes_139 : decode cX8_takes 139 = .ok (.getfield 16, 3) := by decide +kernel
theorem dX8_takes_142 : decode cX8_takes 142 = .ok (.iload_n 1, 1) := by decide +kernel
theorem dX8_takes_143 : decode cX8_takes 143 = .ok (.iload 5, 2) := by decide +kernel
theorem dX8_takes_145 : decode cX8_takes 145 = .ok (.iadd, 1) := by decide +kernel
theorem dX8_takes_146 : decode cX8_takes 146 = .ok (.dup2, 1) := by decide +kernel
theorem dX8_takes_147 : decode cX8_takes 147 = .ok (.iaload, 1) := by decide +kernel
theorem dX8_takes_148 : decode cX8_takes 148 = .ok (.iconst 1, 1) := by decide +kernel
theorem dX8_takes_149 : decode cX8_takes 149 = .ok (.isub, 1) := by decide +kernel
theorem dX8_takes_150 : decode cX8_takes 150 = .ok (.iastore, 1) := by decide +kernel
theorem dX8_takes_151 : decode cX8_takes 151 = .ok (.aload_n 0, 1) := by decide +kernel
theorem dX8_takes_152 : decode cX8_takes 152 = .ok (.getfield 29, 3) := by decide +kernel
theorem dX8_takes_155 : decode cX8_takes 155 = .ok (.iload 5, 2) := by decide +kernel
theorem dX8_takes_157 : decode cX8_takes 157 = .ok (.dup2, 1) := by decide +kernel
theorem dX8_takes_158 : decode cX8_takes 158 = .ok (.iaload, 1) := by decide +kernel
theorem dX8_takes_159 : decode cX8_takes 159 = .ok (.iconst 1, 1) := by decide +kernel
theorem dX8_takes_160 : decode cX8_takes 160 = .ok (.iadd, 1) := by decide +kernel
theorem dX8_takes_161 : decode cX8_takes 161 = .ok (.iastore, 1) := by decide +kernel
theorem dX8_takes_162 : decode cX8_takes 162 = .ok (.iinc 4 (-1), 3) := by decide +kernel
theorem dX8_takes_165 : decode cX8_takes 165 = .ok (.goto (-75), 3) := by decide +kernel
theorem dX8_takes_168 : decode cX8_takes 168 = .ok (.return_, 1) := by decide +kernel
theorem dX8_partMass_0 : decode cX8_partMass 0 = .ok (.aload_n 0, 1) := by decide +kernel
theorem dX8_partMass_1 : decode cX8_partMass 1 = .ok (.getfield 29, 3) := by decide +kernel
theorem dX8_partMass_4 : decode cX8_partMass 4 = .ok (.iconst 0, 1) := by decide +kernel
theorem dX8_partMass_5 : decode cX8_partMass 5 = .ok (.iaload, 1) := by decide +kernel
theorem dX8_partMass_6 : decode cX8_partMass 6 = .ok (.aload_n 0, 1) := by decide +kernel
theorem dX8_partMass_7 : decode cX8_partMass 7 = .ok (.getfield 29, 3) := by decide +kernel
theorem dX8_partMass_10 : decode cX8_partMass 10 = .ok (.iconst 1, 1) := by decide +kernel
theorem dX8_partMass_11 : decode cX8_partMass 11 = .ok (.iaload, 1) := by decide +kernel
theorem dX8_partMass_12 : decode cX8_partMass 12 = .ok (.iadd, 1) := by decide +kernel
theorem dX8_partMass_13 : decode cX8_partMass 13 = .ok (.aload_n 0, 1) := by decide +kernel
theorem dX8_partMass_14 : decode cX8_partMass 14 = .ok (.getfield 29, 3) := by decide +kernel
theorem dX8_partMass_17 : decode cX8_partMass 17 = .ok (.iconst 2, 1) := by decide +kernel
theorem dX8_partMass_18 : decode cX8_partMass 18 = .ok (.iaload, 1) := by decide +kernel
theorem dX8_partMass_19 : decode cX8_partMass 19 = .ok (.iadd, 1) := by decide +kernel
theorem dX8_partMass_20 : decode cX8_partMass 20 = .ok (.aload_n 0, 1) := by decide +kernel
theorem dX8_partMass_21 : decode cX8_partMass 21 = .ok (.getfield 29, 3) := by decide +kernel
theorem dX8_partMass_24 : decode cX8_partMass 24 = .ok (.iconst 3, 1) := by decide +kernel
theorem dX8_partMass_25 : decode cX8_partMass 25 = .ok (.iaload, 1) := by decide +kernel
theorem dX8_partMass_26 : decode cX8_partMass 26 = .ok (.iadd, 1) := by decide +kernel
theorem dX8_partMass_27 : decode cX8_partMass 27 = .ok (.ireturn, 1) := by decide +kernel
theorem dX8_adds_0 : decode cX8_adds 0 = .ok (.iconst 0, 1) := by decide +kernel
theorem dX8_adds_1 : decode cX8_adds 1 = .ok (.istore_n 2, 1) := by decide +kernel
theorem dX8_adds_2 : decode cX8_adds 2 = .ok (.iload_n 2, 1) := by decide +kernel
theorem dX8_adds_3 : decode cX8_adds 3 = .ok (.iconst 4, 1) := by decide +kernel
theorem dX8_adds_4 : decode cX8_adds 4 = .ok (.if_icmp .ge 26, 3) := by decide +kernel
theorem dX8_adds_7 : decode cX8_adds 7 = .ok (.aload_n 0, 1) := by decide +kernel
theorem dX8_adds_8 : decode cX8_adds 8 = .ok (.getfield 16, 3) := by decide +kernel
theorem dX8_adds_11 : decode cX8_adds 11 = .ok (.iload_n 1, 1) := by decide +kernel
theorem dX8_adds_12 : decode cX8_adds 12 = .ok (.iload_n 2, 1) := by decide +kernel
theorem dX8_adds_13 : decode cX8_adds 13 = .ok (.iadd, 1) := by decide +kernel
theorem dX8_adds_14 : decode cX8_adds 14 = .ok (.dup2, 1) := by decide +kernel
theorem dX8_adds_15 : decode cX8_adds 15 = .ok (.iaload, 1) := by decide +kernel
theorem dX8_adds_16 : decode cX8_adds 16 = .ok (.aload_n 0, 1) := by decide +kernel
theorem dX8_adds_17 : decode cX8_adds 17 = .ok (.getfield 29, 3) := by decide +kernel
theorem dX8_adds_20 : decode cX8_adds 20 = .ok (.iload_n 2, 1) := by decide +kernel
theorem dX8_adds_21 : decode cX8_adds 21 = .ok (.iaload, 1) := by decide +kernel
theorem dX8_adds_22 : decode cX8_adds 22 = .ok (.iadd, 1) := by decide +kernel
theorem dX8_adds_23 : decode cX8_adds 23 = .ok (.iastore, 1) := by decide +kernel
theorem dX8_adds_24 : decode cX8_adds 24 = .ok (.iinc 2 1, 3) := by decide +kernel
theorem dX8_adds_27 : decode cX8_adds 27 = .ok (.goto (-25), 3) := by decide +kernel
theorem dX8_adds_30 : decode cX8_adds 30 = .ok (.return_, 1) := by decide +kernel
theorem dX8_feeds_0 : decode cX8_feeds 0 = .ok (.iload_n 1, 1) := by decide +kernel
theorem dX8_feeds_1 : decode cX8_feeds 1 = .ok (.invokestatic 50, 3) := by decide +kernel
theorem dX8_feeds_4 : decode cX8_feeds 4 = .ok (.istore_n 3, 1) := by decide +kernel
theorem dX8_feeds_5 : decode cX8_feeds 5 = .ok (.aload_n 0, 1) := by decide +kernel
theorem dX8_feeds_6 : decode cX8_feeds 6 = .ok (.iload_n 3, 1) := by decide +kernel
theorem dX8_feeds_7 : decode cX8_feeds 7 = .ok (.invokevirtual 71, 3) := by decide +kernel
theorem dX8_feeds_10 : decode cX8_feeds 10 = .ok (.bipush 10, 2) := by decide +kernel
theorem dX8_feeds_12 : decode cX8_feeds 12 = .ok (.iadd, 1) := by decide +kernel
theorem dX8_feeds_13 : decode cX8_feeds 13 = .ok (.istore 4, 2) := by decide +kernel
theorem dX8_feeds_15 : decode cX8_feeds 15 = .ok (.aload_n 0, 1) := by decide +kernel
theorem dX8_feeds_16 : decode cX8_feeds 16 = .ok (.invokevirtual 77, 3) := by decide +kernel
theorem dX8_feeds_19 : decode cX8_feeds 19 = .ok (.istore 5, 2) := by decide +kernel
theorem dX8_feeds_21 : decode cX8_feeds 21 = .ok (.aload_n 0, 1) := by decide +kernel
theorem dX8_feeds_22 : decode cX8_feeds 22 = .ok (.getfield 16, 3) := by decide +kernel
theorem dX8_feeds_25 : decode cX8_feeds 25 = .ok (.iload_n 3, 1) := by decide +kernel
theorem dX8_feeds_26 : decode cX8_feeds 26 = .ok (.iconst 4, 1) := by decide +kernel
theorem dX8_feeds_27 : decode cX8_feeds 27 = .ok (.iadd, 1) := by decide +kernel
theorem dX8_feeds_28 : decode cX8_feeds 28 = .ok (.aload_n 0, 1) := by decide +kernel
theorem dX8_feeds_29 : decode cX8_feeds 29 = .ok (.getfield 16, 3) := by decide +kernel
theorem dX8_feeds_32 : decode cX8_feeds 32 = .ok (.iload_n 3, 1) := by decide +kernel
theorem dX8_feeds_33 : decode cX8_feeds 33 = .ok (.iconst 4, 1) := by decide +kernel
theorem dX8_feeds_34 : decode cX8_feeds 34 = .ok (.iadd, 1) := by decide +kernel
theorem dX8_feeds_35 : decode cX8_feeds 35 = .ok (.iaload, 1) := by decide +kernel
theorem dX8_feeds_36 : decode cX8_feeds 36 = .ok (.iload 4, 2) := by decide +kernel
theorem dX8_feeds_38 : decode cX8_feeds 38 = .ok (.imul, 1) := by decide +kernel
theorem dX8_feeds_39 : decode cX8_feeds 39 = .ok (.iload_n 2, 1) := by decide +kernel
theorem dX8_feeds_40 : decode cX8_feeds 40 = .ok (.iload 5, 2) := by decide +kernel
theorem dX8_feeds_42 : decode cX8_feeds 42 = .ok (.imul, 1) := by decide +kernel
theorem dX8_feeds_43 : decode cX8_feeds 43 = .ok (.iadd, 1) := by decide +kernel
theorem dX8_feeds_44 : decode cX8_feeds 44 = .ok (.iload 4, 2) := by decide +kernel
theorem dX8_feeds_46 : decode cX8_feeds 46 = .ok (.iload 5, 2) := by decide +kernel
theorem dX8_feeds_48 : decode cX8_feeds 48 = .ok (.iadd, 1) := by decide +kernel
theorem dX8_feeds_49 : decode cX8_feeds 49 = .ok (.idiv, 1) := by decide +kernel
theorem dX8_feeds_50 : decode cX8_feeds 50 = .ok (.iastore, 1) := by decide +kernel
theorem dX8_feeds_51 : decode cX8_feeds 51 = .ok (.aload_n 0, 1) := by decide +kernel
theorem dX8_feeds_52 : decode cX8_feeds 52 = .ok (.iload_n 3, 1) := by decide +kernel
theorem dX8_feeds_53 : decode cX8_feeds 53 = .ok (.invokevirtual 81, 3) := by decide +kernel
theorem dX8_feeds_56 : decode cX8_feeds 56 = .ok (.aload_n 0, 1) := by decide +kernel
theorem dX8_feeds_57 : decode cX8_feeds 57 = .ok (.getfield 16, 3) := by decide +kernel
theorem dX8_feeds_60 : decode cX8_feeds 60 = .ok (.iload_n 3, 1) := by decide +kernel
theorem dX8_feeds_61 : decode cX8_feeds 61 = .ok (.iconst 4, 1) := by decide +kernel
theorem dX8_feeds_62 : decode cX8_feeds 62 = .ok (.iadd, 1) := by decide +kernel
theorem dX8_feeds_63 : decode cX8_feeds 63 = .ok (.iaload, 1) := by decide +kernel
theorem dX8_feeds_64 : decode cX8_feeds 64 = .ok (.ireturn, 1) := by decide +kernel
theorem dX8_fills_0 : decode cX8_fills 0 = .ok (.iload_n 1, 1) := by decide +kernel
theorem dX8_fills_1 : decode cX8_fills 1 = .ok (.invokestatic 54, 3) := by decide +kernel
theorem dX8_fills_4 : decode cX8_fills 4 = .ok (.istore_n 3, 1) := by decide +kernel
theorem dX8_fills_5 : decode cX8_fills 5 = .ok (.aload_n 0, 1) := by decide +kernel
theorem dX8_fills_6 : decode cX8_fills 6 = .ok (.iload_n 3, 1) := by decide +kernel
theorem dX8_fills_7 : decode cX8_fills 7 = .ok (.invokevirtual 71, 3) := by decide +kernel
theorem dX8_fills_10 : decode cX8_fills 10 = .ok (.istore 4, 2) := by decide +kernel
theorem dX8_fills_12 : decode cX8_fills 12 = .ok (.aload_n 0, 1) := by decide +kernel
theorem dX8_fills_13 : decode cX8_fills 13 = .ok (.invokevirtual 77, 3) := by decide +kernel
theorem dX8_fills_16 : decode cX8_fills 16 = .ok (.istore 5, 2) := by decide +kernel
theorem dX8_fills_18 : decode cX8_fills 18 = .ok (.aload_n 0, 1) := by decide +kernel
theorem dX8_fills_19 : decode cX8_fills 19 = .ok (.getfield 16, 3) := by decide +kernel
theorem dX8_fills_22 : decode cX8_fills 22 = .ok (.iload_n 3, 1) := by decide +kernel
theorem dX8_fills_23 : decode cX8_fills 23 = .ok (.iconst 4, 1) := by decide +kernel
theorem dX8_fills_24 : decode cX8_fills 24 = .ok (.iadd, 1) := by decide +kernel
theorem dX8_fills_25 : decode cX8_fills 25 = .ok (.aload_n 0, 1) := by decide +kernel
theorem dX8_fills_26 : decode cX8_fills 26 = .ok (.getfield 16, 3) := by decide +kernel
theorem dX8_fills_29 : decode cX8_fills 29 = .ok (.iload_n 3, 1) := by decide +kernel
theorem dX8_fills_30 : decode cX8_fills 30 = .ok (.iconst 4, 1) := by decide +kernel
theorem dX8_fills_31 : decode cX8_fills 31 = .ok (.iadd, 1) := by decide +kernel
theorem dX8_fills_32 : decode cX8_fills 32 = .ok (.iaload, 1) := by decide +kernel
theorem dX8_fills_33 : decode cX8_fills 33 = .ok (.iload 4, 2) := by decide +kernel
theorem dX8_fills_35 : decode cX8_fills 35 = .ok (.imul, 1) := by decide +kernel
theorem dX8_fills_36 : decode cX8_fills 36 = .ok (.iload_n 2, 1) := by decide +kernel
theorem dX8_fills_37 : decode cX8_fills 37 = .ok (.iload 5, 2) := by decide +kernel
theorem dX8_fills_39 : decode cX8_fills 39 = .ok (.imul, 1) := by decide +kernel
theorem dX8_fills_40 : decode cX8_fills 40 = .ok (.iadd, 1) := by decide +kernel
theorem dX8_fills_41 : decode cX8_fills 41 = .ok (.iload 4, 2) := by decide +kernel
theorem dX8_fills_43 : decode cX8_fills 43 = .ok (.iload 5, 2) := by decide +kernel
theorem dX8_fills_45 : decode cX8_fills 45 = .ok (.iadd, 1) := by decide +kernel
theorem dX8_fills_46 : decode cX8_fills 46 = .ok (.idiv, 1) := by decide +kernel
theorem dX8_fills_47 : decode cX8_fills 47 = .ok (.iastore, 1) := by decide +kernel
theorem dX8_fills_48 : decode cX8_fills 48 = .ok (.aload_n 0, 1) := by decide +kernel
theorem dX8_fills_49 : decode cX8_fills 49 = .ok (.iload_n 3, 1) := by decide +kernel
theorem dX8_fills_50 : decode cX8_fills 50 = .ok (.invokevirtual 81, 3) := by decide +kernel
theorem dX8_fills_53 : decode cX8_fills 53 = .ok (.aload_n 0, 1) := by decide +kernel
theorem dX8_fills_54 : decode cX8_fills 54 = .ok (.getfield 16, 3) := by decide +kernel
theorem dX8_fills_57 : decode cX8_fills 57 = .ok (.iload_n 3, 1) := by decide +kernel
theorem dX8_fills_58 : decode cX8_fills 58 = .ok (.iconst 4, 1) := by decide +kernel
theorem dX8_fills_59 : decode cX8_fills 59 = .ok (.iadd, 1) := by decide +kernel
theorem dX8_fills_60 : decode cX8_fills 60 = .ok (.iaload, 1) := by decide +kernel
theorem dX8_fills_61 : decode cX8_fills 61 = .ok (.ireturn, 1) := by decide +kernel
theorem dX8_cools_0 : decode cX8_cools 0 = .ok (.aload_n 0, 1) := by decide +kernel
theorem dX8_cools_1 : decode cX8_cools 1 = .ok (.iload_n 1, 1) := by decide +kernel
theorem dX8_cools_2 : decode cX8_cools 2 = .ok (.invokestatic 54, 3) := by decide +kernel
theorem dX8_cools_5 : decode cX8_cools 5 = .ok (.invokevirtual 71, 3) := by decide +kernel
theorem dX8_cools_8 : decode cX8_cools 8 = .ok (.ifCond .ne 16, 3) := by decide +kernel
theorem dX8_cools_11 : decode cX8_cools 11 = .ok (.aload_n 0, 1) := by decide +kernel
theorem dX8_cools_12 : decode cX8_cools 12 = .ok (.getfield 16, 3) := by decide +kernel
theorem dX8_cools_15 : decode cX8_cools 15 = .ok (.iload_n 1, 1) := by decide +kernel
theorem dX8_cools_16 : decode cX8_cools 16 = .ok (.invokestatic 54, 3) := by decide +kernel
theorem dX8_cools_19 : decode cX8_cools 19 = .ok (.iconst 4, 1) := by decide +kernel
theorem dX8_cools_20 : decode cX8_cools 20 = .ok (.iadd, 1) := by decide +kernel
theorem dX8_cools_21 : decode cX8_cools 21 = .ok (.bipush 20, 2) := by decide +kernel
theorem dX8_cools_23 : decode cX8_cools 23 = .ok (.iastore, 1) := by decide +kernel
theorem dX8_cools_24 : decode cX8_cools 24 = .ok (.return_, 1) := by decide +kernel
theorem dX8_charges_0 : decode cX8_charges 0 = .ok (.iload_n 1, 1) := by decide +kernel
theorem dX8_charges_1 : decode cX8_charges 1 = .ok (.invokestatic 85, 3) := by decide +kernel
theorem dX8_charges_4 : decode cX8_charges 4 = .ok (.ifCond .ne 9, 3) := by decide +kernel
theorem dX8_charges_7 : decode cX8_charges 7 = .ok (.aload_n 0, 1) := by decide +kernel
theorem dX8_charges_8 : decode cX8_charges 8 = .ok (.iconst 1, 1) := by decide +kernel
theorem dX8_charges_9 : decode cX8_charges 9 = .ok (.invokevirtual 89, 3) := by decide +kernel
theorem dX8_charges_12 : decode cX8_charges 12 = .ok (.ireturn, 1) := by decide +kernel
theorem dX8_charges_13 : decode cX8_charges 13 = .ok (.iload_n 2, 1) := by decide +kernel
theorem dX8_charges_14 : decode cX8_charges 14 = .ok (.ifCond .lt 13, 3) := by decide +kernel
theorem dX8_charges_17 : decode cX8_charges 17 = .ok (.iload_n 3, 1) := by decide +kernel
theorem dX8_charges_18 : decode cX8_charges 18 = .ok (.iconst 1, 1) := by decide +kernel
theorem dX8_charges_19 : decode cX8_charges 19 = .ok (.bipush 50, 2) := by decide +kernel
theorem dX8_charges_21 : decode cX8_charges 21 = .ok (.invokestatic 67, 3) := by decide +kernel
theorem dX8_charges_24 : decode cX8_charges 24 = .ok (.ifCond .ne 9, 3) := by decide +kernel
theorem dX8_charges_27 : decode cX8_charges 27 = .ok (.aload_n 0, 1) := by decide +kernel
theorem dX8_charges_28 : decode cX8_charges 28 = .ok (.iconst 2, 1) := by decide +kernel
theorem dX8_charges_29 : decode cX8_charges 29 = .ok (.invokevirtual 89, 3) := by decide +kernel
theorem dX8_charges_32 : decode cX8_charges 32 = .ok (.ireturn, 1) := by decide +kernel
theorem dX8_charges_33 : decode cX8_charges 33 = .ok (.aload_n 0, 1) := by decide +kernel
theorem dX8_charges_34 : decode cX8_charges 34 = .ok (.iload_n 1, 1) := by decide +kernel
theorem dX8_charges_35 : decode cX8_charges 35 = .ok (.invokestatic 50, 3) := by decide +kernel
theorem dX8_charges_38 : decode cX8_charges 38 = .ok (.invokevirtual 71, 3) := by decide +kernel
theorem dX8_charges_41 : decode cX8_charges 41 = .ok (.iload_n 3, 1) := by decide +kernel
theorem dX8_charges_42 : decode cX8_charges 42 = .ok (.iadd, 1) := by decide +kernel
theorem dX8_charges_43 : decode cX8_charges 43 = .ok (.bipush 100, 2) := by decide +kernel
theorem dX8_charges_45 : decode cX8_charges 45 = .ok (.if_icmp .le 9, 3) := by decide +kernel
theorem dX8_charges_48 : decode cX8_charges 48 = .ok (.aload_n 0, 1) := by decide +kernel
theorem dX8_charges_49 : decode cX8_charges 49 = .ok (.iconst 3, 1) := by decide +kernel
theorem dX8_charges_50 : decode cX8_charges 50 = .ok (.invokevirtual 89, 3) := by decide +kernel
theorem dX8_charges_53 : decode cX8_charges 53 = .ok (.ireturn, 1) := by decide +kernel
theorem dX8_charges_54 : decode cX8_charges 54 = .ok (.iconst 0, 1) := by decide +kernel
theorem dX8_charges_55 : decode cX8_charges 55 = .ok (.istore 4, 2) := by decide +kernel
theorem dX8_charges_57 : decode cX8_charges 57 = .ok (.iload 4, 2) := by decide +kernel
theorem dX8_charges_59 : decode cX8_charges 59 = .ok (.iconst 4, 1) := by decide +kernel
theorem dX8_charges_60 : decode cX8_charges 60 = .ok (.if_icmp .ge 27, 3) := by decide +kernel
theorem dX8_charges_63 : decode cX8_charges 63 = .ok (.aload_n 0, 1) := by decide +kernel
theorem dX8_charges_64 : decode cX8_charges 64 = .ok (.getfield 29, 3) := by decide +kernel
theorem dX8_charges_67 : decode cX8_charges 67 = .ok (.iload 4, 2) := by decide +kernel
theorem dX8_charges_69 : decode cX8_charges 69 = .ok (.iload 4, 2) := by decide +kernel
theorem dX8_charges_71 : decode cX8_charges 71 = .ok (.iload_n 2, 1) := by decide +kernel
theorem dX8_charges_72 : decode cX8_charges 72 = .ok (.if_icmp .ne 7, 3) := by decide +kernel
theorem dX8_charges_75 : decode cX8_charges 75 = .ok (.iload_n 3, 1) := by decide +kernel
theorem dX8_charges_76 : decode cX8_charges 76 = .ok (.goto 4, 3) := by decide +kernel
theorem dX8_charges_79 : decode cX8_charges 79 = .ok (.iconst 0, 1) := by decide +kernel
theorem dX8_charges_80 : decode cX8_charges 80 = .ok (.iastore, 1) := by decide +kernel
theorem dX8_charges_81 : decode cX8_charges 81 = .ok (.iinc 4 1, 3) := by decide +kernel
theorem dX8_charges_84 : decode cX8_charges 84 = .ok (.goto (-27), 3) := by decide +kernel
theorem dX8_charges_87 : decode cX8_charges 87 = .ok (.aload_n 0, 1) := by decide +kernel
theorem dX8_charges_88 : decode cX8_charges 88 = .ok (.getfield 16, 3) := by decide +kernel
theorem dX8_charges_91 : decode cX8_charges 91 = .ok (.iconst 1, 1) := by decide +kernel
theorem dX8_charges_92 : decode cX8_charges 92 = .ok (.iload_n 2, 1) := by decide +kernel
theorem dX8_charges_93 : decode cX8_charges 93 = .ok (.iadd, 1) := by decide +kernel
theorem dX8_charges_94 : decode cX8_charges 94 = .ok (.dup2, 1) := by decide +kernel
theorem dX8_charges_95 : decode cX8_charges 95 = .ok (.iaload, 1) := by decide +kernel
theorem dX8_charges_96 : decode cX8_charges 96 = .ok (.iload_n 3, 1) := by decide +kernel
theorem dX8_charges_97 : decode cX8_charges 97 = .ok (.iadd, 1) := by decide +kernel
theorem dX8_charges_98 : decode cX8_charges 98 = .ok (.iastore, 1) := by decide +kernel
theorem dX8_charges_99 : decode cX8_charges 99 = .ok (.aload_n 0, 1) := by decide +kernel
theorem dX8_charges_100 : decode cX8_charges 100 = .ok (.iload_n 1, 1) := by decide +kernel
theorem dX8_charges_101 : decode cX8_charges 101 = .ok (.bipush 20, 2) := by decide +kernel
theorem dX8_charges_103 : decode cX8_charges 103 = .ok (.invokevirtual 92, 3) := by decide +kernel
theorem dX8_charges_106 : decode cX8_charges 106 = .ok (.ireturn, 1) := by decide +kernel
theorem dX8_charge_0 : decode cX8_charge 0 = .ok (.aload_n 0, 1) := by decide +kernel
theorem dX8_charge_1 : decode cX8_charge 1 = .ok (.invokevirtual 96, 3) := by decide +kernel
theorem dX8_charge_4 : decode cX8_charge 4 = .ok (.aload_n 0, 1) := by decide +kernel
theorem dX8_charge_5 : decode cX8_charge 5 = .ok (.aload_n 0, 1) := by decide +kernel
theorem dX8_charge_6 : decode cX8_charge 6 = .ok (.iload_n 1, 1) := by decide +kernel
theorem dX8_charge_7 : decode cX8_charge 7 = .ok (.iload_n 2, 1) := by decide +kernel
theorem dX8_charge_8 : decode cX8_charge 8 = .ok (.invokestatic 99, 3) := by decide +kernel
theorem dX8_charge_11 : decode cX8_charge 11 = .ok (.iload_n 3, 1) := by decide +kernel
theorem dX8_charge_12 : decode cX8_charge 12 = .ok (.invokevirtual 102, 3) := by decide +kernel
theorem dX8_charge_15 : decode cX8_charge 15 = .ok (.invokevirtual 106, 3) := by decide +kernel
theorem dX8_charge_18 : decode cX8_charge 18 = .ok (.ireturn, 1) := by decide +kernel
theorem dX8_fires_0 : decode cX8_fires 0 = .ok (.iload_n 1, 1) := by decide +kernel
theorem dX8_fires_1 : decode cX8_fires 1 = .ok (.invokestatic 85, 3) := by decide +kernel
theorem dX8_fires_4 : decode cX8_fires 4 = .ok (.ifCond .ne 9, 3) := by decide +kernel
theorem dX8_fires_7 : decode cX8_fires 7 = .ok (.aload_n 0, 1) := by decide +kernel
theorem dX8_fires_8 : decode cX8_fires 8 = .ok (.iconst 1, 1) := by decide +kernel
theorem dX8_fires_9 : decode cX8_fires 9 = .ok (.invokevirtual 89, 3) := by decide +kernel
theorem dX8_fires_12 : decode cX8_fires 12 = .ok (.ireturn, 1) := by decide +kernel
theorem dX8_fires_13 : decode cX8_fires 13 = .ok (.iload_n 2, 1) := by decide +kernel
theorem dX8_fires_14 : decode cX8_fires 14 = .ok (.iconst 0, 1) := by decide +kernel
theorem dX8_fires_15 : decode cX8_fires 15 = .ok (.iconst 5, 1) := by decide +kernel
theorem dX8_fires_16 : decode cX8_fires 16 = .ok (.invokestatic 67, 3) := by decide +kernel
theorem dX8_fires_19 : decode cX8_fires 19 = .ok (.ifCond .ne 9, 3) := by decide +kernel
theorem dX8_fires_22 : decode cX8_fires 22 = .ok (.aload_n 0, 1) := by decide +kernel
theorem dX8_fires_23 : decode cX8_fires 23 = .ok (.iconst 2, 1) := by decide +kernel
theorem dX8_fires_24 : decode cX8_fires 24 = .ok (.invokevirtual 89, 3) := by decide +kernel
theorem dX8_fires_27 : decode cX8_fires 27 = .ok (.ireturn, 1) := by decide +kernel
theorem dX8_fires_28 : decode cX8_fires 28 = .ok (.aload_n 0, 1) := by decide +kernel
theorem dX8_fires_29 : decode cX8_fires 29 = .ok (.getfield 16, 3) := by decide +kernel
theorem dX8_fires_32 : decode cX8_fires 32 = .ok (.iload_n 1, 1) := by decide +kernel
theorem dX8_fires_33 : decode cX8_fires 33 = .ok (.invokestatic 50, 3) := by decide +kernel
theorem dX8_fires_36 : decode cX8_fires 36 = .ok (.iconst 5, 1) := by decide +kernel
theorem dX8_fires_37 : decode cX8_fires 37 = .ok (.iadd, 1) := by decide +kernel
theorem dX8_fires_38 : decode cX8_fires 38 = .ok (.iaload, 1) := by decide +kernel
theorem dX8_fires_39 : decode cX8_fires 39 = .ok (.istore_n 3, 1) := by decide +kernel
theorem dX8_fires_40 : decode cX8_fires 40 = .ok (.aload_n 0, 1) := by decide +kernel
theorem dX8_fires_41 : decode cX8_fires 41 = .ok (.getfield 16, 3) := by decide +kernel
theorem dX8_fires_44 : decode cX8_fires 44 = .ok (.iload_n 1, 1) := by decide +kernel
theorem dX8_fires_45 : decode cX8_fires 45 = .ok (.invokestatic 50, 3) := by decide +kernel
theorem dX8_fires_48 : decode cX8_fires 48 = .ok (.iconst 5, 1) := by decide +kernel
theorem dX8_fires_49 : decode cX8_fires 49 = .ok (.iadd, 1) := by decide +kernel
theorem dX8_fires_50 : decode cX8_fires 50 = .ok (.iload_n 2, 1) := by decide +kernel
theorem dX8_fires_51 : decode cX8_fires 51 = .ok (.iastore, 1) := by decide +kernel
theorem dX8_fires_52 : decode cX8_fires 52 = .ok (.iload_n 3, 1) := by decide +kernel
theorem dX8_fires_53 : decode cX8_fires 53 = .ok (.ireturn, 1) := by decide +kernel
theorem dX8_setFire_0 : decode cX8_setFire 0 = .ok (.aload_n 0, 1) := by decide +kernel
theorem dX8_setFire_1 : decode cX8_setFire 1 = .ok (.invokevirtual 96, 3) := by decide +kernel
theorem dX8_setFire_4 : decode cX8_setFire 4 = .ok (.aload_n 0, 1) := by decide +kernel
theorem dX8_setFire_5 : decode cX8_setFire 5 = .ok (.aload_n 0, 1) := by decide +kernel
theorem dX8_setFire_6 : decode cX8_setFire 6 = .ok (.iload_n 1, 1) := by decide +kernel
theorem dX8_setFire_7 : decode cX8_setFire 7 = .ok (.iload_n 2, 1) := by decide +kernel
theorem dX8_setFire_8 : decode cX8_setFire 8 = .ok (.invokevirtual 109, 3) := by decide +kernel
theorem dX8_setFire_11 : decode cX8_setFire 11 = .ok (.invokevirtual 106, 3) := by decide +kernel
theorem dX8_setFire_14 : decode cX8_setFire 14 = .ok (.ireturn, 1) := by decide +kernel
theorem dX8_skims_0 : decode cX8_skims 0 = .ok (.iload_n 1, 1) := by decide +kernel
theorem dX8_skims_1 : decode cX8_skims 1 = .ok (.invokestatic 85, 3) := by decide +kernel
theorem dX8_skims_4 : decode cX8_skims 4 = .ok (.ifCond .ne 9, 3) := by decide +kernel
theorem dX8_skims_7 : decode cX8_skims 7 = .ok (.aload_n 0, 1) := by decide +kernel
theorem dX8_skims_8 : decode cX8_skims 8 = .ok (.iconst 1, 1) := by decide +kernel
theorem dX8_skims_9 : decode cX8_skims 9 = .ok (.invokevirtual 89, 3) := by decide +kernel
theorem dX8_skims_12 : decode cX8_skims 12 = .ok (.ireturn, 1) := by decide +kernel
theorem dX8_skims_13 : decode cX8_skims 13 = .ok (.iload_n 1, 1) := by decide +kernel
theorem dX8_skims_14 : decode cX8_skims 14 = .ok (.invokestatic 50, 3) := by decide +kernel
theorem dX8_skims_17 : decode cX8_skims 17 = .ok (.istore_n 2, 1) := by decide +kernel
theorem dX8_skims_18 : decode cX8_skims 18 = .ok (.aload_n 0, 1) := by decide +kernel
theorem dX8_skims_19 : decode cX8_skims 19 = .ok (.getfield 16, 3) := by decide +kernel
theorem dX8_skims_22 : decode cX8_skims 22 = .ok (.iload_n 2, 1) := by decide +kernel
theorem dX8_skims_23 : decode cX8_skims 23 = .ok (.iconst 3, 1) := by decide +kernel
theorem dX8_skims_24 : decode cX8_skims 24 = .ok (.iadd, 1) := by decide +kernel
theorem dX8_skims_25 : decode cX8_skims 25 = .ok (.iaload, 1) := by decide +kernel
theorem dX8_skims_26 : decode cX8_skims 26 = .ok (.istore_n 3, 1) := by decide +kernel
theorem dX8_skims_27 : decode cX8_skims 27 = .ok (.iconst 0, 1) := by decide +kernel
theorem dX8_skims_28 : decode cX8_skims 28 = .ok (.istore 4, 2) := by decide +kernel
theorem dX8_skims_30 : decode cX8_skims 30 = .ok (.iload_n 3, 1) := by decide +kernel
theorem dX8_skims_31 : decode cX8_skims 31 = .ok (.ifCond .ne 9, 3) := by decide +kernel
theorem dX8_skims_34 : decode cX8_skims 34 = .ok (.aload_n 0, 1) := by decide +kernel
theorem dX8_skims_35 : decode cX8_skims 35 = .ok (.iconst 2, 1) := by decide +kernel
theorem dX8_skims_36 : decode cX8_skims 36 = .ok (.invokevirtual 89, 3) := by decide +kernel
theorem dX8_skims_39 : decode cX8_skims 39 = .ok (.ireturn, 1) := by decide +kernel
theorem dX8_skims_40 : decode cX8_skims 40 = .ok (.aload_n 0, 1) := by decide +kernel
theorem dX8_skims_41 : decode cX8_skims 41 = .ok (.iload_n 2, 1) := by decide +kernel
theorem dX8_skims_42 : decode cX8_skims 42 = .ok (.invokevirtual 112, 3) := by decide +kernel
theorem dX8_skims_45 : decode cX8_skims 45 = .ok (.ifCond .ne 9, 3) := by decide +kernel
theorem dX8_skims_48 : decode cX8_skims 48 = .ok (.aload_n 0, 1) := by decide +kernel
theorem dX8_skims_49 : decode cX8_skims 49 = .ok (.iconst 3, 1) := by decide +kernel
theorem dX8_skims_50 : decode cX8_skims 50 = .ok (.invokevirtual 89, 3) := by decide +kernel
theorem dX8_skims_53 : decode cX8_skims 53 = .ok (.ireturn, 1) := by decide +kernel
theorem dX8_skims_54 : decode cX8_skims 54 = .ok (.iconst 1, 1) := by decide +kernel
theorem dX8_skims_55 : decode cX8_skims 55 = .ok (.istore 5, 2) := by decide +kernel
theorem dX8_skims_57 : decode cX8_skims 57 = .ok (.iload 5, 2) := by decide +kernel
theorem dX8_skims_59 : decode cX8_skims 59 = .ok (.iconst 3, 1) := by decide +kernel
theorem dX8_skims_60 : decode cX8_skims 60 = .ok (.if_icmp .ge 34, 3) := by decide +kernel
theorem dX8_skims_63 : decode cX8_skims 63 = .ok (.aload_n 0, 1) := by decide +kernel
theorem dX8_skims_64 : decode cX8_skims 64 = .ok (.getfield 16, 3) := by decide +kernel
theorem dX8_skims_67 : decode cX8_skims 67 = .ok (.iload_n 2, 1) := by decide +kernel
theorem dX8_skims_68 : decode cX8_skims 68 = .ok (.iload 5, 2) := by decide +kernel
theorem dX8_skims_70 : decode cX8_skims 70 = .ok (.iadd, 1) := by decide +kernel
theorem dX8_skims_71 : decode cX8_skims 71 = .ok (.iaload, 1) := by decide +kernel
theorem dX8_skims_72 : decode cX8_skims 72 = .ok (.aload_n 0, 1) := by decide +kernel
theorem dX8_skims_73 : decode cX8_skims 73 = .ok (.getfield 16, 3) := by decide +kernel
theorem dX8_skims_76 : decode cX8_skims 76 = .ok (.iload_n 2, 1) := by decide +kernel
theorem dX8_skims_77 : decode cX8_skims 77 = .ok (.iload 4, 2) := by decide +kernel
theorem dX8_skims_79 : decode cX8_skims 79 = .ok (.iadd, 1) := by decide +kernel
theorem dX8_skims_80 : decode cX8_skims 80 = .ok (.iaload, 1) := by decide +kernel
theorem dX8_skims_81 : decode cX8_skims 81 = .ok (.if_icmp .le 7, 3) := by decide +kernel
theorem dX8_skims_84 : decode cX8_skims 84 = .ok (.iload 5, 2) := by decide +kernel
theorem dX8_skims_86 : decode cX8_skims 86 = .ok (.istore 4, 2) := by decide +kernel
theorem dX8_skims_88 : decode cX8_skims 88 = .ok (.iinc 5 1, 3) := by decide +kernel
theorem dX8_skims_91 : decode cX8_skims 91 = .ok (.goto (-34), 3) := by decide +kernel
theorem dX8_skims_94 : decode cX8_skims 94 = .ok (.iload_n 3, 1) := by decide +kernel
theorem dX8_skims_95 : decode cX8_skims 95 = .ok (.iconst 4, 1) := by decide +kernel
theorem dX8_skims_96 : decode cX8_skims 96 = .ok (.idiv, 1) := by decide +kernel
theorem dX8_skims_97 : decode cX8_skims 97 = .ok (.aload_n 0, 1) := by decide +kernel
theorem dX8_skims_98 : decode cX8_skims 98 = .ok (.getfield 16, 3) := by decide +kernel
theorem dX8_skims_101 : decode cX8_skims 101 = .ok (.iload_n 2, 1) := by decide +kernel
theorem dX8_skims_102 : decode cX8_skims 102 = .ok (.iload 4, 2) := by decide +kernel
theorem dX8_skims_104 : decode cX8_skims 104 = .ok (.iadd, 1) := by decide +kernel
theorem dX8_skims_105 : decode cX8_skims 105 = .ok (.iaload, 1) := by decide +kernel
theorem dX8_skims_106 : decode cX8_skims 106 = .ok (.if_icmp .ge 9, 3) := by decide +kernel
theorem dX8_skims_109 : decode cX8_skims 109 = .ok (.iload_n 3, 1) := by decide +kernel
theorem dX8_skims_110 : decode cX8_skims 110 = .ok (.iconst 4, 1) := by decide +kernel
theorem dX8_skims_111 : decode cX8_skims 111 = .ok (.idiv, 1) := by decide +kernel
theorem dX8_skims_112 : decode cX8_skims 112 = .ok (.goto 12, 3) := by decide +kernel
theorem dX8_skims_115 : decode cX8_skims 115 = .ok (.aload_n 0, 1) := by decide +kernel
theorem dX8_skims_116 : decode cX8_skims 116 = .ok (.getfield 16, 3) := by decide +kernel
theorem dX8_skims_119 : decode cX8_skims 119 = .ok (.iload_n 2, 1) := by decide +kernel
theorem dX8_skims_120 : decode cX8_skims 120 = .ok (.iload 4, 2) := by decide +kernel
theorem dX8_skims_122 : decode cX8_skims 122 = .ok (.iadd, 1) := by decide +kernel
theorem dX8_skims_123 : decode cX8_skims 123 = .ok (.iaload, 1) := by decide +kernel
theorem dX8_skims_124 : decode cX8_skims 124 = .ok (.istore 5, 2) := by decide +kernel
theorem dX8_skims_126 : decode cX8_skims 126 = .ok (.aload_n 0, 1) := by decide +kernel
theorem dX8_skims_127 : decode cX8_skims 127 = .ok (.getfield 16, 3) := by decide +kernel
theorem dX8_skims_130 : decode cX8_skims 130 = .ok (.iload_n 2, 1) := by decide +kernel
theorem dX8_skims_131 : decode cX8_skims 131 = .ok (.iconst 3, 1) := by decide +kernel
theorem dX8_skims_132 : decode cX8_skims 132 = .ok (.iadd, 1) := by decide +kernel
theorem dX8_skims_133 : decode cX8_skims 133 = .ok (.iconst 0, 1) := by decide +kernel
theorem dX8_skims_134 : decode cX8_skims 134 = .ok (.iastore, 1) := by decide +kernel
theorem dX8_skims_135 : decode cX8_skims 135 = .ok (.aload_n 0, 1) := by decide +kernel
theorem dX8_skims_136 : decode cX8_skims 136 = .ok (.getfield 16, 3) := by decide +kernel
theorem dX8_skims_139 : decode cX8_skims 139 = .ok (.iload_n 2, 1) := by decide +kernel
theorem dX8_skims_140 : decode cX8_skims 140 = .ok (.iload 4, 2) := by decide +kernel
theorem dX8_skims_142 : decode cX8_skims 142 = .ok (.iadd, 1) := by decide +kernel
theorem dX8_skims_143 : decode cX8_skims 143 = .ok (.dup2, 1) := by decide +kernel
theorem dX8_skims_144 : decode cX8_skims 144 = .ok (.iaload, 1) := by decide +kernel
theorem dX8_skims_145 : decode cX8_skims 145 = .ok (.iload 5, 2) := by decide +kernel
theorem dX8_skims_147 : decode cX8_skims 147 = .ok (.isub, 1) := by decide +kernel
theorem dX8_skims_148 : decode cX8_skims 148 = .ok (.iastore, 1) := by decide +kernel
theorem dX8_skims_149 : decode cX8_skims 149 = .ok (.aload_n 0, 1) := by decide +kernel
theorem dX8_skims_150 : decode cX8_skims 150 = .ok (.getfield 16, 3) := by decide +kernel
theorem dX8_skims_153 : decode cX8_skims 153 = .ok (.bipush 8, 2) := by decide +kernel
theorem dX8_skims_155 : decode cX8_skims 155 = .ok (.dup2, 1) := by decide +kernel
theorem dX8_skims_156 : decode cX8_skims 156 = .ok (.iaload, 1) := by decide +kernel
theorem dX8_skims_157 : decode cX8_skims 157 = .ok (.iload_n 3, 1) := by decide +kernel
theorem dX8_skims_158 : decode cX8_skims 158 = .ok (.iadd, 1) := by decide +kernel
theorem dX8_skims_159 : decode cX8_skims 159 = .ok (.iastore, 1) := by decide +kernel
theorem dX8_skims_160 : decode cX8_skims 160 = .ok (.aload_n 0, 1) := by decide +kernel
theorem dX8_skims_161 : decode cX8_skims 161 = .ok (.getfield 16, 3) := by decide +kernel
theorem dX8_skims_164 : decode cX8_skims 164 = .ok (.iconst 5, 1) := by decide +kernel
theorem dX8_skims_165 : decode cX8_skims 165 = .ok (.iload 4, 2) := by decide +kernel
theorem dX8_skims_167 : decode cX8_skims 167 = .ok (.iadd, 1) := by decide +kernel
theorem dX8_skims_168 : decode cX8_skims 168 = .ok (.dup2, 1) := by decide +kernel
theorem dX8_skims_169 : decode cX8_skims 169 = .ok (.iaload, 1) := by decide +kernel
theorem dX8_skims_170 : decode cX8_skims 170 = .ok (.iload 5, 2) := by decide +kernel
theorem dX8_skims_172 : decode cX8_skims 172 = .ok (.iadd, 1) := by decide +kernel
theorem dX8_skims_173 : decode cX8_skims 173 = .ok (.iastore, 1) := by decide +kernel
theorem dX8_skims_174 : decode cX8_skims 174 = .ok (.iload_n 3, 1) := by decide +kernel
theorem dX8_skims_175 : decode cX8_skims 175 = .ok (.iload 5, 2) := by decide +kernel
theorem dX8_skims_177 : decode cX8_skims 177 = .ok (.iadd, 1) := by decide +kernel
theorem dX8_skims_178 : decode cX8_skims 178 = .ok (.ireturn, 1) := by decide +kernel
theorem dX8_skim_0 : decode cX8_skim 0 = .ok (.aload_n 0, 1) := by decide +kernel
theorem dX8_skim_1 : decode cX8_skim 1 = .ok (.invokevirtual 96, 3) := by decide +kernel
theorem dX8_skim_4 : decode cX8_skim 4 = .ok (.aload_n 0, 1) := by decide +kernel
theorem dX8_skim_5 : decode cX8_skim 5 = .ok (.aload_n 0, 1) := by decide +kernel
theorem dX8_skim_6 : decode cX8_skim 6 = .ok (.iload_n 1, 1) := by decide +kernel
theorem dX8_skim_7 : decode cX8_skim 7 = .ok (.invokevirtual 115, 3) := by decide +kernel
theorem dX8_skim_10 : decode cX8_skim 10 = .ok (.invokevirtual 106, 3) := by decide +kernel
theorem dX8_skim_13 : decode cX8_skim 13 = .ok (.ireturn, 1) := by decide +kernel
theorem dX8_taps_0 : decode cX8_taps 0 = .ok (.iload_n 1, 1) := by decide +kernel
theorem dX8_taps_1 : decode cX8_taps 1 = .ok (.invokestatic 85, 3) := by decide +kernel
theorem dX8_taps_4 : decode cX8_taps 4 = .ok (.ifCond .eq 10, 3) := by decide +kernel
theorem dX8_taps_7 : decode cX8_taps 7 = .ok (.iload_n 2, 1) := by decide +kernel
theorem dX8_taps_8 : decode cX8_taps 8 = .ok (.invokestatic 85, 3) := by decide +kernel
theorem dX8_taps_11 : decode cX8_taps 11 = .ok (.ifCond .ne 9, 3) := by decide +kernel
theorem dX8_taps_14 : decode cX8_taps 14 = .ok (.aload_n 0, 1) := by decide +kernel
theorem dX8_taps_15 : decode cX8_taps 15 = .ok (.iconst 1, 1) := by decide +kernel
theorem dX8_taps_16 : decode cX8_taps 16 = .ok (.invokevirtual 89, 3) := by decide +kernel
theorem dX8_taps_19 : decode cX8_taps 19 = .ok (.ireturn, 1) := by decide +kernel
theorem dX8_taps_20 : decode cX8_taps 20 = .ok (.iload_n 3, 1) := by decide +kernel
theorem dX8_taps_21 : decode cX8_taps 21 = .ok (.iconst 1, 1) := by decide +kernel
theorem dX8_taps_22 : decode cX8_taps 22 = .ok (.bipush 40, 2) := by decide +kernel
theorem dX8_taps_24 : decode cX8_taps 24 = .ok (.invokestatic 67, 3) := by decide +kernel
theorem dX8_taps_27 : decode cX8_taps 27 = .ok (.ifCond .ne 9, 3) := by decide +kernel
theorem dX8_taps_30 : decode cX8_taps 30 = .ok (.aload_n 0, 1) := by decide +kernel
theorem dX8_taps_31 : decode cX8_taps 31 = .ok (.iconst 2, 1) := by decide +kernel
theorem dX8_taps_32 : decode cX8_taps 32 = .ok (.invokevirtual 89, 3) := by decide +kernel
theorem dX8_taps_35 : decode cX8_taps 35 = .ok (.ireturn, 1) := by decide +kernel
theorem dX8_taps_36 : decode cX8_taps 36 = .ok (.aload_n 0, 1) := by decide +kernel
theorem dX8_taps_37 : decode cX8_taps 37 = .ok (.iload_n 1, 1) := by decide +kernel
theorem dX8_taps_38 : decode cX8_taps 38 = .ok (.invokestatic 50, 3) := by decide +kernel
theorem dX8_taps_41 : decode cX8_taps 41 = .ok (.invokevirtual 71, 3) := by decide +kernel
theorem dX8_taps_44 : decode cX8_taps 44 = .ok (.iload_n 3, 1) := by decide +kernel
theorem dX8_taps_45 : decode cX8_taps 45 = .ok (.if_icmp .ge 9, 3) := by decide +kernel
theorem dX8_taps_48 : decode cX8_taps 48 = .ok (.aload_n 0, 1) := by decide +kernel
theorem dX8_taps_49 : decode cX8_taps 49 = .ok (.iconst 3, 1) := by decide +kernel
theorem dX8_taps_50 : decode cX8_taps 50 = .ok (.invokevirtual 89, 3) := by decide +kernel
theorem dX8_taps_53 : decode cX8_taps 53 = .ok (.ireturn, 1) := by decide +kernel
theorem dX8_taps_54 : decode cX8_taps 54 = .ok (.aload_n 0, 1) := by decide +kernel
theorem dX8_taps_55 : decode cX8_taps 55 = .ok (.iload_n 1, 1) := by decide +kernel
theorem dX8_taps_56 : decode cX8_taps 56 = .ok (.invokestatic 50, 3) := by decide +kernel
theorem dX8_taps_59 : decode cX8_taps 59 = .ok (.invokevirtual 112, 3) := by decide +kernel
theorem dX8_taps_62 : decode cX8_taps 62 = .ok (.ifCond .ne 9, 3) := by decide +kernel
theorem dX8_taps_65 : decode cX8_taps 65 = .ok (.aload_n 0, 1) := by decide +kernel
theorem dX8_taps_66 : decode cX8_taps 66 = .ok (.iconst 4, 1) := by decide +kernel
theorem dX8_taps_67 : decode cX8_taps 67 = .ok (.invokevirtual 89, 3) := by decide +kernel
theorem dX8_taps_70 : decode cX8_taps 70 = .ok (.ireturn, 1) := by decide +kernel
theorem dX8_taps_71 : decode cX8_taps 71 = .ok (.aload_n 0, 1) := by decide +kernel
theorem dX8_taps_72 : decode cX8_taps 72 = .ok (.iload_n 2, 1) := by decide +kernel
theorem dX8_taps_73 : decode cX8_taps 73 = .ok (.invokestatic 54, 3) := by decide +kernel
theorem dX8_taps_76 : decode cX8_taps 76 = .ok (.invokevirtual 71, 3) := by decide +kernel
theorem dX8_taps_79 : decode cX8_taps 79 = .ok (.iload_n 3, 1) := by decide +kernel
theorem dX8_taps_80 : decode cX8_taps 80 = .ok (.iadd, 1) := by decide +kernel
theorem dX8_taps_81 : decode cX8_taps 81 = .ok (.bipush 40, 2) := by decide +kernel
theorem dX8_taps_83 : decode cX8_taps 83 = .ok (.if_icmp .le 9, 3) := by decide +kernel
theorem dX8_taps_86 : decode cX8_taps 86 = .ok (.aload_n 0, 1) := by decide +kernel
theorem dX8_taps_87 : decode cX8_taps 87 = .ok (.iconst 5, 1) := by decide +kernel
theorem dX8_taps_88 : decode cX8_taps 88 = .ok (.invokevirtual 89, 3) := by decide +kernel
theorem dX8_taps_91 : decode cX8_taps 91 = .ok (.ireturn, 1) := by decide +kernel
theorem dX8_taps_92 : decode cX8_taps 92 = .ok (.aload_n 0, 1) := by decide +kernel
theorem dX8_taps_93 : decode cX8_taps 93 = .ok (.iload_n 1, 1) := by decide +kernel
theorem dX8_taps_94 : decode cX8_taps 94 = .ok (.invokestatic 50, 3) := by decide +kernel
theorem dX8_taps_97 : decode cX8_taps 97 = .ok (.iload_n 3, 1) := by decide +kernel
theorem dX8_taps_98 : decode cX8_taps 98 = .ok (.invokevirtual 118, 3) := by decide +kernel
theorem dX8_taps_101 : decode cX8_taps 101 = .ok (.aload_n 0, 1) := by decide +kernel
theorem dX8_taps_102 : decode cX8_taps 102 = .ok (.iload_n 2, 1) := by decide +kernel
theorem dX8_taps_103 : decode cX8_taps 103 = .ok (.aload_n 0, 1) := by decide +kernel
theorem dX8_taps_104 : decode cX8_taps 104 = .ok (.getfield 16, 3) := by decide +kernel
theorem dX8_taps_107 : decode cX8_taps 107 = .ok (.iload_n 1, 1) := by decide +kernel
theorem dX8_taps_108 : decode cX8_taps 108 = .ok (.invokestatic 50, 3) := by decide +kernel
theorem dX8_taps_111 : decode cX8_taps 111 = .ok (.iconst 4, 1) := by decide +kernel
theorem dX8_taps_112 : decode cX8_taps 112 = .ok (.iadd, 1) := by decide +kernel
theorem dX8_taps_113 : decode cX8_taps 113 = .ok (.iaload, 1) := by decide +kernel
theorem dX8_taps_114 : decode cX8_taps 114 = .ok (.invokevirtual 122, 3) := by decide +kernel
theorem dX8_taps_117 : decode cX8_taps 117 = .ok (.ireturn, 1) := by decide +kernel
theorem dX8_tap_0 : decode cX8_tap 0 = .ok (.aload_n 0, 1) := by decide +kernel
theorem dX8_tap_1 : decode cX8_tap 1 = .ok (.invokevirtual 96, 3) := by decide +kernel
theorem dX8_tap_4 : decode cX8_tap 4 = .ok (.aload_n 0, 1) := by decide +kernel
theorem dX8_tap_5 : decode cX8_tap 5 = .ok (.aload_n 0, 1) := by decide +kernel
theorem dX8_tap_6 : decode cX8_tap 6 = .ok (.iload_n 1, 1) := by decide +kernel
theorem dX8_tap_7 : decode cX8_tap 7 = .ok (.iload_n 2, 1) := by decide +kernel
theorem dX8_tap_8 : decode cX8_tap 8 = .ok (.iload_n 3, 1) := by decide +kernel
theorem dX8_tap_9 : decode cX8_tap 9 = .ok (.invokevirtual 125, 3) := by decide +kernel
theorem dX8_tap_12 : decode cX8_tap 12 = .ok (.invokevirtual 106, 3) := by decide +kernel
theorem dX8_tap_15 : decode cX8_tap 15 = .ok (.ireturn, 1) := by decide +kernel
theorem dX8_backs_0 : decode cX8_backs 0 = .ok (.iload_n 1, 1) := by decide +kernel
theorem dX8_backs_1 : decode cX8_backs 1 = .ok (.invokestatic 85, 3) := by decide +kernel
theorem dX8_backs_4 : decode cX8_backs 4 = .ok (.ifCond .eq 10, 3) := by decide +kernel
theorem dX8_backs_7 : decode cX8_backs 7 = .ok (.iload_n 2, 1) := by decide +kernel
theorem dX8_backs_8 : decode cX8_backs 8 = .ok (.invokestatic 85, 3) := by decide +kernel
theorem dX8_backs_11 : decode cX8_backs 11 = .ok (.ifCond .ne 9, 3) := by decide +kernel
theorem dX8_backs_14 : decode cX8_backs 14 = .ok (.aload_n 0, 1) := by decide +kernel
theorem dX8_backs_15 : decode cX8_backs 15 = .ok (.iconst 1, 1) := by decide +kernel
theorem dX8_backs_16 : decode cX8_backs 16 = .ok (.invokevirtual 89, 3) := by decide +kernel
theorem dX8_backs_19 : decode cX8_backs 19 = .ok (.ireturn, 1) := by decide +kernel
theorem dX8_backs_20 : decode cX8_backs 20 = .ok (.aload_n 0, 1) := by decide +kernel
theorem dX8_backs_21 : decode cX8_backs 21 = .ok (.iload_n 1, 1) := by decide +kernel
theorem dX8_backs_22 : decode cX8_backs 22 = .ok (.invokestatic 54, 3) := by decide +kernel
theorem dX8_backs_25 : decode cX8_backs 25 = .ok (.invokevirtual 71, 3) := by decide +kernel
theorem dX8_backs_28 : decode cX8_backs 28 = .ok (.istore_n 3, 1) := by decide +kernel
theorem dX8_backs_29 : decode cX8_backs 29 = .ok (.aload_n 0, 1) := by decide +kernel
theorem dX8_backs_30 : decode cX8_backs 30 = .ok (.getfield 16, 3) := by decide +kernel
theorem dX8_backs_33 : decode cX8_backs 33 = .ok (.iload_n 1, 1) := by decide +kernel
theorem dX8_backs_34 : decode cX8_backs 34 = .ok (.invokestatic 54, 3) := by decide +kernel
theorem dX8_backs_37 : decode cX8_backs 37 = .ok (.iconst 4, 1) := by decide +kernel
theorem dX8_backs_38 : decode cX8_backs 38 = .ok (.iadd, 1) := by decide +kernel
theorem dX8_backs_39 : decode cX8_backs 39 = .ok (.iaload, 1) := by decide +kernel
theorem dX8_backs_40 : decode cX8_backs 40 = .ok (.istore 4, 2) := by decide +kernel
theorem dX8_backs_42 : decode cX8_backs 42 = .ok (.iload_n 3, 1) := by decide +kernel
theorem dX8_backs_43 : decode cX8_backs 43 = .ok (.ifCond .ne 9, 3) := by decide +kernel
theorem dX8_backs_46 : decode cX8_backs 46 = .ok (.aload_n 0, 1) := by decide +kernel
theorem dX8_backs_47 : decode cX8_backs 47 = .ok (.iconst 2, 1) := by decide +kernel
theorem dX8_backs_48 : decode cX8_backs 48 = .ok (.invokevirtual 89, 3) := by decide +kernel
theorem dX8_backs_51 : decode cX8_backs 51 = .ok (.ireturn, 1) := by decide +kernel
theorem dX8_backs_52 : decode cX8_backs 52 = .ok (.aload_n 0, 1) := by decide +kernel
theorem dX8_backs_53 : decode cX8_backs 53 = .ok (.iload_n 2, 1) := by decide +kernel
theorem dX8_backs_54 : decode cX8_backs 54 = .ok (.invokestatic 50, 3) := by decide +kernel
theorem dX8_backs_57 : decode cX8_backs 57 = .ok (.invokevirtual 71, 3) := by decide +kernel
theorem dX8_backs_60 : decode cX8_backs 60 = .ok (.iload_n 3, 1) := by decide +kernel
theorem dX8_backs_61 : decode cX8_backs 61 = .ok (.iadd, 1) := by decide +kernel
theorem dX8_backs_62 : decode cX8_backs 62 = .ok (.bipush 100, 2) := by decide +kernel
theorem dX8_backs_64 : decode cX8_backs 64 = .ok (.if_icmp .le 9, 3) := by decide +kernel
theorem dX8_backs_67 : decode cX8_backs 67 = .ok (.aload_n 0, 1) := by decide +kernel
theorem dX8_backs_68 : decode cX8_backs 68 = .ok (.iconst 3, 1) := by decide +kernel
theorem dX8_backs_69 : decode cX8_backs 69 = .ok (.invokevirtual 89, 3) := by decide +kernel
theorem dX8_backs_72 : decode cX8_backs 72 = .ok (.ireturn, 1) := by decide +kernel
theorem dX8_backs_73 : decode cX8_backs 73 = .ok (.aload_n 0, 1) := by decide +kernel
theorem dX8_backs_74 : decode cX8_backs 74 = .ok (.iload_n 1, 1) := by decide +kernel
theorem dX8_backs_75 : decode cX8_backs 75 = .ok (.invokestatic 54, 3) := by decide +kernel
theorem dX8_backs_78 : decode cX8_backs 78 = .ok (.iload_n 3, 1) := by decide +kernel
theorem dX8_backs_79 : decode cX8_backs 79 = .ok (.invokevirtual 118, 3) := by decide +kernel
theorem dX8_backs_82 : decode cX8_backs 82 = .ok (.aload_n 0, 1) := by decide +kernel
theorem dX8_backs_83 : decode cX8_backs 83 = .ok (.iload_n 1, 1) := by decide +kernel
theorem dX8_backs_84 : decode cX8_backs 84 = .ok (.invokevirtual 128, 3) := by decide +kernel
theorem dX8_backs_87 : decode cX8_backs 87 = .ok (.aload_n 0, 1) := by decide +kernel
theorem dX8_backs_88 : decode cX8_backs 88 = .ok (.iload_n 2, 1) := by decide +kernel
theorem dX8_backs_89 : decode cX8_backs 89 = .ok (.iload 4, 2) := by decide +kernel
theorem dX8_backs_91 : decode cX8_backs 91 = .ok (.invokevirtual 92, 3) := by decide +kernel
theorem dX8_backs_94 : decode cX8_backs 94 = .ok (.ireturn, 1) := by decide +kernel
theorem dX8_pourBack_0 : decode cX8_pourBack 0 = .ok (.aload_n 0, 1) := by decide +kernel
theorem dX8_pourBack_1 : decode cX8_pourBack 1 = .ok (.invokevirtual 96, 3) := by decide +kernel
theorem dX8_pourBack_4 : decode cX8_pourBack 4 = .ok (.aload_n 0, 1) := by decide +kernel
theorem dX8_pourBack_5 : decode cX8_pourBack 5 = .ok (.aload_n 0, 1) := by decide +kernel
theorem dX8_pourBack_6 : decode cX8_pourBack 6 = .ok (.iload_n 1, 1) := by decide +kernel
theorem dX8_pourBack_7 : decode cX8_pourBack 7 = .ok (.iload_n 2, 1) := by decide +kernel
theorem dX8_pourBack_8 : decode cX8_pourBack 8 = .ok (.invokevirtual 131, 3) := by decide +kernel
theorem dX8_pourBack_11 : decode cX8_pourBack 11 = .ok (.invokevirtual 106, 3) := by decide +kernel
theorem dX8_pourBack_14 : decode cX8_pourBack 14 = .ok (.ireturn, 1) := by decide +kernel
theorem dX8_addsMould_0 : decode cX8_addsMould 0 = .ok (.iload_n 1, 1) := by decide +kernel
theorem dX8_addsMould_1 : decode cX8_addsMould 1 = .ok (.iconst 1, 1) := by decide +kernel
theorem dX8_addsMould_2 : decode cX8_addsMould 2 = .ok (.bipush 40, 2) := by decide +kernel
theorem dX8_addsMould_4 : decode cX8_addsMould 4 = .ok (.invokestatic 67, 3) := by decide +kernel
theorem dX8_addsMould_7 : decode cX8_addsMould 7 = .ok (.ifCond .ne 9, 3) := by decide +kernel
theorem dX8_addsMould_10 : decode cX8_addsMould 10 = .ok (.aload_n 0, 1) := by decide +kernel
theorem dX8_addsMould_11 : decode cX8_addsMould 11 = .ok (.iconst 1, 1) := by decide +kernel
theorem dX8_addsMould_12 : decode cX8_addsMould 12 = .ok (.invokevirtual 89, 3) := by decide +kernel
theorem dX8_addsMould_15 : decode cX8_addsMould 15 = .ok (.ireturn, 1) := by decide +kernel
theorem dX8_addsMould_16 : decode cX8_addsMould 16 = .ok (.aload_n 0, 1) := by decide +kernel
theorem dX8_addsMould_17 : decode cX8_addsMould 17 = .ok (.getfield 16, 3) := by decide +kernel
theorem dX8_addsMould_20 : decode cX8_addsMould 20 = .ok (.bipush 42, 2) := by decide +kernel
theorem dX8_addsMould_22 : decode cX8_addsMould 22 = .ok (.iaload, 1) := by decide +kernel
theorem dX8_addsMould_23 : decode cX8_addsMould 23 = .ok (.istore_n 2, 1) := by decide +kernel
theorem dX8_addsMould_24 : decode cX8_addsMould 24 = .ok (.iload_n 2, 1) := by decide +kernel
theorem dX8_addsMould_25 : decode cX8_addsMould 25 = .ok (.bipush 6, 2) := by decide +kernel
theorem dX8_addsMould_27 : decode cX8_addsMould 27 = .ok (.if_icmp .ne 9, 3) := by decide +kernel
theorem dX8_addsMould_30 : decode cX8_addsMould 30 = .ok (.aload_n 0, 1) := by decide +kernel
theorem dX8_addsMould_31 : decode cX8_addsMould 31 = .ok (.iconst 2, 1) := by decide +kernel
theorem dX8_addsMould_32 : decode cX8_addsMould 32 = .ok (.invokevirtual 89, 3) := by decide +kernel
theorem dX8_addsMould_35 : decode cX8_addsMould 35 = .ok (.ireturn, 1) := by decide +kernel
theorem dX8_addsMould_36 : decode cX8_addsMould 36 = .ok (.iconst 0, 1) := by decide +kernel
theorem dX8_addsMould_37 : decode cX8_addsMould 37 = .ok (.istore_n 3, 1) := by decide +kernel
theorem dX8_addsMould_38 : decode cX8_addsMould 38 = .ok (.iload_n 3, 1) := by decide +kernel
theorem dX8_addsMould_39 : decode cX8_addsMould 39 = .ok (.bipush 6, 2) := by decide +kernel
theorem dX8_addsMould_41 : decode cX8_addsMould 41 = .ok (.if_icmp .ge 30, 3) := by decide +kernel
theorem dX8_addsMould_44 : decode cX8_addsMould 44 = .ok (.aload_n 0, 1) := by decide +kernel
theorem dX8_addsMould_45 : decode cX8_addsMould 45 = .ok (.getfield 16, 3) := by decide +kernel
theorem dX8_addsMould_48 : decode cX8_addsMould 48 = .ok (.iload_n 2, 1) := by decide +kernel
theorem dX8_addsMould_49 : decode cX8_addsMould 49 = .ok (.invokestatic 134, 3) := by decide +kernel
theorem dX8_addsMould_52 : decode cX8_addsMould 52 = .ok (.iload_n 3, 1) := by decide +kernel
theorem dX8_addsMould_53 : decode cX8_addsMould 53 = .ok (.iadd, 1) := by decide +kernel
theorem dX8_addsMould_54 : decode cX8_addsMould 54 = .ok (.iload_n 3, 1) := by decide +kernel
theorem dX8_addsMould_55 : decode cX8_addsMould 55 = .ok (.iconst 4, 1) := by decide +kernel
theorem dX8_addsMould_56 : decode cX8_addsMould 56 = .ok (.if_icmp .ne 7, 3) := by decide +kernel
theorem dX8_addsMould_59 : decode cX8_addsMould 59 = .ok (.iload_n 1, 1) := by decide +kernel
theorem dX8_addsMould_60 : decode cX8_addsMould 60 = .ok (.goto 4, 3) := by decide +kernel
theorem dX8_addsMould_63 : decode cX8_addsMould 63 = .ok (.iconst 0, 1) := by decide +kernel
theorem dX8_addsMould_64 : decode cX8_addsMould 64 = .ok (.iastore, 1) := by decide +kernel
theorem dX8_addsMould_65 : decode cX8_addsMould 65 = .ok (.iinc 3 1, 3) := by decide +kernel
theorem dX8_addsMould_68 : decode cX8_addsMould 68 = .ok (.goto (-30), 3) := by decide +kernel
theorem dX8_addsMould_71 : decode cX8_addsMould 71 = .ok (.aload_n 0, 1) := by decide +kernel
theorem dX8_addsMould_72 : decode cX8_addsMould 72 = .ok (.getfield 16, 3) := by decide +kernel
theorem dX8_addsMould_75 : decode cX8_addsMould 75 = .ok (.bipush 42, 2) := by decide +kernel
theorem dX8_addsMould_77 : decode cX8_addsMould 77 = .ok (.dup2, 1) := by decide +kernel
theorem dX8_addsMould_78 : decode cX8_addsMould 78 = .ok (.iaload, 1) := by decide +kernel
theorem dX8_addsMould_79 : decode cX8_addsMould 79 = .ok (.iconst 1, 1) := by decide +kernel
theorem dX8_addsMould_80 : decode cX8_addsMould 80 = .ok (.iadd, 1) := by decide +kernel
theorem dX8_addsMould_81 : decode cX8_addsMould 81 = .ok (.iastore, 1) := by decide +kernel
theorem dX8_addsMould_82 : decode cX8_addsMould 82 = .ok (.iload_n 2, 1) := by decide +kernel
theorem dX8_addsMould_83 : decode cX8_addsMould 83 = .ok (.ireturn, 1) := by decide +kernel
theorem dX8_addMould_0 : decode cX8_addMould 0 = .ok (.aload_n 0, 1) := by decide +kernel
theorem dX8_addMould_1 : decode cX8_addMould 1 = .ok (.invokevirtual 96, 3) := by decide +kernel
theorem dX8_addMould_4 : decode cX8_addMould 4 = .ok (.aload_n 0, 1) := by decide +kernel
theorem dX8_addMould_5 : decode cX8_addMould 5 = .ok (.aload_n 0, 1) := by decide +kernel
theorem dX8_addMould_6 : decode cX8_addMould 6 = .ok (.iload_n 1, 1) := by decide +kernel
theorem dX8_addMould_7 : decode cX8_addMould 7 = .ok (.invokevirtual 137, 3) := by decide +kernel
theorem dX8_addMould_10 : decode cX8_addMould 10 = .ok (.invokevirtual 106, 3) := by decide +kernel
theorem dX8_addMould_13 : decode cX8_addMould 13 = .ok (.ireturn, 1) := by decide +kernel
theorem dX8_pours_0 : decode cX8_pours 0 = .ok (.iload_n 1, 1) := by decide +kernel
theorem dX8_pours_1 : decode cX8_pours 1 = .ok (.invokestatic 85, 3) := by decide +kernel
theorem dX8_pours_4 : decode cX8_pours 4 = .ok (.ifCond .eq 11, 3) := by decide +kernel
theorem dX8_pours_7 : decode cX8_pours 7 = .ok (.aload_n 0, 1) := by decide +kernel
theorem dX8_pours_8 : decode cX8_pours 8 = .ok (.iload_n 2, 1) := by decide +kernel
theorem dX8_pours_9 : decode cX8_pours 9 = .ok (.invokevirtual 140, 3) := by decide +kernel
theorem dX8_pours_12 : decode cX8_pours 12 = .ok (.ifCond .ne 9, 3) := by decide +kernel
theorem dX8_pours_15 : decode cX8_pours 15 = .ok (.aload_n 0, 1) := by decide +kernel
theorem dX8_pours_16 : decode cX8_pours 16 = .ok (.iconst 1, 1) := by decide +kernel
theorem dX8_pours_17 : decode cX8_pours 17 = .ok (.invokevirtual 89, 3) := by decide +kernel
theorem dX8_pours_20 : decode cX8_pours 20 = .ok (.ireturn, 1) := by decide +kernel
theorem dX8_pours_21 : decode cX8_pours 21 = .ok (.iload_n 2, 1) := by decide +kernel
theorem dX8_pours_22 : decode cX8_pours 22 = .ok (.invokestatic 134, 3) := by decide +kernel
theorem dX8_pours_25 : decode cX8_pours 25 = .ok (.istore_n 3, 1) := by decide +kernel
theorem dX8_pours_26 : decode cX8_pours 26 = .ok (.aload_n 0, 1) := by decide +kernel
theorem dX8_pours_27 : decode cX8_pours 27 = .ok (.getfield 16, 3) := by decide +kernel
theorem dX8_pours_30 : decode cX8_pours 30 = .ok (.iload_n 3, 1) := by decide +kernel
theorem dX8_pours_31 : decode cX8_pours 31 = .ok (.iconst 4, 1) := by decide +kernel
theorem dX8_pours_32 : decode cX8_pours 32 = .ok (.iadd, 1) := by decide +kernel
theorem dX8_pours_33 : decode cX8_pours 33 = .ok (.iaload, 1) := by decide +kernel
theorem dX8_pours_34 : decode cX8_pours 34 = .ok (.istore 4, 2) := by decide +kernel
theorem dX8_pours_36 : decode cX8_pours 36 = .ok (.aload_n 0, 1) := by decide +kernel
theorem dX8_pours_37 : decode cX8_pours 37 = .ok (.getfield 16, 3) := by decide +kernel
theorem dX8_pours_40 : decode cX8_pours 40 = .ok (.iload_n 3, 1) := by decide +kernel
theorem dX8_pours_41 : decode cX8_pours 41 = .ok (.iconst 5, 1) := by decide +kernel
theorem dX8_pours_42 : decode cX8_pours 42 = .ok (.iadd, 1) := by decide +kernel
theorem dX8_pours_43 : decode cX8_pours 43 = .ok (.iaload, 1) := by decide +kernel
theorem dX8_pours_44 : decode cX8_pours 44 = .ok (.iconst 1, 1) := by decide +kernel
theorem dX8_pours_45 : decode cX8_pours 45 = .ok (.if_icmp .ne 9, 3) := by decide +kernel
theorem dX8_pours_48 : decode cX8_pours 48 = .ok (.aload_n 0, 1) := by decide +kernel
theorem dX8_pours_49 : decode cX8_pours 49 = .ok (.iconst 2, 1) := by decide +kernel
theorem dX8_pours_50 : decode cX8_pours 50 = .ok (.invokevirtual 89, 3) := by decide +kernel
theorem dX8_pours_53 : decode cX8_pours 53 = .ok (.ireturn, 1) := by decide +kernel
theorem dX8_pours_54 : decode cX8_pours 54 = .ok (.aload_n 0, 1) := by decide +kernel
theorem dX8_pours_55 : decode cX8_pours 55 = .ok (.iload_n 1, 1) := by decide +kernel
theorem dX8_pours_56 : decode cX8_pours 56 = .ok (.invokestatic 54, 3) := by decide +kernel
theorem dX8_pours_59 : decode cX8_pours 59 = .ok (.invokevirtual 71, 3) := by decide +kernel
theorem dX8_pours_62 : decode cX8_pours 62 = .ok (.iload 4, 2) := by decide +kernel
theorem dX8_pours_64 : decode cX8_pours 64 = .ok (.if_icmp .ge 9, 3) := by decide +kernel
theorem dX8_pours_67 : decode cX8_pours 67 = .ok (.aload_n 0, 1) := by decide +kernel
theorem dX8_pours_68 : decode cX8_pours 68 = .ok (.iconst 3, 1) := by decide +kernel
theorem dX8_pours_69 : decode cX8_pours 69 = .ok (.invokevirtual 89, 3) := by decide +kernel
theorem dX8_pours_72 : decode cX8_pours 72 = .ok (.ireturn, 1) := by decide +kernel
theorem dX8_pours_73 : decode cX8_pours 73 = .ok (.aload_n 0, 1) := by decide +kernel
theorem dX8_pours_74 : decode cX8_pours 74 = .ok (.iload_n 1, 1) := by decide +kernel
theorem dX8_pours_75 : decode cX8_pours 75 = .ok (.invokestatic 54, 3) := by decide +kernel
theorem dX8_pours_78 : decode cX8_pours 78 = .ok (.invokevirtual 112, 3) := by decide +kernel
theorem dX8_pours_81 : decode cX8_pours 81 = .ok (.ifCond .ne 9, 3) := by decide +kernel
theorem dX8_pours_84 : decode cX8_pours 84 = .ok (.aload_n 0, 1) := by decide +kernel
theorem dX8_pours_85 : decode cX8_pours 85 = .ok (.iconst 4, 1) := by decide +kernel
theorem dX8_pours_86 : decode cX8_pours 86 = .ok (.invokevirtual 89, 3) := by decide +kernel
theorem dX8_pours_89 : decode cX8_pours 89 = .ok (.ireturn, 1) := by decide +kernel
theorem dX8_pours_90 : decode cX8_pours 90 = .ok (.aload_n 0, 1) := by decide +kernel
theorem dX8_pours_91 : decode cX8_pours 91 = .ok (.iload_n 1, 1) := by decide +kernel
theorem dX8_pours_92 : decode cX8_pours 92 = .ok (.invokestatic 54, 3) := by decide +kernel
theorem dX8_pours_95 : decode cX8_pours 95 = .ok (.iload 4, 2) := by decide +kernel
theorem dX8_pours_97 : decode cX8_pours 97 = .ok (.invokevirtual 118, 3) := by decide +kernel
theorem dX8_pours_100 : decode cX8_pours 100 = .ok (.aload_n 0, 1) := by decide +kernel
theorem dX8_pours_101 : decode cX8_pours 101 = .ok (.iload_n 3, 1) := by decide +kernel
theorem dX8_pours_102 : decode cX8_pours 102 = .ok (.invokevirtual 81, 3) := by decide +kernel
theorem dX8_pours_105 : decode cX8_pours 105 = .ok (.aload_n 0, 1) := by decide +kernel
theorem dX8_pours_106 : decode cX8_pours 106 = .ok (.getfield 16, 3) := by decide +kernel
theorem dX8_pours_109 : decode cX8_pours 109 = .ok (.iload_n 3, 1) := by decide +kernel
theorem dX8_pours_110 : decode cX8_pours 110 = .ok (.iconst 5, 1) := by decide +kernel
theorem dX8_pours_111 : decode cX8_pours 111 = .ok (.iadd, 1) := by decide +kernel
theorem dX8_pours_112 : decode cX8_pours 112 = .ok (.iconst 1, 1) := by decide +kernel
theorem dX8_pours_113 : decode cX8_pours 113 = .ok (.iastore, 1) := by decide +kernel
theorem dX8_pours_114 : decode cX8_pours 114 = .ok (.aload_n 0, 1) := by decide +kernel
theorem dX8_pours_115 : decode cX8_pours 115 = .ok (.iload_n 1, 1) := by decide +kernel
theorem dX8_pours_116 : decode cX8_pours 116 = .ok (.invokevirtual 128, 3) := by decide +kernel
theorem dX8_pours_119 : decode cX8_pours 119 = .ok (.aload_n 0, 1) := by decide +kernel
theorem dX8_pours_120 : decode cX8_pours 120 = .ok (.iload_n 1, 1) := by decide +kernel
theorem dX8_pours_121 : decode cX8_pours 121 = .ok (.invokestatic 54, 3) := by decide +kernel
theorem dX8_pours_124 : decode cX8_pours 124 = .ok (.invokevirtual 71, 3) := by decide +kernel
theorem dX8_pours_127 : decode cX8_pours 127 = .ok (.ireturn, 1) := by decide +kernel
theorem dX8_pour_0 : decode cX8_pour 0 = .ok (.aload_n 0, 1) := by decide +kernel
theorem dX8_pour_1 : decode cX8_pour 1 = .ok (.invokevirtual 96, 3) := by decide +kernel
theorem dX8_pour_4 : decode cX8_pour 4 = .ok (.aload_n 0, 1) := by decide +kernel
theorem dX8_pour_5 : decode cX8_pour 5 = .ok (.aload_n 0, 1) := by decide +kernel
theorem dX8_pour_6 : decode cX8_pour 6 = .ok (.iload_n 1, 1) := by decide +kernel
theorem dX8_pour_7 : decode cX8_pour 7 = .ok (.iload_n 2, 1) := by decide +kernel
theorem dX8_pour_8 : decode cX8_pour 8 = .ok (.invokevirtual 143, 3) := by decide +kernel
theorem dX8_pour_11 : decode cX8_pour 11 = .ok (.invokevirtual 106, 3) := by decide +kernel
theorem dX8_pour_14 : decode cX8_pour 14 = .ok (.ireturn, 1) := by decide +kernel
theorem dX8_breaks_0 : decode cX8_breaks 0 = .ok (.aload_n 0, 1) := by decide +kernel
theorem dX8_breaks_1 : decode cX8_breaks 1 = .ok (.iload_n 1, 1) := by decide +kernel
theorem dX8_breaks_2 : decode cX8_breaks 2 = .ok (.invokevirtual 140, 3) := by decide +kernel
theorem dX8_breaks_5 : decode cX8_breaks 5 = .ok (.ifCond .ne 9, 3) := by decide +kernel
theorem dX8_breaks_8 : decode cX8_breaks 8 = .ok (.aload_n 0, 1) := by decide +kernel
theorem dX8_breaks_9 : decode cX8_breaks 9 = .ok (.iconst 1, 1) := by decide +kernel
theorem dX8_breaks_10 : decode cX8_breaks 10 = .ok (.invokevirtual 89, 3) := by decide +kernel
theorem dX8_breaks_13 : decode cX8_breaks 13 = .ok (.ireturn, 1) := by decide +kernel
theorem dX8_breaks_14 : decode cX8_breaks 14 = .ok (.iload_n 1, 1) := by decide +kernel
theorem dX8_breaks_15 : decode cX8_breaks 15 = .ok (.invokestatic 134, 3) := by decide +kernel
theorem dX8_breaks_18 : decode cX8_breaks 18 = .ok (.istore_n 2, 1) := by decide +kernel
theorem dX8_breaks_19 : decode cX8_breaks 19 = .ok (.aload_n 0, 1) := by decide +kernel
theorem dX8_breaks_20 : decode cX8_breaks 20 = .ok (.getfield 16, 3) := by decide +kernel
theorem dX8_breaks_23 : decode cX8_breaks 23 = .ok (.bipush 43, 2) := by decide +kernel
theorem dX8_breaks_25 : decode cX8_breaks 25 = .ok (.iaload, 1) := by decide +kernel
theorem dX8_breaks_26 : decode cX8_breaks 26 = .ok (.istore_n 3, 1) := by decide +kernel
theorem dX8_breaks_27 : decode cX8_breaks 27 = .ok (.aload_n 0, 1) := by decide +kernel
theorem dX8_breaks_28 : decode cX8_breaks 28 = .ok (.getfield 16, 3) := by decide +kernel
theorem dX8_breaks_31 : decode cX8_breaks 31 = .ok (.iload_n 2, 1) := by decide +kernel
theorem dX8_breaks_32 : decode cX8_breaks 32 = .ok (.iconst 5, 1) := by decide +kernel
theorem dX8_breaks_33 : decode cX8_breaks 33 = .ok (.iadd, 1) := by decide +kernel
theorem dX8_breaks_34 : decode cX8_breaks 34 = .ok (.iaload, 1) := by decide +kernel
theorem dX8_breaks_35 : decode cX8_breaks 35 = .ok (.ifCond .ne 9, 3) := by decide +kernel
theorem dX8_breaks_38 : decode cX8_breaks 38 = .ok (.aload_n 0, 1) := by decide +kernel
theorem dX8_breaks_39 : decode cX8_breaks 39 = .ok (.iconst 2, 1) := by decide +kernel
theorem dX8_breaks_40 : decode cX8_breaks 40 = .ok (.invokevirtual 89, 3) := by decide +kernel
theorem dX8_breaks_43 : decode cX8_breaks 43 = .ok (.ireturn, 1) := by decide +kernel
theorem dX8_breaks_44 : decode cX8_breaks 44 = .ok (.iload_n 3, 1) := by decide +kernel
theorem dX8_breaks_45 : decode cX8_breaks 45 = .ok (.bipush 12, 2) := by decide +kernel
theorem dX8_breaks_47 : decode cX8_breaks 47 = .ok (.if_icmp .ne 9, 3) := by decide +kernel
theorem dX8_breaks_50 : decode cX8_breaks 50 = .ok (.aload_n 0, 1) := by decide +kernel
theorem dX8_breaks_51 : decode cX8_breaks 51 = .ok (.iconst 3, 1) := by decide +kernel
theorem dX8_breaks_52 : decode cX8_breaks 52 = .ok (.invokevirtual 89, 3) := by decide +kernel
theorem dX8_breaks_55 : decode cX8_breaks 55 = .ok (.ireturn, 1) := by decide +kernel
theorem dX8_breaks_56 : decode cX8_breaks 56 = .ok (.iconst 0, 1) := by decide +kernel
theorem dX8_breaks_57 : decode cX8_breaks 57 = .ok (.istore 4, 2) := by decide +kernel
theorem dX8_breaks_59 : decode cX8_breaks 59 = .ok (.iload 4, 2) := by decide +kernel
theorem dX8_breaks_61 : decode cX8_breaks 61 = .ok (.iconst 4, 1) := by decide +kernel
theorem dX8_breaks_62 : decode cX8_breaks 62 = .ok (.if_icmp .ge 40, 3) := by decide +kernel
theorem dX8_breaks_65 : decode cX8_breaks 65 = .ok (.aload_n 0, 1) := by decide +kernel
theorem dX8_breaks_66 : decode cX8_breaks 66 = .ok (.getfield 16, 3) := by decide +kernel
theorem dX8_breaks_69 : decode cX8_breaks 69 = .ok (.iload_n 3, 1) := by decide +kernel
theorem dX8_breaks_70 : decode cX8_breaks 70 = .ok (.invokestatic 146, 3) := by decide +kernel
theorem dX8_breaks_73 : decode cX8_breaks 73 = .ok (.iload 4, 2) := by decide +kernel
theorem dX8_breaks_75 : decode cX8_breaks 75 = .ok (.iadd, 1) := by decide +kernel
theorem dX8_breaks_76 : decode cX8_breaks 76 = .ok (.aload_n 0, 1) := by decide +kernel
theorem dX8_breaks_77 : decode cX8_breaks 77 = .ok (.getfield 16, 3) := by decide +kernel
theorem dX8_breaks_80 : decode cX8_breaks 80 = .ok (.iload_n 2, 1) := by decide +kernel
theorem dX8_breaks_81 : decode cX8_breaks 81 = .ok (.iload 4, 2) := by decide +kernel
theorem dX8_breaks_83 : decode cX8_breaks 83 = .ok (.iadd, 1) := by decide +kernel
theorem dX8_breaks_84 : decode cX8_breaks 84 = .ok (.iaload, 1) := by decide +kernel
theorem dX8_breaks_85 : decode cX8_breaks 85 = .ok (.iastore, 1) := by decide +kernel
theorem dX8_breaks_86 : decode cX8_breaks 86 = .ok (.aload_n 0, 1) := by decide +kernel
theorem dX8_breaks_87 : decode cX8_breaks 87 = .ok (.getfield 16, 3) := by decide +kernel
theorem dX8_breaks_90 : decode cX8_breaks 90 = .ok (.iload_n 2, 1) := by decide +kernel
theorem dX8_breaks_91 : decode cX8_breaks 91 = .ok (.iload 4, 2) := by decide +kernel
theorem dX8_breaks_93 : decode cX8_breaks 93 = .ok (.iadd, 1) := by decide +kernel
theorem dX8_breaks_94 : decode cX8_breaks 94 = .ok (.iconst 0, 1) := by decide +kernel
theorem dX8_breaks_95 : decode cX8_breaks 95 = .ok (.iastore, 1) := by decide +kernel
theorem dX8_breaks_96 : decode cX8_breaks 96 = .ok (.iinc 4 1, 3) := by decide +kernel
theorem dX8_breaks_99 : decode cX8_breaks 99 = .ok (.goto (-40), 3) := by decide +kernel
theorem dX8_breaks_102 : decode cX8_breaks 102 = .ok (.aload_n 0, 1) := by decide +kernel
theorem dX8_breaks_103 : decode cX8_breaks 103 = .ok (.getfield 16, 3) := by decide +kernel
theorem dX8_breaks_106 : decode cX8_breaks 106 = .ok (.iload_n 2, 1) := by decide +kernel
theorem dX8_breaks_107 : decode cX8_breaks 107 = .ok (.iconst 5, 1) := by decide +kernel
theorem dX8_breaks_108 : decode cX8_breaks 108 = .ok (.iadd, 1) := by decide +kernel
theorem dX8_breaks_109 : decode cX8_breaks 109 = .ok (.iconst 0, 1) := by decide +kernel
theorem dX8_breaks_110 : decode cX8_breaks 110 = .ok (.iastore, 1) := by decide +kernel
theorem dX8_breaks_111 : decode cX8_breaks 111 = .ok (.aload_n 0, 1) := by decide +kernel
theorem dX8_breaks_112 : decode cX8_breaks 112 = .ok (.getfield 16, 3) := by decide +kernel
theorem dX8_breaks_115 : decode cX8_breaks 115 = .ok (.bipush 43, 2) := by decide +kernel
theorem dX8_breaks_117 : decode cX8_breaks 117 = .ok (.dup2, 1) := by decide +kernel
theorem dX8_breaks_118 : decode cX8_breaks 118 = .ok (.iaload, 1) := by decide +kernel
theorem dX8_breaks_119 : decode cX8_breaks 119 = .ok (.iconst 1, 1) := by decide +kernel
theorem dX8_breaks_120 : decode cX8_breaks 120 = .ok (.iadd, 1) := by decide +kernel
theorem dX8_breaks_121 : decode cX8_breaks 121 = .ok (.iastore, 1) := by decide +kernel
theorem dX8_breaks_122 : decode cX8_breaks 122 = .ok (.iload_n 3, 1) := by decide +kernel
theorem dX8_breaks_123 : decode cX8_breaks 123 = .ok (.ireturn, 1) := by decide +kernel
theorem dX8_breakOut_0 : decode cX8_breakOut 0 = .ok (.aload_n 0, 1) := by decide +kernel
theorem dX8_breakOut_1 : decode cX8_breakOut 1 = .ok (.invokevirtual 96, 3) := by decide +kernel
theorem dX8_breakOut_4 : decode cX8_breakOut 4 = .ok (.aload_n 0, 1) := by decide +kernel
theorem dX8_breakOut_5 : decode cX8_breakOut 5 = .ok (.aload_n 0, 1) := by decide +kernel
theorem dX8_breakOut_6 : decode cX8_breakOut 6 = .ok (.iload_n 1, 1) := by decide +kernel
theorem dX8_breakOut_7 : decode cX8_breakOut 7 = .ok (.invokevirtual 149, 3) := by decide +kernel
theorem dX8_breakOut_10 : decode cX8_breakOut 10 = .ok (.invokevirtual 106, 3) := by decide +kernel
theorem dX8_breakOut_13 : decode cX8_breakOut 13 = .ok (.ireturn, 1) := by decide +kernel
theorem dX8_melts_0 : decode cX8_melts 0 = .ok (.aload_n 0, 1) := by decide +kernel
theorem dX8_melts_1 : decode cX8_melts 1 = .ok (.iload_n 1, 1) := by decide +kernel
theorem dX8_melts_2 : decode cX8_melts 2 = .ok (.invokevirtual 152, 3) := by decide +kernel
theorem dX8_melts_5 : decode cX8_melts 5 = .ok (.ifCond .eq 10, 3) := by decide +kernel
theorem dX8_melts_8 : decode cX8_melts 8 = .ok (.iload_n 2, 1) := by decide +kernel
theorem dX8_melts_9 : decode cX8_melts 9 = .ok (.invokestatic 85, 3) := by decide +kernel
theorem dX8_melts_12 : decode cX8_melts 12 = .ok (.ifCond .ne 9, 3) := by decide +kernel
theorem dX8_melts_15 : decode cX8_melts 15 = .ok (.aload_n 0, 1) := by decide +kernel
theorem dX8_melts_16 : decode cX8_melts 16 = .ok (.iconst 1, 1) := by decide +kernel
theorem dX8_melts_17 : decode cX8_melts 17 = .ok (.invokevirtual 89, 3) := by decide +kernel
theorem dX8_melts_20 : decode cX8_melts 20 = .ok (.ireturn, 1) := by decide +kernel
theorem dX8_melts_21 : decode cX8_melts 21 = .ok (.aload_n 0, 1) := by decide +kernel
theorem dX8_melts_22 : decode cX8_melts 22 = .ok (.iload_n 2, 1) := by decide +kernel
theorem dX8_melts_23 : decode cX8_melts 23 = .ok (.invokestatic 50, 3) := by decide +kernel
theorem dX8_melts_26 : decode cX8_melts 26 = .ok (.invokevirtual 71, 3) := by decide +kernel
theorem dX8_melts_29 : decode cX8_melts 29 = .ok (.aload_n 0, 1) := by decide +kernel
theorem dX8_melts_30 : decode cX8_melts 30 = .ok (.iload_n 1, 1) := by decide +kernel
theorem dX8_melts_31 : decode cX8_melts 31 = .ok (.invokestatic 146, 3) := by decide +kernel
theorem dX8_melts_34 : decode cX8_melts 34 = .ok (.invokevirtual 71, 3) := by decide +kernel
theorem dX8_melts_37 : decode cX8_melts 37 = .ok (.iadd, 1) := by decide +kernel
theorem dX8_melts_38 : decode cX8_melts 38 = .ok (.bipush 100, 2) := by decide +kernel
theorem dX8_melts_40 : decode cX8_melts 40 = .ok (.if_icmp .le 9, 3) := by decide +kernel
theorem dX8_melts_43 : decode cX8_melts 43 = .ok (.aload_n 0, 1) := by decide +kernel
theorem dX8_melts_44 : decode cX8_melts 44 = .ok (.iconst 2, 1) := by decide +kernel
theorem dX8_melts_45 : decode cX8_melts 45 = .ok (.invokevirtual 89, 3) := by decide +kernel
theorem dX8_melts_48 : decode cX8_melts 48 = .ok (.ireturn, 1) := by decide +kernel
theorem dX8_melts_49 : decode cX8_melts 49 = .ok (.iconst 0, 1) := by decide +kernel
theorem dX8_melts_50 : decode cX8_melts 50 = .ok (.istore_n 3, 1) := by decide +kernel
theorem dX8_melts_51 : decode cX8_melts 51 = .ok (.iload_n 3, 1) := by decide +kernel
theorem dX8_melts_52 : decode cX8_melts 52 = .ok (.iconst 4, 1) := by decide +kernel
theorem dX8_melts_53 : decode cX8_melts 53 = .ok (.if_icmp .ge 26, 3) := by decide +kernel
theorem dX8_melts_56 : decode cX8_melts 56 = .ok (.aload_n 0, 1) := by decide +kernel
theorem dX8_melts_57 : decode cX8_melts 57 = .ok (.getfield 29, 3) := by decide +kernel
theorem dX8_melts_60 : decode cX8_melts 60 = .ok (.iload_n 3, 1) := by decide +kernel
theorem dX8_melts_61 : decode cX8_melts 61 = .ok (.aload_n 0, 1) := by decide +kernel
theorem dX8_melts_62 : decode cX8_melts 62 = .ok (.getfield 16, 3) := by decide +kernel
theorem dX8_melts_65 : decode cX8_melts 65 = .ok (.iload_n 1, 1) := by decide +kernel
theorem dX8_melts_66 : decode cX8_melts 66 = .ok (.invokestatic 146, 3) := by decide +kernel
theorem dX8_melts_69 : decode cX8_melts 69 = .ok (.iload_n 3, 1) := by decide +kernel
theorem dX8_melts_70 : decode cX8_melts 70 = .ok (.iadd, 1) := by decide +kernel
theorem dX8_melts_71 : decode cX8_melts 71 = .ok (.iaload, 1) := by decide +kernel
theorem dX8_melts_72 : decode cX8_melts 72 = .ok (.iastore, 1) := by decide +kernel
theorem dX8_melts_73 : decode cX8_melts 73 = .ok (.iinc 3 1, 3) := by decide +kernel
theorem dX8_melts_76 : decode cX8_melts 76 = .ok (.goto (-25), 3) := by decide +kernel
theorem dX8_melts_79 : decode cX8_melts 79 = .ok (.iload_n 1, 1) := by decide +kernel
theorem dX8_melts_80 : decode cX8_melts 80 = .ok (.invokestatic 146, 3) := by decide +kernel
theorem dX8_melts_83 : decode cX8_melts 83 = .ok (.istore_n 3, 1) := by decide +kernel
theorem dX8_melts_84 : decode cX8_melts 84 = .ok (.iload_n 3, 1) := by decide +kernel
theorem dX8_melts_85 : decode cX8_melts 85 = .ok (.sipush 128, 3) := by decide +kernel
theorem dX8_melts_88 : decode cX8_melts 88 = .ok (.if_icmp .ge 36, 3) := by decide +kernel
theorem dX8_melts_91 : decode cX8_melts 91 = .ok (.aload_n 0, 1) := by decide +kernel
theorem dX8_melts_92 : decode cX8_melts 92 = .ok (.getfield 16, 3) := by decide +kernel
theorem dX8_melts_95 : decode cX8_melts 95 = .ok (.iload_n 3, 1) := by decide +kernel
theorem dX8_melts_96 : decode cX8_melts 96 = .ok (.iload_n 3, 1) := by decide +kernel
theorem dX8_melts_97 : decode cX8_melts 97 = .ok (.iconst 4, 1) := by decide +kernel
theorem dX8_melts_98 : decode cX8_melts 98 = .ok (.iadd, 1) := by decide +kernel
theorem dX8_melts_99 : decode cX8_melts 99 = .ok (.sipush 128, 3) := by decide +kernel
theorem dX8_melts_102 : decode cX8_melts 102 = .ok (.if_icmp .ge 14, 3) := by decide +kernel
theorem dX8_melts_105 : decode cX8_melts 105 = .ok (.aload_n 0, 1) := by decide +kernel
theorem dX8_melts_106 : decode cX8_melts 106 = .ok (.getfield 16, 3) := by decide +kernel
theorem dX8_melts_109 : decode cX8_melts 109 = .ok (.iload_n 3, 1) := by decide +kernel
theorem dX8_melts_110 : decode cX8_melts 110 = .ok (.iconst 4, 1) := by decide +kernel
theorem dX8_melts_111 : decode cX8_melts 111 = .ok (.iadd, 1) := by decide +kernel
theorem dX8_melts_112 : decode cX8_melts 112 = .ok (.iaload, 1) := by decide +kernel
theorem dX8_melts_113 : decode cX8_melts 113 = .ok (.goto 4, 3) := by decide +kernel
theorem dX8_melts_116 : decode cX8_melts 116 = .ok (.iconst 0, 1) := by decide +kernel
