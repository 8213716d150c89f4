/-! The law's helpers: what they have in common. -/
theorem dl_sp : True := trivial
theorem dL_charge_0 : decode cL_charge 0 = .ok (.aload 4, 2) := by decide +kernel
theorem dL_charge_2 : decode cL_charge 2 = .ok (.iconst 0, 1) := by decide +kernel
theorem dL_charge_3 : decode cL_charge 3 = .ok (.aload_n 0, 1) := by decide +kernel
theorem dL_charge_4 : decode cL_charge 4 = .ok (.iload_n 1, 1) := by decide +kernel
theorem dL_charge_5 : decode cL_charge 5 = .ok (.iload_n 2, 1) := by decide +kernel
theorem dL_charge_6 : decode cL_charge 6 = .ok (.iload_n 3, 1) := by decide +kernel
theorem dL_charge_7 : decode cL_charge 7 = .ok (.invokevirtual 7, 3) := by decide +kernel
theorem dL_charge_10 : decode cL_charge 10 = .ok (.i2l, 1) := by decide +kernel
theorem dL_charge_11 : decode cL_charge 11 = .ok (.lastore, 1) := by decide +kernel
theorem dL_charge_12 : decode cL_charge 12 = .ok (.goto 15, 3) := by decide +kernel
theorem dL_charge_15 : decode cL_charge 15 = .ok (.astore 5, 2) := by decide +kernel
theorem dL_charge_17 : decode cL_charge 17 = .ok (.iconst 1, 1) := by decide +kernel
theorem dL_charge_18 : decode cL_charge 18 = .ok (.ireturn, 1) := by decide +kernel
theorem dL_charge_19 : decode cL_charge 19 = .ok (.astore 5, 2) := by decide +kernel
theorem dL_charge_21 : decode cL_charge 21 = .ok (.iconst 2, 1) := by decide +kernel
theorem dL_charge_22 : decode cL_charge 22 = .ok (.ireturn, 1) := by decide +kernel
theorem dL_charge_23 : decode cL_charge 23 = .ok (.astore 5, 2) := by decide +kernel
theorem dL_charge_25 : decode cL_charge 25 = .ok (.iconst 3, 1) := by decide +kernel
theorem dL_charge_26 : decode cL_charge 26 = .ok (.ireturn, 1) := by decide +kernel
theorem dL_charge_27 : decode cL_charge 27 = .ok (.iconst 0, 1) := by decide +kernel
theorem dL_charge_28 : decode cL_charge 28 = .ok (.ireturn, 1) := by decide +kernel
theorem dL_setFire_0 : decode cL_setFire 0 = .ok (.aload_n 3, 1) := by decide +kernel
theorem dL_setFire_1 : decode cL_setFire 1 = .ok (.iconst 0, 1) := by decide +kernel
theorem dL_setFire_2 : decode cL_setFire 2 = .ok (.aload_n 0, 1) := by decide +kernel
theorem dL_setFire_3 : decode cL_setFire 3 = .ok (.iload_n 1, 1) := by decide +kernel
theorem dL_setFire_4 : decode cL_setFire 4 = .ok (.iload_n 2, 1) := by decide +kernel
theorem dL_setFire_5 : decode cL_setFire 5 = .ok (.invokevirtual 19, 3) := by decide +kernel
theorem dL_setFire_8 : decode cL_setFire 8 = .ok (.i2l, 1) := by decide +kernel
theorem dL_setFire_9 : decode cL_setFire 9 = .ok (.lastore, 1) := by decide +kernel
theorem dL_setFire_10 : decode cL_setFire 10 = .ok (.goto 11, 3) := by decide +kernel
theorem dL_setFire_13 : decode cL_setFire 13 = .ok (.astore 4, 2) := by decide +kernel
theorem dL_setFire_15 : decode cL_setFire 15 = .ok (.iconst 1, 1) := by decide +kernel
theorem dL_setFire_16 : decode cL_setFire 16 = .ok (.ireturn, 1) := by decide +kernel
theorem dL_setFire_17 : decode cL_setFire 17 = .ok (.astore 4, 2) := by decide +kernel
theorem dL_setFire_19 : decode cL_setFire 19 = .ok (.iconst 2, 1) := by decide +kernel
theorem dL_setFire_20 : decode cL_setFire 20 = .ok (.ireturn, 1) := by decide +kernel
theorem dL_setFire_21 : decode cL_setFire 21 = .ok (.iconst 0, 1) := by decide +kernel
theorem dL_setFire_22 : decode cL_setFire 22 = .ok (.ireturn, 1) := by decide +kernel
theorem dL_skim_0 : decode cL_skim 0 = .ok (.aload_n 2, 1) := by decide +kernel
theorem dL_skim_1 : decode cL_skim 1 = .ok (.iconst 0, 1) := by decide +kernel
theorem dL_skim_2 : decode cL_skim 2 = .ok (.aload_n 0, 1) := by decide +kernel
theorem dL_skim_3 : decode cL_skim 3 = .ok (.iload_n 1, 1) := by decide +kernel
theorem dL_skim_4 : decode cL_skim 4 = .ok (.invokevirtual 23, 3) := by decide +kernel
theorem dL_skim_7 : decode cL_skim 7 = .ok (.i2l, 1) := by decide +kernel
theorem dL_skim_8 : decode cL_skim 8 = .ok (.lastore, 1) := by decide +kernel
theorem dL_skim_9 : decode cL_skim 9 = .ok (.goto 12, 3) := by decide +kernel
theorem dL_skim_12 : decode cL_skim 12 = .ok (.astore_n 3, 1) := by decide +kernel
theorem dL_skim_13 : decode cL_skim 13 = .ok (.iconst 1, 1) := by decide +kernel
theorem dL_skim_14 : decode cL_skim 14 = .ok (.ireturn, 1) := by decide +kernel
theorem dL_skim_15 : decode cL_skim 15 = .ok (.astore_n 3, 1) := by decide +kernel
theorem dL_skim_16 : decode cL_skim 16 = .ok (.iconst 2, 1) := by decide +kernel
theorem dL_skim_17 : decode cL_skim 17 = .ok (.ireturn, 1) := by decide +kernel
theorem dL_skim_18 : decode cL_skim 18 = .ok (.astore_n 3, 1) := by decide +kernel
theorem dL_skim_19 : decode cL_skim 19 = .ok (.iconst 3, 1) := by decide +kernel
theorem dL_skim_20 : decode cL_skim 20 = .ok (.ireturn, 1) := by decide +kernel
theorem dL_skim_21 : decode cL_skim 21 = .ok (.iconst 0, 1) := by decide +kernel
theorem dL_skim_22 : decode cL_skim 22 = .ok (.ireturn, 1) := by decide +kernel
theorem dL_tap_0 : decode cL_tap 0 = .ok (.aload 4, 2) := by decide +kernel
theorem dL_tap_2 : decode cL_tap 2 = .ok (.iconst 0, 1) := by decide +kernel
theorem dL_tap_3 : decode cL_tap 3 = .ok (.aload_n 0, 1) := by decide +kernel
theorem dL_tap_4 : decode cL_tap 4 = .ok (.iload_n 1, 1) := by decide +kernel
theorem dL_tap_5 : decode cL_tap 5 = .ok (.iload_n 2, 1) := by decide +kernel
theorem dL_tap_6 : decode cL_tap 6 = .ok (.iload_n 3, 1) := by decide +kernel
theorem dL_tap_7 : decode cL_tap 7 = .ok (.invokevirtual 31, 3) := by decide +kernel
theorem dL_tap_10 : decode cL_tap 10 = .ok (.i2l, 1) := by decide +kernel
theorem dL_tap_11 : decode cL_tap 11 = .ok (.lastore, 1) := by decide +kernel
theorem dL_tap_12 : decode cL_tap 12 = .ok (.goto 23, 3) := by decide +kernel
theorem dL_tap_15 : decode cL_tap 15 = .ok (.astore 5, 2) := by decide +kernel
theorem dL_tap_17 : decode cL_tap 17 = .ok (.iconst 1, 1) := by decide +kernel
theorem dL_tap_18 : decode cL_tap 18 = .ok (.ireturn, 1) := by decide +kernel
theorem dL_tap_19 : decode cL_tap 19 = .ok (.astore 5, 2) := by decide +kernel
theorem dL_tap_21 : decode cL_tap 21 = .ok (.iconst 2, 1) := by decide +kernel
theorem dL_tap_22 : decode cL_tap 22 = .ok (.ireturn, 1) := by decide +kernel
theorem dL_tap_23 : decode cL_tap 23 = .ok (.astore 5, 2) := by decide +kernel
theorem dL_tap_25 : decode cL_tap 25 = .ok (.iconst 3, 1) := by decide +kernel
theorem dL_tap_26 : decode cL_tap 26 = .ok (.ireturn, 1) := by decide +kernel
theorem dL_tap_27 : decode cL_tap 27 = .ok (.astore 5, 2) := by decide +kernel
theorem dL_tap_29 : decode cL_tap 29 = .ok (.iconst 4, 1) := by decide +kernel
theorem dL_tap_30 : decode cL_tap 30 = .ok (.ireturn, 1) := by decide +kernel
theorem dL_tap_31 : decode cL_tap 31 = .ok (.astore 5, 2) := by decide +kernel
theorem dL_tap_33 : decode cL_tap 33 = .ok (.iconst 5, 1) := by decide +kernel
theorem dL_tap_34 : decode cL_tap 34 = .ok (.ireturn, 1) := by decide +kernel
theorem dL_tap_35 : decode cL_tap 35 = .ok (.iconst 0, 1) := by decide +kernel
theorem dL_tap_36 : decode cL_tap 36 = .ok (.ireturn, 1) := by decide +kernel
theorem dL_pourBack_0 : decode cL_pourBack 0 = .ok (.aload_n 3, 1) := by decide +kernel
theorem dL_pourBack_1 : decode cL_pourBack 1 = .ok (.iconst 0, 1) := by decide +kernel
theorem dL_pourBack_2 : decode cL_pourBack 2 = .ok (.aload_n 0, 1) := by decide +kernel
theorem dL_pourBack_3 : decode cL_pourBack 3 = .ok (.iload_n 1, 1) := by decide +kernel
theorem dL_pourBack_4 : decode cL_pourBack 4 = .ok (.iload_n 2, 1) := by decide +kernel
theorem dL_pourBack_5 : decode cL_pourBack 5 = .ok (.invokevirtual 35, 3) := by decide +kernel
theorem dL_pourBack_8 : decode cL_pourBack 8 = .ok (.i2l, 1) := by decide +kernel
theorem dL_pourBack_9 : decode cL_pourBack 9 = .ok (.lastore, 1) := by decide +kernel
theorem dL_pourBack_10 : decode cL_pourBack 10 = .ok (.goto 15, 3) := by decide +kernel
theorem dL_pourBack_13 : decode cL_pourBack 13 = .ok (.astore 4, 2) := by decide +kernel
theorem dL_pourBack_15 : decode cL_pourBack 15 = .ok (.iconst 1, 1) := by decide +kernel
theorem dL_pourBack_16 : decode cL_pourBack 16 = .ok (.ireturn, 1) := by decide +kernel
theorem dL_pourBack_17 : decode cL_pourBack 17 = .ok (.astore 4, 2) := by decide +kernel
theorem dL_pourBack_19 : decode cL_pourBack 19 = .ok (.iconst 2, 1) := by decide +kernel
theorem dL_pourBack_20 : decode cL_pourBack 20 = .ok (.ireturn, 1) := by decide +kernel
theorem dL_pourBack_21 : decode cL_pourBack 21 = .ok (.astore 4, 2) := by decide +kernel
theorem dL_pourBack_23 : decode cL_pourBack 23 = .ok (.iconst 3, 1) := by decide +kernel
theorem dL_pourBack_24 : decode cL_pourBack 24 = .ok (.ireturn, 1) := by decide +kernel
theorem dL_pourBack_25 : decode cL_pourBack 25 = .ok (.iconst 0, 1) := by decide +kernel
theorem dL_pourBack_26 : decode cL_pourBack 26 = .ok (.ireturn, 1) := by decide +kernel
theorem dL_addMould_0 : decode cL_addMould 0 = .ok (.aload_n 2, 1) := by decide +kernel
theorem dL_addMould_1 : decode cL_addMould 1 = .ok (.iconst 0, 1) := by decide +kernel
theorem dL_addMould_2 : decode cL_addMould 2 = .ok (.aload_n 0, 1) := by decide +kernel
theorem dL_addMould_3 : decode cL_addMould 3 = .ok (.iload_n 1, 1) := by decide +kernel
theorem dL_addMould_4 : decode cL_addMould 4 = .ok (.invokevirtual 38, 3) := by decide +kernel
theorem dL_addMould_7 : decode cL_addMould 7 = .ok (.i2l, 1) := by decide +kernel
theorem dL_addMould_8 : decode cL_addMould 8 = .ok (.lastore, 1) := by decide +kernel
theorem dL_addMould_9 : decode cL_addMould 9 = .ok (.goto 9, 3) := by decide +kernel
theorem dL_addMould_12 : decode cL_addMould 12 = .ok (.astore_n 3, 1) := by decide +kernel
theorem dL_addMould_13 : decode cL_addMould 13 = .ok (.iconst 1, 1) := by decide +kernel
theorem dL_addMould_14 : decode cL_addMould 14 = .ok (.ireturn, 1) := by decide +kernel
theorem dL_addMould_15 : decode cL_addMould 15 = .ok (.astore_n 3, 1) := by decide +kernel
theorem dL_addMould_16 : decode cL_addMould 16 = .ok (.iconst 2, 1) := by decide +kernel
theorem dL_addMould_17 : decode cL_addMould 17 = .ok (.ireturn, 1) := by decide +kernel
theorem dL_addMould_18 : decode cL_addMould 18 = .ok (.iconst 0, 1) := by decide +kernel
theorem dL_addMould_19 : decode cL_addMould 19 = .ok (.ireturn, 1) := by decide +kernel
theorem dL_pour_0 : decode cL_pour 0 = .ok (.aload_n 3, 1) := by decide +kernel
theorem dL_pour_1 : decode cL_pour 1 = .ok (.iconst 0, 1) := by decide +kernel
theorem dL_pour_2 : decode cL_pour 2 = .ok (.aload_n 0, 1) := by decide +kernel
theorem dL_pour_3 : decode cL_pour 3 = .ok (.iload_n 1, 1) := by decide +kernel
theorem dL_pour_4 : decode cL_pour 4 = .ok (.iload_n 2, 1) := by decide +kernel
theorem dL_pour_5 : decode cL_pour 5 = .ok (.invokevirtual 41, 3) := by decide +kernel
theorem dL_pour_8 : decode cL_pour 8 = .ok (.i2l, 1) := by decide +kernel
theorem dL_pour_9 : decode cL_pour 9 = .ok (.lastore, 1) := by decide +kernel
theorem dL_pour_10 : decode cL_pour 10 = .ok (.goto 19, 3) := by decide +kernel
theorem dL_pour_13 : decode cL_pour 13 = .ok (.astore 4, 2) := by decide +kernel
theorem dL_pour_15 : decode cL_pour 15 = .ok (.iconst 1, 1) := by decide +kernel
theorem dL_pour_16 : decode cL_pour 16 = .ok (.ireturn, 1) := by decide +kernel
theorem dL_pour_17 : decode cL_pour 17 = .ok (.astore 4, 2) := by decide +kernel
theorem dL_pour_19 : decode cL_pour 19 = .ok (.iconst 2, 1) := by decide +kernel
theorem dL_pour_20 : decode cL_pour 20 = .ok (.ireturn, 1) := by decide +kernel
theorem dL_pour_21 : decode cL_pour 21 = .ok (.astore 4, 2) := by decide +kernel
theorem dL_pour_23 : decode cL_pour 23 = .ok (.iconst 3, 1) := by decide +kernel
theorem dL_pour_24 : decode cL_pour 24 = .ok (.ireturn, 1) := by decide +kernel
theorem dL_pour_25 : decode cL_pour 25 = .ok (.astore 4, 2) := by decide +kernel
theorem dL_pour_27 : decode cL_pour 27 = .ok (.iconst 4, 1) := by decide +kernel
theorem dL_pour_28 : decode cL_pour 28 = .ok (.ireturn, 1) := by decide +kernel
theorem dL_pour_29 : decode cL_pour 29 = .ok (.iconst 0, 1) := by decide +kernel
theorem dL_pour_30 : decode cL_pour 30 = .ok (.ireturn, 1) := by decide +kernel
theorem dL_breakOut_0 : decode cL_breakOut 0 = .ok (.aload_n 2, 1) := by decide +kernel
theorem dL_breakOut_1 : decode cL_breakOut 1 = .ok (.iconst 0, 1) := by decide +kernel
theorem dL_breakOut_2 : decode cL_breakOut 2 = .ok (.aload_n 0, 1) := by decide +kernel
theorem dL_breakOut_3 : decode cL_breakOut 3 = .ok (.iload_n 1, 1) := by decide +kernel
theorem dL_breakOut_4 : decode cL_breakOut 4 = .ok (.invokevirtual 44, 3) := by decide +kernel
theorem dL_breakOut_7 : decode cL_breakOut 7 = .ok (.i2l, 1) := by decide +kernel
theorem dL_breakOut_8 : decode cL_breakOut 8 = .ok (.lastore, 1) := by decide +kernel
theorem dL_breakOut_9 : decode cL_breakOut 9 = .ok (.goto 12, 3) := by decide +kernel
theorem dL_breakOut_12 : decode cL_breakOut 12 = .ok (.astore_n 3, 1) := by decide +kernel
theorem dL_breakOut_13 : decode cL_breakOut 13 = .ok (.iconst 1, 1) := by decide +kernel
theorem dL_breakOut_14 : decode cL_breakOut 14 = .ok (.ireturn, 1) := by decide +kernel
theorem dL_breakOut_15 : decode cL_breakOut 15 = .ok (.astore_n 3, 1) := by decide +kernel
theorem dL_breakOut_16 : decode cL_breakOut 16 = .ok (.iconst 2, 1) := by decide +kernel
theorem dL_breakOut_17 : decode cL_breakOut 17 = .ok (.ireturn, 1) := by decide +kernel
theorem dL_breakOut_18 : decode cL_breakOut 18 = .ok (.astore_n 3, 1) := by decide +kernel
theorem dL_breakOut_19 : decode cL_breakOut 19 = .ok (.iconst 3, 1) := by decide +kernel
theorem dL_breakOut_20 : decode cL_breakOut 20 = .ok (.ireturn, 1) := by decide +kernel
theorem dL_breakOut_21 : decode cL_breakOut 21 = .ok (.iconst 0, 1) := by decide +kernel
theorem dL_breakOut_22 : decode cL_breakOut 22 = .ok (.ireturn, 1) := by decide +kernel
theorem dL_meltDown_0 : decode cL_meltDown 0 = .ok (.aload_n 3, 1) := by decide +kernel
theorem dL_meltDown_1 : decode cL_meltDown 1 = .ok (.iconst 0, 1) := by decide +kernel
theorem dL_meltDown_2 : decode cL_meltDown 2 = .ok (.aload_n 0, 1) := by decide +kernel
theorem dL_meltDown_3 : decode cL_meltDown 3 = .ok (.iload_n 1, 1) := by decide +kernel
theorem dL_meltDown_4 : decode cL_meltDown 4 = .ok (.iload_n 2, 1) := by decide +kernel
theorem dL_meltDown_5 : decode cL_meltDown 5 = .ok (.invokevirtual 47, 3) := by decide +kernel
theorem dL_meltDown_8 : decode cL_meltDown 8 = .ok (.i2l, 1) := by decide +kernel
theorem dL_meltDown_9 : decode cL_meltDown 9 = .ok (.lastore, 1) := by decide +kernel
theorem dL_meltDown_10 : decode cL_meltDown 10 = .ok (.goto 11, 3) := by decide +kernel
theorem dL_meltDown_13 : decode cL_meltDown 13 = .ok (.astore 4, 2) := by decide +kernel
theorem dL_meltDown_15 : decode cL_meltDown 15 = .ok (.iconst 1, 1) := by decide +kernel
theorem dL_meltDown_16 : decode cL_meltDown 16 = .ok (.ireturn, 1) := by decide +kernel
theorem dL_meltDown_17 : decode cL_meltDown 17 = .ok (.astore 4, 2) := by decide +kernel
theorem dL_meltDown_19 : decode cL_meltDown 19 = .ok (.iconst 2, 1) := by decide +kernel
theorem dL_meltDown_20 : decode cL_meltDown 20 = .ok (.ireturn, 1) := by decide +kernel
theorem dL_meltDown_21 : decode cL_meltDown 21 = .ok (.iconst 0, 1) := by decide +kernel
theorem dL_meltDown_22 : decode cL_meltDown 22 = .ok (.ireturn, 1) := by decide +kernel
theorem dL_advance_0 : decode cL_advance 0 = .ok (.aload_n 2, 1) := by decide +kernel
theorem dL_advance_1 : decode cL_advance 1 = .ok (.iconst 0, 1) := by decide +kernel
theorem dL_advance_2 : decode cL_advance 2 = .ok (.aload_n 0, 1) := by decide +kernel
theorem dL_advance_3 : decode cL_advance 3 = .ok (.iload_n 1, 1) := by decide +kernel
theorem dL_advance_4 : decode cL_advance 4 = .ok (.invokevirtual 50, 3) := by decide +kernel
theorem dL_advance_7 : decode cL_advance 7 = .ok (.i2l, 1) := by decide +kernel
theorem dL_advance_8 : decode cL_advance 8 = .ok (.lastore, 1) := by decide +kernel
theorem dL_advance_9 : decode cL_advance 9 = .ok (.goto 6, 3) := by decide +kernel
theorem dL_advance_12 : decode cL_advance 12 = .ok (.astore_n 3, 1) := by decide +kernel
theorem dL_advance_13 : decode cL_advance 13 = .ok (.iconst 1, 1) := by decide +kernel
theorem dL_advance_14 : decode cL_advance 14 = .ok (.ireturn, 1) := by decide +kernel
theorem dL_advance_15 : decode cL_advance 15 = .ok (.iconst 0, 1) := by decide +kernel
theorem dL_advance_16 : decode cL_advance 16 = .ok (.ireturn, 1) := by decide +kernel
theorem dL_furnaceMass_0 : decode cL_furnaceMass 0 = .ok (.aload_n 3, 1) := by decide +kernel
theorem dL_furnaceMass_1 : decode cL_furnaceMass 1 = .ok (.iconst 0, 1) := by decide +kernel
theorem dL_furnaceMass_2 : decode cL_furnaceMass 2 = .ok (.aload_n 0, 1) := by decide +kernel
theorem dL_furnaceMass_3 : decode cL_furnaceMass 3 = .ok (.iload_n 1, 1) := by decide +kernel
theorem dL_furnaceMass_4 : decode cL_furnaceMass 4 = .ok (.iload_n 2, 1) := by decide +kernel
theorem dL_furnaceMass_5 : decode cL_furnaceMass 5 = .ok (.invokevirtual 53, 3) := by decide +kernel
theorem dL_furnaceMass_8 : decode cL_furnaceMass 8 = .ok (.i2l, 1) := by decide +kernel
theorem dL_furnaceMass_9 : decode cL_furnaceMass 9 = .ok (.lastore, 1) := by decide +kernel
theorem dL_furnaceMass_10 : decode cL_furnaceMass 10 = .ok (.goto 11, 3) := by decide +kernel
theorem dL_furnaceMass_13 : decode cL_furnaceMass 13 = .ok (.astore 4, 2) := by decide +kernel
theorem dL_furnaceMass_15 : decode cL_furnaceMass 15 = .ok (.iconst 1, 1) := by decide +kernel
theorem dL_furnaceMass_16 : decode cL_furnaceMass 16 = .ok (.ireturn, 1) := by decide +kernel
theorem dL_furnaceMass_17 : decode cL_furnaceMass 17 = .ok (.astore 4, 2) := by decide +kernel
theorem dL_furnaceMass_19 : decode cL_furnaceMass 19 = .ok (.iconst 2, 1) := by decide +kernel
theorem dL_furnaceMass_20 : decode cL_furnaceMass 20 = .ok (.ireturn, 1) := by decide +kernel
theorem dL_furnaceMass_21 : decode cL_furnaceMass 21 = .ok (.iconst 0, 1) := by decide +kernel
theorem dL_furnaceMass_22 : decode cL_furnaceMass 22 = .ok (.ireturn, 1) := by decide +kernel
theorem dL_furnaceTotal_0 : decode cL_furnaceTotal 0 = .ok (.aload_n 2, 1) := by decide +kernel
theorem dL_furnaceTotal_1 : decode cL_furnaceTotal 1 = .ok (.iconst 0, 1) := by decide +kernel
theorem dL_furnaceTotal_2 : decode cL_furnaceTotal 2 = .ok (.aload_n 0, 1) := by decide +kernel
theorem dL_furnaceTotal_3 : decode cL_furnaceTotal 3 = .ok (.iload_n 1, 1) := by decide +kernel
theorem dL_furnaceTotal_4 : decode cL_furnaceTotal 4 = .ok (.invokevirtual 57, 3) := by decide +kernel
theorem dL_furnaceTotal_7 : decode cL_furnaceTotal 7 = .ok (.i2l, 1) := by decide +kernel
theorem dL_furnaceTotal_8 : decode cL_furnaceTotal 8 = .ok (.lastore, 1) := by decide +kernel
theorem dL_furnaceTotal_9 : decode cL_furnaceTotal 9 = .ok (.goto 6, 3) := by decide +kernel
theorem dL_furnaceTotal_12 : decode cL_furnaceTotal 12 = .ok (.astore_n 3, 1) := by decide +kernel
theorem dL_furnaceTotal_13 : decode cL_furnaceTotal 13 = .ok (.iconst 1, 1) := by decide +kernel
theorem dL_furnaceTotal_14 : decode cL_furnaceTotal 14 = .ok (.ireturn, 1) := by decide +kernel
theorem dL_furnaceTotal_15 : decode cL_furnaceTotal 15 = .ok (.iconst 0, 1) := by decide +kernel
theorem dL_furnaceTotal_16 : decode cL_furnaceTotal 16 = .ok (.ireturn, 1) := by decide +kernel
theorem dL_furnaceTemperature_0 : decode cL_furnaceTemperature 0 = .ok (.aload_n 2, 1) := by decide +kernel
theorem dL_furnaceTemperature_1 : decode cL_furnaceTemperature 1 = .ok (.iconst 0, 1) := by decide +kernel
theorem dL_furnaceTemperature_2 : decode cL_furnaceTemperature 2 = .ok (.aload_n 0, 1) := by decide +kernel
theorem dL_furnaceTemperature_3 : decode cL_furnaceTemperature 3 = .ok (.iload_n 1, 1) := by decide +kernel
theorem dL_furnaceTemperature_4 : decode cL_furnaceTemperature 4 = .ok (.invokevirtual 60, 3) := by decide +kernel
theorem dL_furnaceTemperature_7 : decode cL_furnaceTemperature 7 = .ok (.i2l, 1) := by decide +kernel
theorem dL_furnaceTemperature_8 : decode cL_furnaceTemperature 8 = .ok (.lastore, 1) := by decide +kernel
theorem dL_furnaceTemperature_9 : decode cL_furnaceTemperature 9 = .ok (.goto 6, 3) := by decide +kernel
theorem dL_furnaceTemperature_12 : decode cL_furnaceTemperature 12 = .ok (.astore_n 3, 1) := by decide +kernel
theorem dL_furnaceTemperature_13 : decode cL_furnaceTemperature 13 = .ok (.iconst 1, 1) := by decide +kernel
theorem dL_furnaceTemperature_14 : decode cL_furnaceTemperature 14 = .ok (.ireturn, 1) := by decide +kernel
theorem dL_furnaceTemperature_15 : decode cL_furnaceTemperature 15 = .ok (.iconst 0, 1) := by decide +kernel
theorem dL_furnaceTemperature_16 : decode cL_furnaceTemperature 16 = .ok (.ireturn, 1) := by decide +kernel
theorem dL_fire_0 : decode cL_fire 0 = .ok (.aload_n 2, 1) := by decide +kernel
theorem dL_fire_1 : decode cL_fire 1 = .ok (.iconst 0, 1) := by decide +kernel
theorem dL_fire_2 : decode cL_fire 2 = .ok (.aload_n 0, 1) := by decide +kernel
theorem dL_fire_3 : decode cL_fire 3 = .ok (.iload_n 1, 1) := by decide +kernel
theorem dL_fire_4 : decode cL_fire 4 = .ok (.invokevirtual 63, 3) := by decide +kernel
theorem dL_fire_7 : decode cL_fire 7 = .ok (.i2l, 1) := by decide +kernel
theorem dL_fire_8 : decode cL_fire 8 = .ok (.lastore, 1) := by decide +kernel
theorem dL_fire_9 : decode cL_fire 9 = .ok (.goto 6, 3) := by decide +kernel
theorem dL_fire_12 : decode cL_fire 12 = .ok (.astore_n 3, 1) := by decide +kernel
theorem dL_fire_13 : decode cL_fire 13 = .ok (.iconst 1, 1) := by decide +kernel
theorem dL_fire_14 : decode cL_fire 14 = .ok (.ireturn, 1) := by decide +kernel
theorem dL_fire_15 : decode cL_fire 15 = .ok (.iconst 0, 1) := by decide +kernel
theorem dL_fire_16 : decode cL_fire 16 = .ok (.ireturn, 1) := by decide +kernel
theorem dL_meltingPoint_0 : decode cL_meltingPoint 0 = .ok (.aload_n 2, 1) := by decide +kernel
theorem dL_meltingPoint_1 : decode cL_meltingPoint 1 = .ok (.iconst 0, 1) := by decide +kernel
theorem dL_meltingPoint_2 : decode cL_meltingPoint 2 = .ok (.aload_n 0, 1) := by decide +kernel
theorem dL_meltingPoint_3 : decode cL_meltingPoint 3 = .ok (.iload_n 1, 1) := by decide +kernel
theorem dL_meltingPoint_4 : decode cL_meltingPoint 4 = .ok (.invokevirtual 66, 3) := by decide +kernel
theorem dL_meltingPoint_7 : decode cL_meltingPoint 7 = .ok (.i2l, 1) := by decide +kernel
theorem dL_meltingPoint_8 : decode cL_meltingPoint 8 = .ok (.lastore, 1) := by decide +kernel
theorem dL_meltingPoint_9 : decode cL_meltingPoint 9 = .ok (.goto 9, 3) := by decide +kernel
theorem dL_meltingPoint_12 : decode cL_meltingPoint 12 = .ok (.astore_n 3, 1) := by decide +kernel
theorem dL_meltingPoint_13 : decode cL_meltingPoint 13 = .ok (.iconst 1, 1) := by decide +kernel
theorem dL_meltingPoint_14 : decode cL_meltingPoint 14 = .ok (.ireturn, 1) := by decide +kernel
theorem dL_meltingPoint_15 : decode cL_meltingPoint 15 = .ok (.astore_n 3, 1) := by decide +kernel
theorem dL_meltingPoint_16 : decode cL_meltingPoint 16 = .ok (.iconst 2, 1) := by decide +kernel
theorem dL_meltingPoint_17 : decode cL_meltingPoint 17 = .ok (.ireturn, 1) := by decide +kernel
theorem dL_meltingPoint_18 : decode cL_meltingPoint 18 = .ok (.iconst 0, 1) := by decide +kernel
theorem dL_meltingPoint_19 : decode cL_meltingPoint 19 = .ok (.ireturn, 1) := by decide +kernel
theorem dL_meltingPointByDifferences_0 : decode cL_meltingPointByDifferences 0 = .ok (.aload_n 2, 1) := by decide +kernel
theorem dL_meltingPointByDifferences_1 : decode cL_meltingPointByDifferences 1 = .ok (.iconst 0, 1) := by decide +kernel
theorem dL_meltingPointByDifferences_2 : decode cL_meltingPointByDifferences 2 = .ok (.aload_n 0, 1) := by decide +kernel
theorem dL_meltingPointByDifferences_3 : decode cL_meltingPointByDifferences 3 = .ok (.iload_n 1, 1) := by decide +kernel
theorem dL_meltingPointByDifferences_4 : decode cL_meltingPointByDifferences 4 = .ok (.invokevirtual 69, 3) := by decide +kernel
theorem dL_meltingPointByDifferences_7 : decode cL_meltingPointByDifferences 7 = .ok (.i2l, 1) := by decide +kernel
theorem dL_meltingPointByDifferences_8 : decode cL_meltingPointByDifferences 8 = .ok (.lastore, 1) := by decide +kernel
theorem dL_meltingPointByDifferences_9 : decode cL_meltingPointByDifferences 9 = .ok (.goto 9, 3) := by decide +kernel
theorem dL_meltingPointByDifferences_12 : decode cL_meltingPointByDifferences 12 = .ok (.astore_n 3, 1) := by decide +kernel
theorem dL_meltingPointByDifferences_13 : decode cL_meltingPointByDifferences 13 = .ok (.iconst 1, 1) := by decide +kernel
theorem dL_meltingPointByDifferences_14 : decode cL_meltingPointByDifferences 14 = .ok (.ireturn, 1) := by decide +kernel
theorem dL_meltingPointByDifferences_15 : decode cL_meltingPointByDifferences 15 = .ok (.astore_n 3, 1) := by decide +kernel
theorem dL_meltingPointByDifferences_16 : decode cL_meltingPointByDifferences 16 = .ok (.iconst 2, 1) := by decide +kernel
theorem dL_meltingPointByDifferences_17 : decode cL_meltingPointByDifferences 17 = .ok (.ireturn, 1) := by decide +kernel
theorem dL_meltingPointByDifferences_18 : decode cL_meltingPointByDifferences 18 = .ok (.iconst 0, 1) := by decide +kernel
theorem dL_meltingPointByDifferences_19 : decode cL_meltingPointByDifferences 19 = .ok (.ireturn, 1) := by decide +kernel
theorem dL_isMolten_0 : decode cL_isMolten 0 = .ok (.aload_n 2, 1) := by decide +kernel
theorem dL_isMolten_1 : decode cL_isMolten 1 = .ok (.iconst 0, 1) := by decide +kernel
theorem dL_isMolten_2 : decode cL_isMolten 2 = .ok (.aload_n 0, 1) := by decide +kernel
theorem dL_isMolten_3 : decode cL_isMolten 3 = .ok (.iload_n 1, 1) := by decide +kernel
theorem dL_isMolten_4 : decode cL_isMolten 4 = .ok (.invokevirtual 72, 3) := by decide +kernel
theorem dL_isMolten_7 : decode cL_isMolten 7 = .ok (.ifCond .eq 7, 3) := by decide +kernel
theorem dL_isMolten_10 : decode cL_isMolten 10 = .ok (.lconst 1, 1) := by decide +kernel
theorem dL_isMolten_11 : decode cL_isMolten 11 = .ok (.goto 4, 3) := by decide +kernel
theorem dL_isMolten_14 : decode cL_isMolten 14 = .ok (.lconst 0, 1) := by decide +kernel
theorem dL_isMolten_15 : decode cL_isMolten 15 = .ok (.lastore, 1) := by decide +kernel
theorem dL_isMolten_16 : decode cL_isMolten 16 = .ok (.goto 6, 3) := by decide +kernel
theorem dL_isMolten_19 : decode cL_isMolten 19 = .ok (.astore_n 3, 1) := by decide +kernel
theorem dL_isMolten_20 : decode cL_isMolten 20 = .ok (.iconst 1, 1) := by decide +kernel
theorem dL_isMolten_21 : decode cL_isMolten 21 = .ok (.ireturn, 1) := by decide +kernel
theorem dL_isMolten_22 : decode cL_isMolten 22 = .ok (.iconst 0, 1) := by decide +kernel
theorem dL_isMolten_23 : decode cL_isMolten 23 = .ok (.ireturn, 1) := by decide +kernel
theorem dL_minutesUntilMolten_0 : decode cL_minutesUntilMolten 0 = .ok (.aload_n 2, 1) := by decide +kernel
theorem dL_minutesUntilMolten_1 : decode cL_minutesUntilMolten 1 = .ok (.iconst 0, 1) := by decide +kernel
theorem dL_minutesUntilMolten_2 : decode cL_minutesUntilMolten 2 = .ok (.aload_n 0, 1) := by decide +kernel
theorem dL_minutesUntilMolten_3 : decode cL_minutesUntilMolten 3 = .ok (.iload_n 1, 1) := by decide +kernel
theorem dL_minutesUntilMolten_4 : decode cL_minutesUntilMolten 4 = .ok (.invokevirtual 76, 3) := by decide +kernel
theorem dL_minutesUntilMolten_7 : decode cL_minutesUntilMolten 7 = .ok (.i2l, 1) := by decide +kernel
theorem dL_minutesUntilMolten_8 : decode cL_minutesUntilMolten 8 = .ok (.lastore, 1) := by decide +kernel
theorem dL_minutesUntilMolten_9 : decode cL_minutesUntilMolten 9 = .ok (.goto 9, 3) := by decide +kernel
theorem dL_minutesUntilMolten_12 : decode cL_minutesUntilMolten 12 = .ok (.astore_n 3, 1) := by decide +kernel
theorem dL_minutesUntilMolten_13 : decode cL_minutesUntilMolten 13 = .ok (.iconst 1, 1) := by decide +kernel
theorem dL_minutesUntilMolten_14 : decode cL_minutesUntilMolten 14 = .ok (.ireturn, 1) := by decide +kernel
theorem dL_minutesUntilMolten_15 : decode cL_minutesUntilMolten 15 = .ok (.astore_n 3, 1) := by decide +kernel
theorem dL_minutesUntilMolten_16 : decode cL_minutesUntilMolten 16 = .ok (.iconst 2, 1) := by decide +kernel
theorem dL_minutesUntilMolten_17 : decode cL_minutesUntilMolten 17 = .ok (.ireturn, 1) := by decide +kernel
theorem dL_minutesUntilMolten_18 : decode cL_minutesUntilMolten 18 = .ok (.iconst 0, 1) := by decide +kernel
theorem dL_minutesUntilMolten_19 : decode cL_minutesUntilMolten 19 = .ok (.ireturn, 1) := by decide +kernel
theorem dL_minutesUntilMoltenByDivision_0 : decode cL_minutesUntilMoltenByDivision 0 = .ok (.aload_n 2, 1) := by decide +kernel
theorem dL_minutesUntilMoltenByDivision_1 : decode cL_minutesUntilMoltenByDivision 1 = .ok (.iconst 0, 1) := by decide +kernel
theorem dL_minutesUntilMoltenByDivision_2 : decode cL_minutesUntilMoltenByDivision 2 = .ok (.aload_n 0, 1) := by decide +kernel
theorem dL_minutesUntilMoltenByDivision_3 : decode cL_minutesUntilMoltenByDivision 3 = .ok (.iload_n 1, 1) := by decide +kernel
theorem dL_minutesUntilMoltenByDivision_4 : decode cL_minutesUntilMoltenByDivision 4 = .ok (.invokevirtual 79, 3) := by decide +kernel
theorem dL_minutesUntilMoltenByDivision_7 : decode cL_minutesUntilMoltenByDivision 7 = .ok (.i2l, 1) := by decide +kernel
theorem dL_minutesUntilMoltenByDivision_8 : decode cL_minutesUntilMoltenByDivision 8 = .ok (.lastore, 1) := by decide +kernel
theorem dL_minutesUntilMoltenByDivision_9 : decode cL_minutesUntilMoltenByDivision 9 = .ok (.goto 9, 3) := by decide +kernel
theorem dL_minutesUntilMoltenByDivision_12 : decode cL_minutesUntilMoltenByDivision 12 = .ok (.astore_n 3, 1) := by decide +kernel
theorem dL_minutesUntilMoltenByDivision_13 : decode cL_minutesUntilMoltenByDivision 13 = .ok (.iconst 1, 1) := by decide +kernel
theorem dL_minutesUntilMoltenByDivision_14 : decode cL_minutesUntilMoltenByDivision 14 = .ok (.ireturn, 1) := by decide +kernel
theorem dL_minutesUntilMoltenByDivision_15 : decode cL_minutesUntilMoltenByDivision 15 = .ok (.astore_n 3, 1) := by decide +kernel
theorem dL_minutesUntilMoltenByDivision_16 : decode cL_minutesUntilMoltenByDivision 16 = .ok (.iconst 2, 1) := by decide +kernel
theorem dL_minutesUntilMoltenByDivision_17 : decode cL_minutesUntilMoltenByDivision 17 = .ok (.ireturn, 1) := by decide +kernel
theorem dL_minutesUntilMoltenByDivision_18 : decode cL_minutesUntilMoltenByDivision 18 = .ok (.iconst 0, 1) := by decide +kernel
theorem dL_minutesUntilMoltenByDivision_19 : decode cL_minutesUntilMoltenByDivision 19 = .ok (.ireturn, 1) := by decide +kernel
theorem dL_furnaceByTemperature_0 : decode cL_furnaceByTemperature 0 = .ok (.aload_n 2, 1) := by decide +kernel
theorem dL_furnaceByTemperature_1 : decode cL_furnaceByTemperature 1 = .ok (.iconst 0, 1) := by decide +kernel
theorem dL_furnaceByTemperature_2 : decode cL_furnaceByTemperature 2 = .ok (.aload_n 0, 1) := by decide +kernel
theorem dL_furnaceByTemperature_3 : decode cL_furnaceByTemperature 3 = .ok (.iload_n 1, 1) := by decide +kernel
theorem dL_furnaceByTemperature_4 : decode cL_furnaceByTemperature 4 = .ok (.invokevirtual 82, 3) := by decide +kernel
theorem dL_furnaceByTemperature_7 : decode cL_furnaceByTemperature 7 = .ok (.i2l, 1) := by decide +kernel
theorem dL_furnaceByTemperature_8 : decode cL_furnaceByTemperature 8 = .ok (.lastore, 1) := by decide +kernel
theorem dL_furnaceByTemperature_9 : decode cL_furnaceByTemperature 9 = .ok (.goto 6, 3) := by decide +kernel
theorem dL_furnaceByTemperature_12 : decode cL_furnaceByTemperature 12 = .ok (.astore_n 3, 1) := by decide +kernel
theorem dL_furnaceByTemperature_13 : decode cL_furnaceByTemperature 13 = .ok (.iconst 1, 1) := by decide +kernel
theorem dL_furnaceByTemperature_14 : decode cL_furnaceByTemperature 14 = .ok (.ireturn, 1) := by decide +kernel
theorem dL_furnaceByTemperature_15 : decode cL_furnaceByTemperature 15 = .ok (.iconst 0, 1) := by decide +kernel
theorem dL_furnaceByTemperature_16 : decode cL_furnaceByTemperature 16 = .ok (.ireturn, 1) := by decide +kernel
theorem dL_ladleMass_0 : decode cL_ladleMass 0 = .ok (.aload_n 3, 1) := by decide +kernel
theorem dL_ladleMass_1 : decode cL_ladleMass 1 = .ok (.iconst 0, 1) := by decide +kernel
theorem dL_ladleMass_2 : decode cL_ladleMass 2 = .ok (.aload_n 0, 1) := by decide +kernel
theorem dL_ladleMass_3 : decode cL_ladleMass 3 = .ok (.iload_n 1, 1) := by decide +kernel
theorem dL_ladleMass_4 : decode cL_ladleMass 4 = .ok (.iload_n 2, 1) := by decide +kernel
theorem dL_ladleMass_5 : decode cL_ladleMass 5 = .ok (.invokevirtual 85, 3) := by decide +kernel
theorem dL_ladleMass_8 : decode cL_ladleMass 8 = .ok (.i2l, 1) := by decide +kernel
theorem dL_ladleMass_9 : decode cL_ladleMass 9 = .ok (.lastore, 1) := by decide +kernel
theorem dL_ladleMass_10 : decode cL_ladleMass 10 = .ok (.goto 11, 3) := by decide +kernel
theorem dL_ladleMass_13 : decode cL_ladleMass 13 = .ok (.astore 4, 2) := by decide +kernel
theorem dL_ladleMass_15 : decode cL_ladleMass 15 = .ok (.iconst 1, 1) := by decide +kernel
theorem dL_ladleMass_16 : decode cL_ladleMass 16 = .ok (.ireturn, 1) := by decide +kernel
theorem dL_ladleMass_17 : decode cL_ladleMass 17 = .ok (.astore 4, 2) := by decide +kernel
theorem dL_ladleMass_19 : decode cL_ladleMass 19 = .ok (.iconst 2, 1) := by decide +kernel
theorem dL_ladleMass_20 : decode cL_ladleMass 20 = .ok (.ireturn, 1) := by decide +kernel
theorem dL_ladleMass_21 : decode cL_ladleMass 21 = .ok (.iconst 0, 1) := by decide +kernel
theorem dL_ladleMass_22 : decode cL_ladleMass 22 = .ok (.ireturn, 1) := by decide +kernel
theorem dL_ladleTotal_0 : decode cL_ladleTotal 0 = .ok (.aload_n 2, 1) := by decide +kernel
theorem dL_ladleTotal_1 : decode cL_ladleTotal 1 = .ok (.iconst 0, 1) := by decide +kernel
theorem dL_ladleTotal_2 : decode cL_ladleTotal 2 = .ok (.aload_n 0, 1) := by decide +kernel
theorem dL_ladleTotal_3 : decode cL_ladleTotal 3 = .ok (.iload_n 1, 1) := by decide +kernel
theorem dL_ladleTotal_4 : decode cL_ladleTotal 4 = .ok (.invokevirtual 88, 3) := by decide +kernel
theorem dL_ladleTotal_7 : decode cL_ladleTotal 7 = .ok (.i2l, 1) := by decide +kernel
theorem dL_ladleTotal_8 : decode cL_ladleTotal 8 = .ok (.lastore, 1) := by decide +kernel
theorem dL_ladleTotal_9 : decode cL_ladleTotal 9 = .ok (.goto 6, 3) := by decide +kernel
theorem dL_ladleTotal_12 : decode cL_ladleTotal 12 = .ok (.astore_n 3, 1) := by decide +kernel
theorem dL_ladleTotal_13 : decode cL_ladleTotal 13 = .ok (.iconst 1, 1) := by decide +kernel
theorem dL_ladleTotal_14 : decode cL_ladleTotal 14 = .ok (.ireturn, 1) := by decide +kernel
theorem dL_ladleTotal_15 : decode cL_ladleTotal 15 = .ok (.iconst 0, 1) := by decide +kernel
theorem dL_ladleTotal_16 : decode cL_ladleTotal 16 = .ok (.ireturn, 1) := by decide +kernel
theorem dL_ladleTemperature_0 : decode cL_ladleTemperature 0 = .ok (.aload_n 2, 1) := by decide +kernel
theorem dL_ladleTemperature_1 : decode cL_ladleTemperature 1 = .ok (.iconst 0, 1) := by decide +kernel
theorem dL_ladleTemperature_2 : decode cL_ladleTemperature 2 = .ok (.aload_n 0, 1) := by decide +kernel
theorem dL_ladleTemperature_3 : decode cL_ladleTemperature 3 = .ok (.iload_n 1, 1) := by decide +kernel
theorem dL_ladleTemperature_4 : decode cL_ladleTemperature 4 = .ok (.invokevirtual 91, 3) := by decide +kernel
theorem dL_ladleTemperature_7 : decode cL_ladleTemperature 7 = .ok (.i2l, 1) := by decide +kernel
theorem dL_ladleTemperature_8 : decode cL_ladleTemperature 8 = .ok (.lastore, 1) := by decide +kernel
theorem dL_ladleTemperature_9 : decode cL_ladleTemperature 9 = .ok (.goto 6, 3) := by decide +kernel
theorem dL_ladleTemperature_12 : decode cL_ladleTemperature 12 = .ok (.astore_n 3, 1) := by decide +kernel
theorem dL_ladleTemperature_13 : decode cL_ladleTemperature 13 = .ok (.iconst 1, 1) := by decide +kernel
theorem dL_ladleTemperature_14 : decode cL_ladleTemperature 14 = .ok (.ireturn, 1) := by decide +kernel
theorem dL_ladleTemperature_15 : decode cL_ladleTemperature 15 = .ok (.iconst 0, 1) := by decide +kernel
theorem dL_ladleTemperature_16 : decode cL_ladleTemperature 16 = .ok (.ireturn, 1) := by decide +kernel
theorem dL_pouringMinutes_0 : decode cL_pouringMinutes 0 = .ok (.aload_n 2, 1) := by decide +kernel
theorem dL_pouringMinutes_1 : decode cL_pouringMinutes 1 = .ok (.iconst 0, 1) := by decide +kernel
theorem dL_pouringMinutes_2 : decode cL_pouringMinutes 2 = .ok (.aload_n 0, 1) := by decide +kernel
theorem dL_pouringMinutes_3 : decode cL_pouringMinutes 3 = .ok (.iload_n 1, 1) := by decide +kernel
theorem dL_pouringMinutes_4 : decode cL_pouringMinutes 4 = .ok (.invokevirtual 94, 3) := by decide +kernel
theorem dL_pouringMinutes_7 : decode cL_pouringMinutes 7 = .ok (.i2l, 1) := by decide +kernel
theorem dL_pouringMinutes_8 : decode cL_pouringMinutes 8 = .ok (.lastore, 1) := by decide +kernel
theorem dL_pouringMinutes_9 : decode cL_pouringMinutes 9 = .ok (.goto 9, 3) := by decide +kernel
theorem dL_pouringMinutes_12 : decode cL_pouringMinutes 12 = .ok (.astore_n 3, 1) := by decide +kernel
theorem dL_pouringMinutes_13 : decode cL_pouringMinutes 13 = .ok (.iconst 1, 1) := by decide +kernel
theorem dL_pouringMinutes_14 : decode cL_pouringMinutes 14 = .ok (.ireturn, 1) := by decide +kernel
theorem dL_pouringMinutes_15 : decode cL_pouringMinutes 15 = .ok (.astore_n 3, 1) := by decide +kernel
theorem dL_pouringMinutes_16 : decode cL_pouringMinutes 16 = .ok (.iconst 2, 1) := by decide +kernel
theorem dL_pouringMinutes_17 : decode cL_pouringMinutes 17 = .ok (.ireturn, 1) := by decide +kernel
theorem dL_pouringMinutes_18 : decode cL_pouringMinutes 18 = .ok (.iconst 0, 1) := by decide +kernel
theorem dL_pouringMinutes_19 : decode cL_pouringMinutes 19 = .ok (.ireturn, 1) := by decide +kernel
theorem dL_volume_0 : decode cL_volume 0 = .ok (.aload_n 2, 1) := by decide +kernel
theorem dL_volume_1 : decode cL_volume 1 = .ok (.iconst 0, 1) := by decide +kernel
theorem dL_volume_2 : decode cL_volume 2 = .ok (.aload_n 0, 1) := by decide +kernel
theorem dL_volume_3 : decode cL_volume 3 = .ok (.iload_n 1, 1) := by decide +kernel
theorem dL_volume_4 : decode cL_volume 4 = .ok (.invokevirtual 97, 3) := by decide +kernel
theorem dL_volume_7 : decode cL_volume 7 = .ok (.i2l, 1) := by decide +kernel
theorem dL_volume_8 : decode cL_volume 8 = .ok (.lastore, 1) := by decide +kernel
theorem dL_volume_9 : decode cL_volume 9 = .ok (.goto 6, 3) := by decide +kernel
theorem dL_volume_12 : decode cL_volume 12 = .ok (.astore_n 3, 1) := by decide +kernel
theorem dL_volume_13 : decode cL_volume 13 = .ok (.iconst 1, 1) := by decide +kernel
theorem dL_volume_14 : decode cL_volume 14 = .ok (.ireturn, 1) := by decide +kernel
theorem dL_volume_15 : decode cL_volume 15 = .ok (.iconst 0, 1) := by decide +kernel
theorem dL_volume_16 : decode cL_volume 16 = .ok (.ireturn, 1) := by decide +kernel
theorem dL_isFilled_0 : decode cL_isFilled 0 = .ok (.aload_n 2, 1) := by decide +kernel
theorem dL_isFilled_1 : decode cL_isFilled 1 = .ok (.iconst 0, 1) := by decide +kernel
theorem dL_isFilled_2 : decode cL_isFilled 2 = .ok (.aload_n 0, 1) := by decide +kernel
theorem dL_isFilled_3 : decode cL_isFilled 3 = .ok (.iload_n 1, 1) := by decide +kernel
theorem dL_isFilled_4 : decode cL_isFilled 4 = .ok (.invokevirtual 100, 3) := by decide +kernel
theorem dL_isFilled_7 : decode cL_isFilled 7 = .ok (.ifCond .eq 7, 3) := by decide +kernel
theorem dL_isFilled_10 : decode cL_isFilled 10 = .ok (.lconst 1, 1) := by decide +kernel
theorem dL_isFilled_11 : decode cL_isFilled 11 = .ok (.goto 4, 3) := by decide +kernel
theorem dL_isFilled_14 : decode cL_isFilled 14 = .ok (.lconst 0, 1) := by decide +kernel
theorem dL_isFilled_15 : decode cL_isFilled 15 = .ok (.lastore, 1) := by decide +kernel
theorem dL_isFilled_16 : decode cL_isFilled 16 = .ok (.goto 6, 3) := by decide +kernel
theorem dL_isFilled_19 : decode cL_isFilled 19 = .ok (.astore_n 3, 1) := by decide +kernel
theorem dL_isFilled_20 : decode cL_isFilled 20 = .ok (.iconst 1, 1) := by decide +kernel
theorem dL_isFilled_21 : decode cL_isFilled 21 = .ok (.ireturn, 1) := by decide +kernel
theorem dL_isFilled_22 : decode cL_isFilled 22 = .ok (.iconst 0, 1) := by decide +kernel
theorem dL_isFilled_23 : decode cL_isFilled 23 = .ok (.ireturn, 1) := by decide +kernel
theorem dL_mouldMass_0 : decode cL_mouldMass 0 = .ok (.aload_n 3, 1) := by decide +kernel
theorem dL_mouldMass_1 : decode cL_mouldMass 1 = .ok (.iconst 0, 1) := by decide +kernel
theorem dL_mouldMass_2 : decode cL_mouldMass 2 = .ok (.aload_n 0, 1) := by decide +kernel
theorem dL_mouldMass_3 : decode cL_mouldMass 3 = .ok (.iload_n 1, 1) := by decide +kernel
theorem dL_mouldMass_4 : decode cL_mouldMass 4 = .ok (.iload_n 2, 1) := by decide +kernel
theorem dL_mouldMass_5 : decode cL_mouldMass 5 = .ok (.invokevirtual 103, 3) := by decide +kernel
theorem dL_mouldMass_8 : decode cL_mouldMass 8 = .ok (.i2l, 1) := by decide +kernel
theorem dL_mouldMass_9 : decode cL_mouldMass 9 = .ok (.lastore, 1) := by decide +kernel
theorem dL_mouldMass_10 : decode cL_mouldMass 10 = .ok (.goto 11, 3) := by decide +kernel
theorem dL_mouldMass_13 : decode cL_mouldMass 13 = .ok (.astore 4, 2) := by decide +kernel
theorem dL_mouldMass_15 : decode cL_mouldMass 15 = .ok (.iconst 1, 1) := by decide +kernel
theorem dL_mouldMass_16 : decode cL_mouldMass 16 = .ok (.ireturn, 1) := by decide +kernel
theorem dL_mouldMass_17 : decode cL_mouldMass 17 = .ok (.astore 4, 2) := by decide +kernel
theorem dL_mouldMass_19 : decode cL_mouldMass 19 = .ok (.iconst 2, 1) := by decide +kernel
theorem dL_mouldMass_20 : decode cL_mouldMass 20 = .ok (.ireturn, 1) := by decide +kernel
theorem dL_mouldMass_21 : decode cL_mouldMass 21 = .ok (.iconst 0, 1) := by decide +kernel
theorem dL_mouldMass_22 : decode cL_mouldMass 22 = .ok (.ireturn, 1) := by decide +kernel
theorem dL_ingotMass_0 : decode cL_ingotMass 0 = .ok (.aload_n 3, 1) := by decide +kernel
theorem dL_ingotMass_1 : decode cL_ingotMass 1 = .ok (.iconst 0, 1) := by decide +kernel
theorem dL_ingotMass_2 : decode cL_ingotMass 2 = .ok (.aload_n 0, 1) := by decide +kernel
theorem dL_ingotMass_3 : decode cL_ingotMass 3 = .ok (.iload_n 1, 1) := by decide +kernel
theorem dL_ingotMass_4 : decode cL_ingotMass 4 = .ok (.iload_n 2, 1) := by decide +kernel
theorem dL_ingotMass_5 : decode cL_ingotMass 5 = .ok (.invokevirtual 106, 3) := by decide +kernel
theorem dL_ingotMass_8 : decode cL_ingotMass 8 = .ok (.i2l, 1) := by decide +kernel
theorem dL_ingotMass_9 : decode cL_ingotMass 9 = .ok (.lastore, 1) := by decide +kernel
theorem dL_ingotMass_10 : decode cL_ingotMass 10 = .ok (.goto 11, 3) := by decide +kernel
theorem dL_ingotMass_13 : decode cL_ingotMass 13 = .ok (.astore 4, 2) := by decide +kernel
theorem dL_ingotMass_15 : decode cL_ingotMass 15 = .ok (.iconst 1, 1) := by decide +kernel
theorem dL_ingotMass_16 : decode cL_ingotMass 16 = .ok (.ireturn, 1) := by decide +kernel
theorem dL_ingotMass_17 : decode cL_ingotMass 17 = .ok (.astore 4, 2) := by decide +kernel
theorem dL_ingotMass_19 : decode cL_ingotMass 19 = .ok (.iconst 2, 1) := by decide +kernel
theorem dL_ingotMass_20 : decode cL_ingotMass 20 = .ok (.ireturn, 1) := by decide +kernel
theorem dL_ingotMass_21 : decode cL_ingotMass 21 = .ok (.iconst 0, 1) := by decide +kernel
theorem dL_ingotMass_22 : decode cL_ingotMass 22 = .ok (.ireturn, 1) := by decide +kernel
theorem dL_share_0 : decode cL_share 0 = .ok (.aload_n 3, 1) := by decide +kernel
theorem dL_share_1 : decode cL_share 1 = .ok (.iconst 0, 1) := by decide +kernel
theorem dL_share_2 : decode cL_share 2 = .ok (.aload_n 0, 1) := by decide +kernel
theorem dL_share_3 : decode cL_share 3 = .ok (.iload_n 1, 1) := by decide +kernel
theorem dL_share_4 : decode cL_share 4 = .ok (.iload_n 2, 1) := by decide +kernel
theorem dL_share_5 : decode cL_share 5 = .ok (.invokevirtual 109, 3) := by decide +kernel
theorem dL_share_8 : decode cL_share 8 = .ok (.i2l, 1) := by decide +kernel
theorem dL_share_9 : decode cL_share 9 = .ok (.lastore, 1) := by decide +kernel
theorem dL_share_10 : decode cL_share 10 = .ok (.goto 11, 3) := by decide +kernel
theorem dL_share_13 : decode cL_share 13 = .ok (.astore 4, 2) := by decide +kernel
theorem dL_share_15 : decode cL_share 15 = .ok (.iconst 1, 1) := by decide +kernel
theorem dL_share_16 : decode cL_share 16 = .ok (.ireturn, 1) := by decide +kernel
theorem dL_share_17 : decode cL_share 17 = .ok (.astore 4, 2) := by decide +kernel
theorem dL_share_19 : decode cL_share 19 = .ok (.iconst 2, 1) := by decide +kernel
theorem dL_share_20 : decode cL_share 20 = .ok (.ireturn, 1) := by decide +kernel
theorem dL_share_21 : decode cL_share 21 = .ok (.iconst 0, 1) := by decide +kernel
theorem dL_share_22 : decode cL_share 22 = .ok (.ireturn, 1) := by decide +kernel
theorem dL_grade_0 : decode cL_grade 0 = .ok (.aload_n 2, 1) := by decide +kernel
theorem dL_grade_1 : decode cL_grade 1 = .ok (.iconst 0, 1) := by decide +kernel
theorem dL_grade_2 : decode cL_grade 2 = .ok (.aload_n 0, 1) := by decide +kernel
theorem dL_grade_3 : decode cL_grade 3 = .ok (.iload_n 1, 1) := by decide +kernel
theorem dL_grade_4 : decode cL_grade 4 = .ok (.invokevirtual 112, 3) := by decide +kernel
theorem dL_grade_7 : decode cL_grade 7 = .ok (.i2l, 1) := by decide +kernel
theorem dL_grade_8 : decode cL_grade 8 = .ok (.lastore, 1) := by decide +kernel
theorem dL_grade_9 : decode cL_grade 9 = .ok (.goto 6, 3) := by decide +kernel
theorem dL_grade_12 : decode cL_grade 12 = .ok (.astore_n 3, 1) := by decide +kernel
theorem dL_grade_13 : decode cL_grade 13 = .ok (.iconst 1, 1) := by decide +kernel
theorem dL_grade_14 : decode cL_grade 14 = .ok (.ireturn, 1) := by decide +kernel
theorem dL_grade_15 : decode cL_grade 15 = .ok (.iconst 0, 1) := by decide +kernel
theorem dL_grade_16 : decode cL_grade 16 = .ok (.ireturn, 1) := by decide +kernel
theorem dL_ingotByMass_0 : decode cL_ingotByMass 0 = .ok (.aload_n 2, 1) := by decide +kernel
theorem dL_ingotByMass_1 : decode cL_ingotByMass 1 = .ok (.iconst 0, 1) := by decide +kernel
theorem dL_ingotByMass_2 : decode cL_ingotByMass 2 = .ok (.aload_n 0, 1) := by decide +kernel
theorem dL_ingotByMass_3 : decode cL_ingotByMass 3 = .ok (.iload_n 1, 1) := by decide +kernel
theorem dL_ingotByMass_4 : decode cL_ingotByMass 4 = .ok (.invokevirtual 116, 3) := by decide +kernel
theorem dL_ingotByMass_7 : decode cL_ingotByMass 7 = .ok (.i2l, 1) := by decide +kernel
theorem dL_ingotByMass_8 : decode cL_ingotByMass 8 = .ok (.lastore, 1) := by decide +kernel
theorem dL_ingotByMass_9 : decode cL_ingotByMass 9 = .ok (.goto 6, 3) := by decide +kernel
theorem dL_ingotByMass_12 : decode cL_ingotByMass 12 = .ok (.astore_n 3, 1) := by decide +kernel
theorem dL_ingotByMass_13 : decode cL_ingotByMass 13 = .ok (.iconst 1, 1) := by decide +kernel
theorem dL_ingotByMass_14 : decode cL_ingotByMass 14 = .ok (.ireturn, 1) := by decide +kernel
theorem dL_ingotByMass_15 : decode cL_ingotByMass 15 = .ok (.iconst 0, 1) := by decide +kernel
theorem dL_ingotByMass_16 : decode cL_ingotByMass 16 = .ok (.ireturn, 1) := by decide +kernel
theorem dL_charged_0 : decode cL_charged 0 = .ok (.aload_n 2, 1) := by decide +kernel
theorem dL_charged_1 : decode cL_charged 1 = .ok (.iconst 0, 1) := by decide +kernel
theorem dL_charged_2 : decode cL_charged 2 = .ok (.aload_n 0, 1) := by decide +kernel
theorem dL_charged_3 : decode cL_charged 3 = .ok (.iload_n 1, 1) := by decide +kernel
theorem dL_charged_4 : decode cL_charged 4 = .ok (.invokevirtual 119, 3) := by decide +kernel
theorem dL_charged_7 : decode cL_charged 7 = .ok (.i2l, 1) := by decide +kernel
theorem dL_charged_8 : decode cL_charged 8 = .ok (.lastore, 1) := by decide +kernel
theorem dL_charged_9 : decode cL_charged 9 = .ok (.goto 6, 3) := by decide +kernel
theorem dL_charged_12 : decode cL_charged 12 = .ok (.astore_n 3, 1) := by decide +kernel
theorem dL_charged_13 : decode cL_charged 13 = .ok (.iconst 1, 1) := by decide +kernel
theorem dL_charged_14 : decode cL_charged 14 = .ok (.ireturn, 1) := by decide +kernel
theorem dL_charged_15 : decode cL_charged 15 = .ok (.iconst 0, 1) := by decide +kernel
theorem dL_charged_16 : decode cL_charged 16 = .ok (.ireturn, 1) := by decide +kernel
theorem dL_slag_0 : decode cL_slag 0 = .ok (.aload_n 2, 1) := by decide +kernel
theorem dL_slag_1 : decode cL_slag 1 = .ok (.iconst 0, 1) := by decide +kernel
theorem dL_slag_2 : decode cL_slag 2 = .ok (.aload_n 0, 1) := by decide +kernel
theorem dL_slag_3 : decode cL_slag 3 = .ok (.iload_n 1, 1) := by decide +kernel
theorem dL_slag_4 : decode cL_slag 4 = .ok (.invokevirtual 123, 3) := by decide +kernel
theorem dL_slag_7 : decode cL_slag 7 = .ok (.i2l, 1) := by decide +kernel
theorem dL_slag_8 : decode cL_slag 8 = .ok (.lastore, 1) := by decide +kernel
theorem dL_slag_9 : decode cL_slag 9 = .ok (.goto 6, 3) := by decide +kernel
theorem dL_slag_12 : decode cL_slag 12 = .ok (.astore_n 3, 1) := by decide +kernel
theorem dL_slag_13 : decode cL_slag 13 = .ok (.iconst 1, 1) := by decide +kernel
theorem dL_slag_14 : decode cL_slag 14 = .ok (.ireturn, 1) := by decide +kernel
theorem dL_slag_15 : decode cL_slag 15 = .ok (.iconst 0, 1) := by decide +kernel
theorem dL_slag_16 : decode cL_slag 16 = .ok (.ireturn, 1) := by decide +kernel
theorem dL_stock_0 : decode cL_stock 0 = .ok (.aload_n 2, 1) := by decide +kernel
theorem dL_stock_1 : decode cL_stock 1 = .ok (.iconst 0, 1) := by decide +kernel
theorem dL_stock_2 : decode cL_stock 2 = .ok (.aload_n 0, 1) := by decide +kernel
theorem dL_stock_3 : decode cL_stock 3 = .ok (.iload_n 1, 1) := by decide +kernel
theorem dL_stock_4 : decode cL_stock 4 = .ok (.invokevirtual 126, 3) := by decide +kernel
theorem dL_stock_7 : decode cL_stock 7 = .ok (.i2l, 1) := by decide +kernel
theorem dL_stock_8 : decode cL_stock 8 = .ok (.lastore, 1) := by decide +kernel
theorem dL_stock_9 : decode cL_stock 9 = .ok (.goto 6, 3) := by decide +kernel
theorem dL_stock_12 : decode cL_stock 12 = .ok (.astore_n 3, 1) := by decide +kernel
theorem dL_stock_13 : decode cL_stock 13 = .ok (.iconst 1, 1) := by decide +kernel
theorem dL_stock_14 : decode cL_stock 14 = .ok (.ireturn, 1) := by decide +kernel
theorem dL_stock_15 : decode cL_stock 15 = .ok (.iconst 0, 1) := by decide +kernel
theorem dL_stock_16 : decode cL_stock 16 = .ok (.ireturn, 1) := by decide +kernel
theorem dL_stockByAccounts_0 : decode cL_stockByAccounts 0 = .ok (.aload_n 2, 1) := by decide +kernel
theorem dL_stockByAccounts_1 : decode cL_stockByAccounts 1 = .ok (.iconst 0, 1) := by decide +kernel
theorem dL_stockByAccounts_2 : decode cL_stockByAccounts 2 = .ok (.aload_n 0, 1) := by decide +kernel
theorem dL_stockByAccounts_3 : decode cL_stockByAccounts 3 = .ok (.iload_n 1, 1) := by decide +kernel
theorem dL_stockByAccounts_4 : decode cL_stockByAccounts 4 = .ok (.invokevirtual 129, 3) := by decide +kernel
theorem dL_stockByAccounts_7 : decode cL_stockByAccounts 7 = .ok (.i2l, 1) := by decide +kernel
theorem dL_stockByAccounts_8 : decode cL_stockByAccounts 8 = .ok (.lastore, 1) := by decide +kernel
theorem dL_stockByAccounts_9 : decode cL_stockByAccounts 9 = .ok (.goto 6, 3) := by decide +kernel
theorem dL_stockByAccounts_12 : decode cL_stockByAccounts 12 = .ok (.astore_n 3, 1) := by decide +kernel
theorem dL_stockByAccounts_13 : decode cL_stockByAccounts 13 = .ok (.iconst 1, 1) := by decide +kernel
theorem dL_stockByAccounts_14 : decode cL_stockByAccounts 14 = .ok (.ireturn, 1) := by decide +kernel
theorem dL_stockByAccounts_15 : decode cL_stockByAccounts 15 = .ok (.iconst 0, 1) := by decide +kernel
theorem dL_stockByAccounts_16 : decode cL_stockByAccounts 16 = .ok (.ireturn, 1) := by decide +kernel
theorem dL_slagRate_0 : decode cL_slagRate 0 = .ok (.aload_n 1, 1) := by decide +kernel
theorem dL_slagRate_1 : decode cL_slagRate 1 = .ok (.iconst 0, 1) := by decide +kernel
theorem dL_slagRate_2 : decode cL_slagRate 2 = .ok (.aload_n 0, 1) := by decide +kernel
theorem dL_slagRate_3 : decode cL_slagRate 3 = .ok (.invokevirtual 132, 3) := by decide +kernel
theorem dL_slagRate_6 : decode cL_slagRate 6 = .ok (.f2d, 1) := by decide +kernel
theorem dL_slagRate_7 : decode cL_slagRate 7 = .ok (.dastore, 1) := by decide +kernel
theorem dL_slagRate_8 : decode cL_slagRate 8 = .ok (.goto 6, 3) := by decide +kernel
theorem dL_slagRate_11 : decode cL_slagRate 11 = .ok (.astore_n 2, 1) := by decide +kernel
theorem dL_slagRate_12 : decode cL_slagRate 12 = .ok (.iconst 1, 1) := by decide +kernel
theorem dL_slagRate_13 : decode cL_slagRate 13 = .ok (.ireturn, 1) := by decide +kernel
theorem dL_slagRate_14 : decode cL_slagRate 14 = .ok (.iconst 0, 1) := by decide +kernel
theorem dL_slagRate_15 : decode cL_slagRate 15 = .ok (.ireturn, 1) := by decide +kernel
theorem dL_renderFurnace_0 : decode cL_renderFurnace 0 = .ok (.aload_n 2, 1) := by decide +kernel
theorem dL_renderFurnace_1 : decode cL_renderFurnace 1 = .ok (.iconst 0, 1) := by decide +kernel
theorem dL_renderFurnace_2 : decode cL_renderFurnace 2 = .ok (.aload_n 0, 1) := by decide +kernel
theorem dL_renderFurnace_3 : decode cL_renderFurnace 3 = .ok (.iload_n 1, 1) := by decide +kernel
theorem dL_renderFurnace_4 : decode cL_renderFurnace 4 = .ok (.invokevirtual 138, 3) := by decide +kernel
theorem dL_renderFurnace_7 : decode cL_renderFurnace 7 = .ok (.i2l, 1) := by decide +kernel
theorem dL_renderFurnace_8 : decode cL_renderFurnace 8 = .ok (.lastore, 1) := by decide +kernel
theorem dL_renderFurnace_9 : decode cL_renderFurnace 9 = .ok (.goto 6, 3) := by decide +kernel
theorem dL_renderFurnace_12 : decode cL_renderFurnace 12 = .ok (.astore_n 3, 1) := by decide +kernel
theorem dL_renderFurnace_13 : decode cL_renderFurnace 13 = .ok (.iconst 1, 1) := by decide +kernel
theorem dL_renderFurnace_14 : decode cL_renderFurnace 14 = .ok (.ireturn, 1) := by decide +kernel
theorem dL_renderFurnace_15 : decode cL_renderFurnace 15 = .ok (.iconst 0, 1) := by decide +kernel
theorem dL_renderFurnace_16 : decode cL_renderFurnace 16 = .ok (.ireturn, 1) := by decide +kernel
theorem dL_outputAt_0 : decode cL_outputAt 0 = .ok (.aload_n 2, 1) := by decide +kernel
theorem dL_outputAt_1 : decode cL_outputAt 1 = .ok (.iconst 0, 1) := by decide +kernel
theorem dL_outputAt_2 : decode cL_outputAt 2 = .ok (.aload_n 0, 1) := by decide +kernel
theorem dL_outputAt_3 : decode cL_outputAt 3 = .ok (.iload_n 1, 1) := by decide +kernel
theorem dL_outputAt_4 : decode cL_outputAt 4 = .ok (.invokevirtual 141, 3) := by decide +kernel
theorem dL_outputAt_7 : decode cL_outputAt 7 = .ok (.i2l, 1) := by decide +kernel
theorem dL_outputAt_8 : decode cL_outputAt 8 = .ok (.lastore, 1) := by decide +kernel
theorem dL_outputAt_9 : decode cL_outputAt 9 = .ok (.goto 6, 3) := by decide +kernel
theorem dL_outputAt_12 : decode cL_outputAt 12 = .ok (.astore_n 3, 1) := by decide +kernel
theorem dL_outputAt_13 : decode cL_outputAt 13 = .ok (.iconst 1, 1) := by decide +kernel
theorem dL_outputAt_14 : decode cL_outputAt 14 = .ok (.ireturn, 1) := by decide +kernel
theorem dL_outputAt_15 : decode cL_outputAt 15 = .ok (.iconst 0, 1) := by decide +kernel
theorem dL_outputAt_16 : decode cL_outputAt 16 = .ok (.ireturn, 1) := by decide +kernel
theorem dL_type_0 : decode cL_type 0 = .ok (.aload_n 2, 1) := by decide +kernel
theorem dL_type_1 : decode cL_type 1 = .ok (.iconst 0, 1) := by decide +kernel
theorem dL_type_2 : decode cL_type 2 = .ok (.aload_n 0, 1) := by decide +kernel
theorem dL_type_3 : decode cL_type 3 = .ok (.iload_n 1, 1) := by decide +kernel
theorem dL_type_4 : decode cL_type 4 = .ok (.invokevirtual 144, 3) := by decide +kernel
theorem dL_type_7 : decode cL_type 7 = .ok (.i2l, 1) := by decide +kernel
theorem dL_type_8 : decode cL_type 8 = .ok (.lastore, 1) := by decide +kernel
theorem dL_type_9 : decode cL_type 9 = .ok (.goto 9, 3) := by decide +kernel
theorem dL_type_12 : decode cL_type 12 = .ok (.astore_n 3, 1) := by decide +kernel
theorem dL_type_13 : decode cL_type 13 = .ok (.iconst 1, 1) := by decide +kernel
theorem dL_type_14 : decode cL_type 14 = .ok (.ireturn, 1) := by decide +kernel
theorem dL_type_15 : decode cL_type 15 = .ok (.astore_n 3, 1) := by decide +kernel
theorem dL_type_16 : decode cL_type 16 = .ok (.iconst 2, 1) := by decide +kernel
theorem dL_type_17 : decode cL_type 17 = .ok (.ireturn, 1) := by decide +kernel
theorem dL_type_18 : decode cL_type 18 = .ok (.iconst 0, 1) := by decide +kernel
theorem dL_type_19 : decode cL_type 19 = .ok (.ireturn, 1) := by decide +kernel
theorem dL_runScript_0 : decode cL_runScript 0 = .ok (.aload_n 1, 1) := by decide +kernel
theorem dL_runScript_1 : decode cL_runScript 1 = .ok (.iconst 0, 1) := by decide +kernel
theorem dL_runScript_2 : decode cL_runScript 2 = .ok (.aload_n 0, 1) := by decide +kernel
theorem dL_runScript_3 : decode cL_runScript 3 = .ok (.invokevirtual 147, 3) := by decide +kernel
theorem dL_runScript_6 : decode cL_runScript 6 = .ok (.i2l, 1) := by decide +kernel
theorem dL_runScript_7 : decode cL_runScript 7 = .ok (.lastore, 1) := by decide +kernel
theorem dL_runScript_8 : decode cL_runScript 8 = .ok (.goto 9, 3) := by decide +kernel
theorem dL_runScript_11 : decode cL_runScript 11 = .ok (.astore_n 2, 1) := by decide +kernel
theorem dL_runScript_12 : decode cL_runScript 12 = .ok (.iconst 1, 1) := by decide +kernel
theorem dL_runScript_13 : decode cL_runScript 13 = .ok (.ireturn, 1) := by decide +kernel
theorem dL_runScript_14 : decode cL_runScript 14 = .ok (.astore_n 2, 1) := by decide +kernel
theorem dL_runScript_15 : decode cL_runScript 15 = .ok (.iconst 2, 1) := by decide +kernel
theorem dL_runScript_16 : decode cL_runScript 16 = .ok (.ireturn, 1) := by decide +kernel
theorem dL_runScript_17 : decode cL_runScript 17 = .ok (.iconst 0, 1) := by decide +kernel
theorem dL_runScript_18 : decode cL_runScript 18 = .ok (.ireturn, 1) := by decide +kernel
theorem dL_errorPosition_0 : decode cL_errorPosition 0 = .ok (.aload_n 1, 1) := by decide +kernel
theorem dL_errorPosition_1 : decode cL_errorPosition 1 = .ok (.iconst 0, 1) := by decide +kernel
theorem dL_errorPosition_2 : decode cL_errorPosition 2 = .ok (.aload_n 0, 1) := by decide +kernel
theorem dL_errorPosition_3 : decode cL_errorPosition 3 = .ok (.invokevirtual 151, 3) := by decide +kernel
theorem dL_errorPosition_6 : decode cL_errorPosition 6 = .ok (.i2l, 1) := by decide +kernel
theorem dL_errorPosition_7 : decode cL_errorPosition 7 = .ok (.lastore, 1) := by decide +kernel
theorem dL_errorPosition_8 : decode cL_errorPosition 8 = .ok (.goto 6, 3) := by decide +kernel
theorem dL_errorPosition_11 : decode cL_errorPosition 11 = .ok (.astore_n 2, 1) := by decide +kernel
theorem dL_errorPosition_12 : decode cL_errorPosition 12 = .ok (.iconst 1, 1) := by decide +kernel
theorem dL_errorPosition_13 : decode cL_errorPosition 13 = .ok (.ireturn, 1) := by decide +kernel
theorem dL_errorPosition_14 : decode cL_errorPosition 14 = .ok (.iconst 0, 1) := by decide +kernel
theorem dL_errorPosition_15 : decode cL_errorPosition 15 = .ok (.ireturn, 1) := by decide +kernel
theorem dL_failedCommand_0 : decode cL_failedCommand 0 = .ok (.aload_n 1, 1) := by decide +kernel
theorem dL_failedCommand_1 : decode cL_failedCommand 1 = .ok (.iconst 0, 1) := by decide +kernel
theorem dL_failedCommand_2 : decode cL_failedCommand 2 = .ok (.aload_n 0, 1) := by decide +kernel
theorem dL_failedCommand_3 : decode cL_failedCommand 3 = .ok (.invokevirtual 154, 3) := by decide +kernel
theorem dL_failedCommand_6 : decode cL_failedCommand 6 = .ok (.i2l, 1) := by decide +kernel
theorem dL_failedCommand_7 : decode cL_failedCommand 7 = .ok (.lastore, 1) := by decide +kernel
theorem dL_failedCommand_8 : decode cL_failedCommand 8 = .ok (.goto 6, 3) := by decide +kernel
theorem dL_failedCommand_11 : decode cL_failedCommand 11 = .ok (.astore_n 2, 1) := by decide +kernel
theorem dL_failedCommand_12 : decode cL_failedCommand 12 = .ok (.iconst 1, 1) := by decide +kernel
theorem dL_failedCommand_13 : decode cL_failedCommand 13 = .ok (.ireturn, 1) := by decide +kernel
theorem dL_failedCommand_14 : decode cL_failedCommand 14 = .ok (.iconst 0, 1) := by decide +kernel
theorem dL_failedCommand_15 : decode cL_failedCommand 15 = .ok (.ireturn, 1) := by decide +kernel
theorem dL_undo_0 : decode cL_undo 0 = .ok (.aload_n 1, 1) := by decide +kernel
theorem dL_undo_1 : decode cL_undo 1 = .ok (.iconst 0, 1) := by decide +kernel
theorem dL_undo_2 : decode cL_undo 2 = .ok (.aload_n 0, 1) := by decide +kernel
theorem dL_undo_3 : decode cL_undo 3 = .ok (.invokevirtual 157, 3) := by decide +kernel
theorem dL_undo_6 : decode cL_undo 6 = .ok (.i2l, 1) := by decide +kernel
theorem dL_undo_7 : decode cL_undo 7 = .ok (.lastore, 1) := by decide +kernel
theorem dL_undo_8 : decode cL_undo 8 = .ok (.goto 6, 3) := by decide +kernel
theorem dL_undo_11 : decode cL_undo 11 = .ok (.astore_n 2, 1) := by decide +kernel
theorem dL_undo_12 : decode cL_undo 12 = .ok (.iconst 1, 1) := by decide +kernel
theorem dL_undo_13 : decode cL_undo 13 = .ok (.ireturn, 1) := by decide +kernel
theorem dL_undo_14 : decode cL_undo 14 = .ok (.iconst 0, 1) := by decide +kernel
theorem dL_undo_15 : decode cL_undo 15 = .ok (.ireturn, 1) := by decide +kernel
theorem dL_restore_0 : decode cL_restore 0 = .ok (.aload_n 1, 1) := by decide +kernel
theorem dL_restore_1 : decode cL_restore 1 = .ok (.iconst 0, 1) := by decide +kernel
theorem dL_restore_2 : decode cL_restore 2 = .ok (.aload_n 0, 1) := by decide +kernel
theorem dL_restore_3 : decode cL_restore 3 = .ok (.invokevirtual 160, 3) := by decide +kernel
theorem dL_restore_6 : decode cL_restore 6 = .ok (.i2l, 1) := by decide +kernel
theorem dL_restore_7 : decode cL_restore 7 = .ok (.lastore, 1) := by decide +kernel
theorem dL_restore_8 : decode cL_restore 8 = .ok (.goto 6, 3) := by decide +kernel
theorem dL_restore_11 : decode cL_restore 11 = .ok (.astore_n 2, 1) := by decide +kernel
theorem dL_restore_12 : decode cL_restore 12 = .ok (.iconst 1, 1) := by decide +kernel
theorem dL_restore_13 : decode cL_restore 13 = .ok (.ireturn, 1) := by decide +kernel
theorem dL_restore_14 : decode cL_restore 14 = .ok (.iconst 0, 1) := by decide +kernel
theorem dL_restore_15 : decode cL_restore 15 = .ok (.ireturn, 1) := by decide +kernel
theorem lk_13 : Cond.classLink "FoundryLaw" 13 "java/lang/IndexOutOfBoundsException" ∈ lw_all := lw_mem 789 (by decide +kernel) (by decide +kernel)
theorem lk_15 : Cond.classLink "FoundryLaw" 15 "java/lang/IllegalArgumentException" ∈ lw_all := lw_mem 792 (by decide +kernel) (by decide +kernel)
theorem lk_17 : Cond.classLink "FoundryLaw" 17 "java/lang/UnsupportedOperationException" ∈ lw_all := lw_mem 793 (by decide +kernel) (by decide +kernel)
theorem lk_27 : Cond.classLink "FoundryLaw" 27 "java/util/NoSuchElementException" ∈ lw_all := lw_mem 1000 (by decide +kernel) (by decide +kernel)
theorem lk_29 : Cond.classLink "FoundryLaw" 29 "java/lang/IllegalStateException" ∈ lw_all := lw_mem 1001 (by decide +kernel) (by decide +kernel)
theorem lk_136 : Cond.classLink "FoundryLaw" 136 "java/lang/ArithmeticException" ∈ lw_all := lw_mem 1289 (by decide +kernel) (by decide +kernel)
def lkN (n : Nat) : String := if n = 13 then "java/lang/IndexOutOfBoundsException" else if n = 15 then "java/lang/IllegalArgumentException" else if n = 17 then "java/lang/UnsupportedOperationException" else if n = 27 then "java/util/NoSuchElementException" else if n = 29 then "java/lang/IllegalStateException" else "java/lang/ArithmeticException"
def lkNs : List Nat := [13, 15, 17, 27, 29, 136]
theorem lk_all {n : Nat} (h : n ∈ lkNs) : Cond.classLink "FoundryLaw" n (lkN n) ∈ lw_all := by
  simp only [lkNs, List.mem_cons, List.not_mem_nil, or_false] at h
  rcases h with rfl | rfl | rfl | rfl | rfl | rfl
  · exact lk_13
  · exact lk_15
  · exact lk_17
  · exact lk_27
  · exact lk_29
  · exact lk_136
theorem lk_cast {n : Nat} (h : n ∈ lkNs) : Cond.castable (lkN n) (lkN n) ∈ nestWs := by
  simp only [lkNs, List.mem_cons, List.not_mem_nil, or_false] at h
  rcases h with rfl | rfl | rfl | rfl | rfl | rfl
  · exact nw_35
  · exact nw_36
  · exact nw_39
  · exact nw_37
  · exact nw_38
  · exact nw_40
abbrev wsW (y : MethodName) (c : ByteArray) (n : Nat) (r : Option FieldType) (hh : List (Nat × Nat × Nat × Nat)) : List Cond := Cond.codeWith y c n r hh :: lw_all
theorem gVW {w0 : Cond} {y : MethodName} {cy : ByteArray} {ny : Nat} {ry : Option FieldType} {own C : String} {idx : Nat} (h1 : Cond.methodLink own idx y ∈ lw_all) (h2 : Cond.instanceMethod y ∈ lw_all) (h3 : Cond.selects C y y ∈ lw_all) (h4 : Cond.initialized C ∈ lw_all) (h : Cond.code y cy ny ry ∈ lw_all) : GoodIn (w0 :: lw_all) (wsV own idx C y (wsG y cy ny ry)) := by
  intro w hw
  rcases List.mem_append.mp hw with h5 | h5
  · have : w ∈ lw_all := by
      simp only [List.mem_cons, List.not_mem_nil, or_false] at h5
      rcases h5 with rfl | rfl | rfl | rfl <;> assumption
    exact ⟨List.mem_cons_of_mem _ this, lw_good this⟩
  · rcases List.mem_cons.mp h5 with rfl | h2
    · exact ⟨List.mem_cons_of_mem _ h, lw_good h⟩
    · exact ⟨List.mem_cons_of_mem _ h2, lw_good h2⟩
theorem g_metW {l : Launch} {G : GT} {y : MethodName} {ws ws' : List Cond} {rm : Room} {cc : ByteArray} {maxL : Nat} {ret : Option FieldType} {hh : List (Nat × Nat × Nat × Nat)} {av : List Value} {X : St} {Qc : Array Value → State → Outcome → State → Prop} {XC : String → State → State → Prop} {mc ms : Nat} (hy : plainName y.cls = true) (hw : ws = Cond.codeWith y cc maxL ret hh :: ws') (hlen : (lg_sl av).length ≤ maxL)
    (body : ∀ (p : Program) (e : Env) (s : State) (m : MethodId) (below : List Frame) (meth : Method) (c : Code) (ls : Array Slot), Cx p m c cc maxL s av.toArray ws y.cls G → meth.sig.returnType = ret → meth.locks = false → c.exceptionTable.toList = tableOf hh → Wd G X s.heap → lv_has ls maxL (lv_args 0 av) →
      W p l e rm s m av.toArray below meth c s.heap [] 0 0 (vx_MQ below Qc XC av.toArray s mc ms (Ab G)) (F0 m 0 ls [])) : vx_Met l y ws rm (Kp G av X) Qc XC mc ms (Ab G) := by
  refine vx_ofWH (cc := cc) (maxL := maxL) (ret := ret) (hh := hh) hy hw ?_
  intro p e s m args below meth c s₁ B hml hv
  obtain ⟨rfl, hE, hWd⟩ := hv
  rw [lg_entry_eq]
  have hpre := atoms_spec (ws := ws) B.pre
  exact body p e s m below meth c _ ⟨⟨B.exec, B.bytes, hml, findClass_of_methodNamed B.named, hpre⟩, hE⟩ B.returns B.notSynchronized (vx_table (x := y) B (hpre _ (by rw [hw]; exact List.mem_cons_self))) hWd (lv_entry av hlen)
theorem va_swap {D : va_G} {cl : List vw_C} {ws : va_W} {k a : Nat} {e e2 : va_E} {H : Heap} (hk : k < ws.length) (h : va_P D cl (ws.set k (a, e)) H) (he : va_at D cl (a, e) H → va_at D cl (a, e2) H) : va_P D cl (ws.set k (a, e2)) H := by
  intro j q hj
  by_cases hjk : j = k
  · subst hjk
    rw [List.getElem?_set_self hk] at hj
    cases hj
    exact he (h j (a, e) (List.getElem?_set_self hk))
  · rw [List.getElem?_set_ne (Ne.symm hjk)] at hj
    exact h j q (by rw [List.getElem?_set_ne (Ne.symm hjk)]; exact hj)
section LW
variable {p : Program} {l : Launch} {e : Env} {R : Room} {s : State} {m : MethodId} {args : Array Value} {below : List Frame} {meth : Method} {c : Code} {H : Heap} {locs : List Loc} {cells slots mc ms : Nat} {Q : State → Prop}
variable {cc : ByteArray} {nL pc : Nat} {ls : Array Slot} {rest : List Value} {G : GT} {X : St} {Ts : List Cond} {own : String}
theorem g_lst (C : Cx p m c cc nL s args Ts own G) (hW : Wd G X H) (hS : va_S (Ab G) s.heap H locs) {v : Int32} (hdg : decode cc pc = .ok (.lastore, 1))
    (kk : ∀ (H1 : Heap) (locs1 : List Loc), Wd G (sup X 27 0 v) H1 → va_S (Ab G) s.heap H1 locs1 → W p l e R s m args below meth c H1 locs1 cells slots Q (F0 m (pc + 1) ls rest)) : W p l e R s m args below meth c H locs cells slots Q (F0 m pc ls (.long v.toInt64 :: .int 0 :: .ref (ad G 735) :: rest)) := by
  have ha : (wl G X)[735]? = some (ad G 735, .inl (cy G 3, 1, .inr (.inl fun _ => (X.1 27 0).toInt64))) := wl_at (by decide) (by decide) (cell_s (o := 20))
  refine va_last (D := gD G) (f := fun _ => (X.1 27 0).toInt64) C.1.1 C.1.2.1 C.2.1 hW.1 hW.2 hS 735 3 ha rfl (vp_in_nI (n := 0) (N := 1) (by decide) (by decide)) hdg (fun H1 locs1 h1 h2 h3 => ?_)
  have hs : (wl G X).set 735 (ad G 735, .inl (cy G 3, 1, .inr (.inl fun _ => v.toInt64))) = wl G (sup X 27 0 v) := by
    refine wl_set (by decide) (by decide) rfl ?_ (fun j9 h8 h9 => cell_ne h8 (Ne.symm h9))
    exact cell_s (o := 20)
  have h4 := va_swap (e2 := .inl (cy G 3, 1, .inr (.inl fun _ => v.toInt64))) (by rw [wl_len]; decide) h1 (fun h => h)
  rw [hs] at h4
  exact kk H1 locs1 ⟨h4, hs ▸ hW.2.set ha⟩ h3
def lpost (L : List String) (g : Int32 → Int32) (post : Int32 → St → Prop) (postx : String → St → Prop) : Int32 → St → Prop := fun k Y => (k = 0 ∧ ∃ (r : Int32) (Y0 : St), post r Y0 ∧ Y = sup Y0 27 0 (g r)) ∨ ∃ (i : Nat) (E : String), L[i]? = some E ∧ k = nI (i + 1) ∧ postx E Y
def nox : String → St → Prop := fun _ _ => False
/-- the answer goes into the long array, then 0 is answered -/
theorem lw_tail (C : Cx p m c cc nL s args Ts own G) (hr : meth.sig.returnType = some .int) (hlk : meth.locks = false) (hW : Wd G X H) (hS : va_S (Ab G) s.heap H locs) {L : List String} {g : Int32 → Int32} {post : Int32 → St → Prop} {postx : String → St → Prop} {r u : Int32} (hp : post r X) (hu : g r = u) {off : Int} {tgt : Nat}
    (d1 : decode cc pc = .ok (.lastore, 1)) (d2 : decode cc (pc + 1) = .ok (.goto off, 3)) (ht : ((pc + 1 : Nat) : Int) + off = (tgt : Int)) (d3 : decode cc tgt = .ok (.iconst 0, 1)) (d4 : decode cc (tgt + 1) = .ok (.ireturn, 1)) (hc : cells ≤ mc) (hs : slots ≤ ms) :
    W p l e R s m args below meth c H locs cells slots (vx_MQ below (Ki G (lpost L g post postx)) (KX G nox) args s mc ms (Ab G)) (F0 m pc ls [.long u.toInt64, .int 0, .ref (ad G 735)]) := by
  subst hu
  refine g_lst C hW hS d1 (fun H1 locs1 h1 h2 => ?_)
  refine lv_goto C.1.1 C.1.2.1 d2 ht ?_
  refine lv_iconst (v := 0) C.1.1 C.1.2.1 d3 (by decide) ?_
  obtain ⟨k, rfl⟩ := Nat.exists_eq_add_of_le hc
  obtain ⟨n, rfl⟩ := Nat.exists_eq_add_of_le hs
  refine vx_ret ?_
  refine W.widen (k := cells + k) (n := slots + n) (Nat.le_add_right _ _) (Nat.le_add_right _ _) ?_
  exact g_iret C hr hlk h1 h2 d4 (Or.inl ⟨rfl, r, X, hp, rfl⟩)
/-- after a catch: the number of the exception -/
theorem lw_num (C : Cx p m c cc nL s args Ts own G) (hr : meth.sig.returnType = some .int) (hlk : meth.locks = false) (hW : Wd G X H) (hS : va_S (Ab G) s.heap H locs) {L : List String} {g : Int32 → Int32} {post : Int32 → St → Prop} {postx : String → St → Prop} {i : Nat} {E : String} (hE : L[i]? = some E) (hp : postx E X) {k : Int} {v : Int32}
    (hv : v = nI (i + 1)) (hk : Int32.ofInt k = v) (d3 : decode cc pc = .ok (.iconst k, 1)) (d4 : decode cc (pc + 1) = .ok (.ireturn, 1)) (hc : cells ≤ mc) (hs : slots ≤ ms) :
    W p l e R s m args below meth c H locs cells slots (vx_MQ below (Ki G (lpost L g post postx)) (KX G nox) args s mc ms (Ab G)) (F0 m pc ls []) := by
  refine lv_iconst (v := v) C.1.1 C.1.2.1 d3 hk ?_
  obtain ⟨a, rfl⟩ := Nat.exists_eq_add_of_le hc
  obtain ⟨n, rfl⟩ := Nat.exists_eq_add_of_le hs
  refine vx_ret ?_
  refine W.widen (k := cells + a) (n := slots + n) (Nat.le_add_right _ _) (Nat.le_add_right _ _) ?_
  exact g_iret C hr hlk hW hS d4 (Or.inr ⟨i, E, hE, hv, hp⟩)
theorem lw_catch {w0 : Cond} {hh : List (Nat × Nat × Nat × Nat)} (C : Cx p m c cc nL s args (w0 :: lw_all) "FoundryLaw" G) (htab : c.exceptionTable.toList = tableOf hh) (ps : List (Nat × Nat × Nat × Nat)) (q : Nat × Nat × Nat × Nat) (ss : List (Nat × Nat × Nat × Nat)) (hsp : hh = ps ++ q :: ss)
    (hps : ∀ z ∈ ps, z.2.2.2 ∈ lkNs ∧ (lkN q.2.2.2, lkN z.2.2.2) ∈ ncPairs) (hq : q.2.2.2 ∈ lkNs) (hcov : covers ⟨q.1, q.2.1, q.2.2.1, q.2.2.2⟩ pc = true) {ce : Cell} {q9 : Addr} (h1 : H[q9]? = some ce) (h2 : ce.vm = .none) (h3 : s.vm.findClass (lkN q.2.2.2) = some ce.cls)
    (kk : W p l e R s m args below meth c H locs cells slots Q (F0 m q.2.2.1 ls [.ref q9])) : vx_W p l e R s m args below meth c H locs cells slots Q (F0 m pc ls rest) q9 := by
  have hne : ∀ n ∈ lkNs, n ≠ 0 := by decide
  refine vx_catch (E := lkN q.2.2.2) (name := lkN q.2.2.2) C.1.2.2.2.1 (tableOf ps) ⟨q.1, q.2.1, q.2.2.1, q.2.2.2⟩ (tableOf ss) (by rw [htab, hsp]; simp [tableOf]) ?_ hcov (hne _ hq) (C.1.2.2.2.2 _ (mc (lk_all hq))) (va_Nw.use rfl (C.2.2.1.1 _ (lk_cast hq))) h1 h2 h3 kk
  intro z hz
  obtain ⟨z0, hz0, rfl⟩ := List.mem_map.mp hz
  obtain ⟨h5, h6⟩ := hps z0 hz0
  exact Or.inr ⟨hne _ h5, lkN z0.2.2.2, C.1.2.2.2.2 _ (mc (lk_all h5)), C.2.2.1.2 _ h6⟩
end LW
