theorem dX10_pieceAt_8 : decode cX10_pieceAt 8 = .ok (.astore_n 2, 1) := by decide +kernel
theorem dX10_pieceAt_9 : decode cX10_pieceAt 9 = .ok (.aload_n 2, 1) := by decide +kernel
theorem dX10_pieceAt_10 : decode cX10_pieceAt 10 = .ok (.ifnonnull 13, 3) := by decide +kernel
theorem dX10_pieceAt_13 : decode cX10_pieceAt 13 = .ok (.new 115, 3) := by decide +kernel
theorem dX10_pieceAt_16 : decode cX10_pieceAt 16 = .ok (.dup, 1) := by decide +kernel
theorem dX10_pieceAt_17 : decode cX10_pieceAt 17 = .ok (.ldc 181, 2) := by decide +kernel
theorem dX10_pieceAt_19 : decode cX10_pieceAt 19 = .ok (.invokespecial 119, 3) := by decide +kernel
theorem dX10_pieceAt_22 : decode cX10_pieceAt 22 = .ok (.athrow, 1) := by decide +kernel
theorem dX10_pieceAt_23 : decode cX10_pieceAt 23 = .ok (.aload_n 2, 1) := by decide +kernel
theorem dX10_pieceAt_24 : decode cX10_pieceAt 24 = .ok (.getfield 183, 3) := by decide +kernel
theorem dX10_pieceAt_27 : decode cX10_pieceAt 27 = .ok (.ireturn, 1) := by decide +kernel
theorem dX10_kind_0 : decode cX10_kind 0 = .ok (.aload_n 0, 1) := by decide +kernel
theorem dX10_kind_1 : decode cX10_kind 1 = .ok (.iload_n 1, 1) := by decide +kernel
theorem dX10_kind_2 : decode cX10_kind 2 = .ok (.invokevirtual 188, 3) := by decide +kernel
theorem dX10_kind_5 : decode cX10_kind 5 = .ok (.getfield 191, 3) := by decide +kernel
theorem dX10_kind_8 : decode cX10_kind 8 = .ok (.ireturn, 1) := by decide +kernel
theorem dX10_temperature_0 : decode cX10_temperature 0 = .ok (.aload_n 0, 1) := by decide +kernel
theorem dX10_temperature_1 : decode cX10_temperature 1 = .ok (.iload_n 1, 1) := by decide +kernel
theorem dX10_temperature_2 : decode cX10_temperature 2 = .ok (.invokevirtual 188, 3) := by decide +kernel
theorem dX10_temperature_5 : decode cX10_temperature 5 = .ok (.getfield 195, 3) := by decide +kernel
theorem dX10_temperature_8 : decode cX10_temperature 8 = .ok (.ireturn, 1) := by decide +kernel
theorem dX10_stages_0 : decode cX10_stages 0 = .ok (.aload_n 0, 1) := by decide +kernel
theorem dX10_stages_1 : decode cX10_stages 1 = .ok (.iload_n 1, 1) := by decide +kernel
theorem dX10_stages_2 : decode cX10_stages 2 = .ok (.invokevirtual 188, 3) := by decide +kernel
theorem dX10_stages_5 : decode cX10_stages 5 = .ok (.getfield 196, 3) := by decide +kernel
theorem dX10_stages_8 : decode cX10_stages 8 = .ok (.ireturn, 1) := by decide +kernel
theorem dX10_hardness_0 : decode cX10_hardness 0 = .ok (.aload_n 0, 1) := by decide +kernel
theorem dX10_hardness_1 : decode cX10_hardness 1 = .ok (.iload_n 1, 1) := by decide +kernel
theorem dX10_hardness_2 : decode cX10_hardness 2 = .ok (.invokevirtual 188, 3) := by decide +kernel
theorem dX10_hardness_5 : decode cX10_hardness 5 = .ok (.getfield 199, 3) := by decide +kernel
theorem dX10_hardness_8 : decode cX10_hardness 8 = .ok (.ireturn, 1) := by decide +kernel
theorem dX10_isInFurnace_0 : decode cX10_isInFurnace 0 = .ok (.aload_n 0, 1) := by decide +kernel
theorem dX10_isInFurnace_1 : decode cX10_isInFurnace 1 = .ok (.iload_n 1, 1) := by decide +kernel
theorem dX10_isInFurnace_2 : decode cX10_isInFurnace 2 = .ok (.invokevirtual 188, 3) := by decide +kernel
theorem dX10_isInFurnace_5 : decode cX10_isInFurnace 5 = .ok (.getfield 202, 3) := by decide +kernel
theorem dX10_isInFurnace_8 : decode cX10_isInFurnace 8 = .ok (.ireturn, 1) := by decide +kernel
theorem dX10_isQuenched_0 : decode cX10_isQuenched 0 = .ok (.aload_n 0, 1) := by decide +kernel
theorem dX10_isQuenched_1 : decode cX10_isQuenched 1 = .ok (.iload_n 1, 1) := by decide +kernel
theorem dX10_isQuenched_2 : decode cX10_isQuenched 2 = .ok (.invokevirtual 188, 3) := by decide +kernel
theorem dX10_isQuenched_5 : decode cX10_isQuenched 5 = .ok (.getfield 205, 3) := by decide +kernel
theorem dX10_isQuenched_8 : decode cX10_isQuenched 8 = .ok (.ireturn, 1) := by decide +kernel
theorem dX10_hasPassed_0 : decode cX10_hasPassed 0 = .ok (.aload_n 0, 1) := by decide +kernel
theorem dX10_hasPassed_1 : decode cX10_hasPassed 1 = .ok (.iload_n 1, 1) := by decide +kernel
theorem dX10_hasPassed_2 : decode cX10_hasPassed 2 = .ok (.invokevirtual 188, 3) := by decide +kernel
theorem dX10_hasPassed_5 : decode cX10_hasPassed 5 = .ok (.getfield 208, 3) := by decide +kernel
theorem dX10_hasPassed_8 : decode cX10_hasPassed 8 = .ok (.getstatic 212, 3) := by decide +kernel
theorem dX10_hasPassed_11 : decode cX10_hasPassed 11 = .ok (.if_acmp .ne 7, 3) := by decide +kernel
theorem dX10_hasPassed_14 : decode cX10_hasPassed 14 = .ok (.iconst 1, 1) := by decide +kernel
theorem dX10_hasPassed_15 : decode cX10_hasPassed 15 = .ok (.goto 4, 3) := by decide +kernel
theorem dX10_hasPassed_18 : decode cX10_hasPassed 18 = .ok (.iconst 0, 1) := by decide +kernel
theorem dX10_hasPassed_19 : decode cX10_hasPassed 19 = .ok (.ireturn, 1) := by decide +kernel
theorem dX10_stroke_0 : decode cX10_stroke 0 = .ok (.aload_n 0, 1) := by decide +kernel
theorem dX10_stroke_1 : decode cX10_stroke 1 = .ok (.iload_n 1, 1) := by decide +kernel
theorem dX10_stroke_2 : decode cX10_stroke 2 = .ok (.invokevirtual 188, 3) := by decide +kernel
theorem dX10_stroke_5 : decode cX10_stroke 5 = .ok (.astore_n 3, 1) := by decide +kernel
theorem dX10_stroke_6 : decode cX10_stroke 6 = .ok (.aload_n 3, 1) := by decide +kernel
theorem dX10_stroke_7 : decode cX10_stroke 7 = .ok (.aload_n 0, 1) := by decide +kernel
theorem dX10_stroke_8 : decode cX10_stroke 8 = .ok (.iload_n 2, 1) := by decide +kernel
theorem dX10_stroke_9 : decode cX10_stroke 9 = .ok (.invokevirtual 217, 3) := by decide +kernel
theorem dX10_stroke_12 : decode cX10_stroke 12 = .ok (.getfield 221, 3) := by decide +kernel
theorem dX10_stroke_15 : decode cX10_stroke 15 = .ok (.invokevirtual 226, 3) := by decide +kernel
theorem dX10_stroke_18 : decode cX10_stroke 18 = .ok (.ireturn, 1) := by decide +kernel
theorem dX10_minutesToCool_0 : decode cX10_minutesToCool 0 = .ok (.aload_n 0, 1) := by decide +kernel
theorem dX10_minutesToCool_1 : decode cX10_minutesToCool 1 = .ok (.iload_n 1, 1) := by decide +kernel
theorem dX10_minutesToCool_2 : decode cX10_minutesToCool 2 = .ok (.iload_n 2, 1) := by decide +kernel
theorem dX10_minutesToCool_3 : decode cX10_minutesToCool 3 = .ok (.invokevirtual 229, 3) := by decide +kernel
theorem dX10_minutesToCool_6 : decode cX10_minutesToCool 6 = .ok (.aload_n 0, 1) := by decide +kernel
theorem dX10_minutesToCool_7 : decode cX10_minutesToCool 7 = .ok (.aload_n 0, 1) := by decide +kernel
theorem dX10_minutesToCool_8 : decode cX10_minutesToCool 8 = .ok (.getfield 32, 3) := by decide +kernel
theorem dX10_minutesToCool_11 : decode cX10_minutesToCool 11 = .ok (.aload_n 0, 1) := by decide +kernel
theorem dX10_minutesToCool_12 : decode cX10_minutesToCool 12 = .ok (.getfield 10, 3) := by decide +kernel
theorem dX10_minutesToCool_15 : decode cX10_minutesToCool 15 = .ok (.iload_n 1, 1) := by decide +kernel
theorem dX10_minutesToCool_16 : decode cX10_minutesToCool 16 = .ok (.iload_n 2, 1) := by decide +kernel
theorem dX10_minutesToCool_17 : decode cX10_minutesToCool 17 = .ok (.invokevirtual 233, 3) := by decide +kernel
theorem dX10_minutesToCool_20 : decode cX10_minutesToCool 20 = .ok (.invokevirtual 237, 3) := by decide +kernel
theorem dX10_minutesToCool_23 : decode cX10_minutesToCool 23 = .ok (.ireturn, 1) := by decide +kernel
theorem dX10_minutesToCoolAlone_0 : decode cX10_minutesToCoolAlone 0 = .ok (.aload_n 0, 1) := by decide +kernel
theorem dX10_minutesToCoolAlone_1 : decode cX10_minutesToCoolAlone 1 = .ok (.iload_n 1, 1) := by decide +kernel
theorem dX10_minutesToCoolAlone_2 : decode cX10_minutesToCoolAlone 2 = .ok (.iload_n 2, 1) := by decide +kernel
theorem dX10_minutesToCoolAlone_3 : decode cX10_minutesToCoolAlone 3 = .ok (.invokevirtual 229, 3) := by decide +kernel
theorem dX10_minutesToCoolAlone_6 : decode cX10_minutesToCoolAlone 6 = .ok (.aload_n 0, 1) := by decide +kernel
theorem dX10_minutesToCoolAlone_7 : decode cX10_minutesToCoolAlone 7 = .ok (.aload_n 0, 1) := by decide +kernel
theorem dX10_minutesToCoolAlone_8 : decode cX10_minutesToCoolAlone 8 = .ok (.getfield 32, 3) := by decide +kernel
theorem dX10_minutesToCoolAlone_11 : decode cX10_minutesToCoolAlone 11 = .ok (.aload_n 0, 1) := by decide +kernel
theorem dX10_minutesToCoolAlone_12 : decode cX10_minutesToCoolAlone 12 = .ok (.getfield 10, 3) := by decide +kernel
theorem dX10_minutesToCoolAlone_15 : decode cX10_minutesToCoolAlone 15 = .ok (.iload_n 1, 1) := by decide +kernel
theorem dX10_minutesToCoolAlone_16 : decode cX10_minutesToCoolAlone 16 = .ok (.iload_n 2, 1) := by decide +kernel
theorem dX10_minutesToCoolAlone_17 : decode cX10_minutesToCoolAlone 17 = .ok (.invokevirtual 240, 3) := by decide +kernel
theorem dX10_minutesToCoolAlone_20 : decode cX10_minutesToCoolAlone 20 = .ok (.invokevirtual 237, 3) := by decide +kernel
theorem dX10_minutesToCoolAlone_23 : decode cX10_minutesToCoolAlone 23 = .ok (.ireturn, 1) := by decide +kernel
theorem dX10_pieceAtRank_0 : decode cX10_pieceAtRank 0 = .ok (.aload_n 0, 1) := by decide +kernel
theorem dX10_pieceAtRank_1 : decode cX10_pieceAtRank 1 = .ok (.getfield 10, 3) := by decide +kernel
theorem dX10_pieceAtRank_4 : decode cX10_pieceAtRank 4 = .ok (.iload_n 1, 1) := by decide +kernel
theorem dX10_pieceAtRank_5 : decode cX10_pieceAtRank 5 = .ok (.invokevirtual 243, 3) := by decide +kernel
theorem dX10_pieceAtRank_8 : decode cX10_pieceAtRank 8 = .ok (.astore_n 2, 1) := by decide +kernel
theorem dX10_pieceAtRank_9 : decode cX10_pieceAtRank 9 = .ok (.aload_n 2, 1) := by decide +kernel
theorem dX10_pieceAtRank_10 : decode cX10_pieceAtRank 10 = .ok (.ifnonnull 13, 3) := by decide +kernel
theorem dX10_pieceAtRank_13 : decode cX10_pieceAtRank 13 = .ok (.new 115, 3) := by decide +kernel
theorem dX10_pieceAtRank_16 : decode cX10_pieceAtRank 16 = .ok (.dup, 1) := by decide +kernel
theorem dX10_pieceAtRank_17 : decode cX10_pieceAtRank 17 = .ok (.ldc 246, 2) := by decide +kernel
theorem dX10_pieceAtRank_19 : decode cX10_pieceAtRank 19 = .ok (.invokespecial 119, 3) := by decide +kernel
theorem dX10_pieceAtRank_22 : decode cX10_pieceAtRank 22 = .ok (.athrow, 1) := by decide +kernel
theorem dX10_pieceAtRank_23 : decode cX10_pieceAtRank 23 = .ok (.aload_n 2, 1) := by decide +kernel
theorem dX10_pieceAtRank_24 : decode cX10_pieceAtRank 24 = .ok (.getfield 183, 3) := by decide +kernel
theorem dX10_pieceAtRank_27 : decode cX10_pieceAtRank 27 = .ok (.ireturn, 1) := by decide +kernel
theorem dX10_required_0 : decode cX10_required 0 = .ok (.aload_n 0, 1) := by decide +kernel
theorem dX10_required_1 : decode cX10_required 1 = .ok (.getfield 10, 3) := by decide +kernel
theorem dX10_required_4 : decode cX10_required 4 = .ok (.iload_n 1, 1) := by decide +kernel
theorem dX10_required_5 : decode cX10_required 5 = .ok (.invokevirtual 174, 3) := by decide +kernel
theorem dX10_required_8 : decode cX10_required 8 = .ok (.astore_n 2, 1) := by decide +kernel
theorem dX10_required_9 : decode cX10_required 9 = .ok (.aload_n 2, 1) := by decide +kernel
theorem dX10_required_10 : decode cX10_required 10 = .ok (.ifnonnull 13, 3) := by decide +kernel
theorem dX10_required_13 : decode cX10_required 13 = .ok (.new 108, 3) := by decide +kernel
theorem dX10_required_16 : decode cX10_required 16 = .ok (.dup, 1) := by decide +kernel
theorem dX10_required_17 : decode cX10_required 17 = .ok (.ldc 110, 2) := by decide +kernel
theorem dX10_required_19 : decode cX10_required 19 = .ok (.invokespecial 112, 3) := by decide +kernel
theorem dX10_required_22 : decode cX10_required 22 = .ok (.athrow, 1) := by decide +kernel
theorem dX10_required_23 : decode cX10_required 23 = .ok (.aload_n 2, 1) := by decide +kernel
theorem dX10_required_24 : decode cX10_required 24 = .ok (.areturn, 1) := by decide +kernel
theorem dX10_checkCooling_0 : decode cX10_checkCooling 0 = .ok (.aload_n 0, 1) := by decide +kernel
theorem dX10_checkCooling_1 : decode cX10_checkCooling 1 = .ok (.getfield 10, 3) := by decide +kernel
theorem dX10_checkCooling_4 : decode cX10_checkCooling 4 = .ok (.iload_n 1, 1) := by decide +kernel
theorem dX10_checkCooling_5 : decode cX10_checkCooling 5 = .ok (.invokevirtual 174, 3) := by decide +kernel
theorem dX10_checkCooling_8 : decode cX10_checkCooling 8 = .ok (.ifnonnull 13, 3) := by decide +kernel
theorem dX10_checkCooling_11 : decode cX10_checkCooling 11 = .ok (.new 108, 3) := by decide +kernel
theorem dX10_checkCooling_14 : decode cX10_checkCooling 14 = .ok (.dup, 1) := by decide +kernel
theorem dX10_checkCooling_15 : decode cX10_checkCooling 15 = .ok (.ldc 110, 2) := by decide +kernel
theorem dX10_checkCooling_17 : decode cX10_checkCooling 17 = .ok (.invokespecial 112, 3) := by decide +kernel
theorem dX10_checkCooling_20 : decode cX10_checkCooling 20 = .ok (.athrow, 1) := by decide +kernel
theorem dX10_checkCooling_21 : decode cX10_checkCooling 21 = .ok (.iload_n 2, 1) := by decide +kernel
theorem dX10_checkCooling_22 : decode cX10_checkCooling 22 = .ok (.bipush 20, 2) := by decide +kernel
theorem dX10_checkCooling_24 : decode cX10_checkCooling 24 = .ok (.if_icmp .lt 10, 3) := by decide +kernel
theorem dX10_checkCooling_27 : decode cX10_checkCooling 27 = .ok (.iload_n 2, 1) := by decide +kernel
theorem dX10_checkCooling_28 : decode cX10_checkCooling 28 = .ok (.sipush 1200, 3) := by decide +kernel
theorem dX10_checkCooling_31 : decode cX10_checkCooling 31 = .ok (.if_icmp .le 13, 3) := by decide +kernel
theorem dX10_checkCooling_34 : decode cX10_checkCooling 34 = .ok (.new 120, 3) := by decide +kernel
theorem dX10_checkCooling_37 : decode cX10_checkCooling 37 = .ok (.dup, 1) := by decide +kernel
theorem dX10_checkCooling_38 : decode cX10_checkCooling 38 = .ok (.ldc 248, 2) := by decide +kernel
theorem dX10_checkCooling_40 : decode cX10_checkCooling 40 = .ok (.invokespecial 124, 3) := by decide +kernel
theorem dX10_checkCooling_43 : decode cX10_checkCooling 43 = .ok (.athrow, 1) := by decide +kernel
theorem dX10_checkCooling_44 : decode cX10_checkCooling 44 = .ok (.return_, 1) := by decide +kernel
theorem dX10_foundMinutes_0 : decode cX10_foundMinutes 0 = .ok (.iload_n 1, 1) := by decide +kernel
theorem dX10_foundMinutes_1 : decode cX10_foundMinutes 1 = .ok (.iconst (-1), 1) := by decide +kernel
theorem dX10_foundMinutes_2 : decode cX10_foundMinutes 2 = .ok (.if_icmp .ne 13, 3) := by decide +kernel
theorem dX10_foundMinutes_5 : decode cX10_foundMinutes 5 = .ok (.new 125, 3) := by decide +kernel
theorem dX10_foundMinutes_8 : decode cX10_foundMinutes 8 = .ok (.dup, 1) := by decide +kernel
theorem dX10_foundMinutes_9 : decode cX10_foundMinutes 9 = .ok (.ldc 250, 2) := by decide +kernel
theorem dX10_foundMinutes_11 : decode cX10_foundMinutes 11 = .ok (.invokespecial 129, 3) := by decide +kernel
theorem dX10_foundMinutes_14 : decode cX10_foundMinutes 14 = .ok (.athrow, 1) := by decide +kernel
theorem dX10_foundMinutes_15 : decode cX10_foundMinutes 15 = .ok (.iload_n 1, 1) := by decide +kernel
theorem dX10_foundMinutes_16 : decode cX10_foundMinutes 16 = .ok (.ireturn, 1) := by decide +kernel
theorem dX10_hammerCount_0 : decode cX10_hammerCount 0 = .ok (.aload_n 0, 1) := by decide +kernel
theorem dX10_hammerCount_1 : decode cX10_hammerCount 1 = .ok (.getfield 10, 3) := by decide +kernel
theorem dX10_hammerCount_4 : decode cX10_hammerCount 4 = .ok (.getfield 252, 3) := by decide +kernel
theorem dX10_hammerCount_7 : decode cX10_hammerCount 7 = .ok (.ireturn, 1) := by decide +kernel
theorem dX10_weight_0 : decode cX10_weight 0 = .ok (.aload_n 0, 1) := by decide +kernel
theorem dX10_weight_1 : decode cX10_weight 1 = .ok (.iload_n 1, 1) := by decide +kernel
theorem dX10_weight_2 : decode cX10_weight 2 = .ok (.invokevirtual 217, 3) := by decide +kernel
theorem dX10_weight_5 : decode cX10_weight 5 = .ok (.getfield 221, 3) := by decide +kernel
theorem dX10_weight_8 : decode cX10_weight 8 = .ok (.ireturn, 1) := by decide +kernel
theorem dX10_wear_0 : decode cX10_wear 0 = .ok (.aload_n 0, 1) := by decide +kernel
theorem dX10_wear_1 : decode cX10_wear 1 = .ok (.iload_n 1, 1) := by decide +kernel
theorem dX10_wear_2 : decode cX10_wear 2 = .ok (.invokevirtual 217, 3) := by decide +kernel
theorem dX10_wear_5 : decode cX10_wear 5 = .ok (.getfield 255, 3) := by decide +kernel
theorem dX10_wear_8 : decode cX10_wear 8 = .ok (.ireturn, 1) := by decide +kernel
theorem dX10_heaviestHammer_0 : decode cX10_heaviestHammer 0 = .ok (.aload_n 0, 1) := by decide +kernel
theorem dX10_heaviestHammer_1 : decode cX10_heaviestHammer 1 = .ok (.getfield 10, 3) := by decide +kernel
theorem dX10_heaviestHammer_4 : decode cX10_heaviestHammer 4 = .ok (.invokevirtual 258, 3) := by decide +kernel
theorem dX10_heaviestHammer_7 : decode cX10_heaviestHammer 7 = .ok (.istore_n 1, 1) := by decide +kernel
theorem dX10_heaviestHammer_8 : decode cX10_heaviestHammer 8 = .ok (.iload_n 1, 1) := by decide +kernel
theorem dX10_heaviestHammer_9 : decode cX10_heaviestHammer 9 = .ok (.iconst (-1), 1) := by decide +kernel
theorem dX10_heaviestHammer_10 : decode cX10_heaviestHammer 10 = .ok (.if_icmp .ne 14, 3) := by decide +kernel
theorem dX10_heaviestHammer_13 : decode cX10_heaviestHammer 13 = .ok (.new 108, 3) := by decide +kernel
theorem dX10_heaviestHammer_16 : decode cX10_heaviestHammer 16 = .ok (.dup, 1) := by decide +kernel
theorem dX10_heaviestHammer_17 : decode cX10_heaviestHammer 17 = .ok (.ldc_w 261, 3) := by decide +kernel
theorem dX10_heaviestHammer_20 : decode cX10_heaviestHammer 20 = .ok (.invokespecial 112, 3) := by decide +kernel
theorem dX10_heaviestHammer_23 : decode cX10_heaviestHammer 23 = .ok (.athrow, 1) := by decide +kernel
theorem dX10_heaviestHammer_24 : decode cX10_heaviestHammer 24 = .ok (.iload_n 1, 1) := by decide +kernel
theorem dX10_heaviestHammer_25 : decode cX10_heaviestHammer 25 = .ok (.ireturn, 1) := by decide +kernel
theorem dX10_requiredHammer_0 : decode cX10_requiredHammer 0 = .ok (.aload_n 0, 1) := by decide +kernel
theorem dX10_requiredHammer_1 : decode cX10_requiredHammer 1 = .ok (.getfield 10, 3) := by decide +kernel
theorem dX10_requiredHammer_4 : decode cX10_requiredHammer 4 = .ok (.iload_n 1, 1) := by decide +kernel
theorem dX10_requiredHammer_5 : decode cX10_requiredHammer 5 = .ok (.invokevirtual 263, 3) := by decide +kernel
theorem dX10_requiredHammer_8 : decode cX10_requiredHammer 8 = .ok (.astore_n 2, 1) := by decide +kernel
theorem dX10_requiredHammer_9 : decode cX10_requiredHammer 9 = .ok (.aload_n 2, 1) := by decide +kernel
theorem dX10_requiredHammer_10 : decode cX10_requiredHammer 10 = .ok (.ifnonnull 13, 3) := by decide +kernel
theorem dX10_requiredHammer_13 : decode cX10_requiredHammer 13 = .ok (.new 115, 3) := by decide +kernel
theorem dX10_requiredHammer_16 : decode cX10_requiredHammer 16 = .ok (.dup, 1) := by decide +kernel
theorem dX10_requiredHammer_17 : decode cX10_requiredHammer 17 = .ok (.ldc 117, 2) := by decide +kernel
theorem dX10_requiredHammer_19 : decode cX10_requiredHammer 19 = .ok (.invokespecial 119, 3) := by decide +kernel
theorem dX10_requiredHammer_22 : decode cX10_requiredHammer 22 = .ok (.athrow, 1) := by decide +kernel
theorem dX10_requiredHammer_23 : decode cX10_requiredHammer 23 = .ok (.aload_n 2, 1) := by decide +kernel
theorem dX10_requiredHammer_24 : decode cX10_requiredHammer 24 = .ok (.areturn, 1) := by decide +kernel
theorem dX10_strokeTotal_0 : decode cX10_strokeTotal 0 = .ok (.aload_n 0, 1) := by decide +kernel
theorem dX10_strokeTotal_1 : decode cX10_strokeTotal 1 = .ok (.getfield 10, 3) := by decide +kernel
theorem dX10_strokeTotal_4 : decode cX10_strokeTotal 4 = .ok (.getfield 266, 3) := by decide +kernel
theorem dX10_strokeTotal_7 : decode cX10_strokeTotal 7 = .ok (.ireturn, 1) := by decide +kernel
theorem dX10_birdTotal_0 : decode cX10_birdTotal 0 = .ok (.aload_n 0, 1) := by decide +kernel
theorem dX10_birdTotal_1 : decode cX10_birdTotal 1 = .ok (.getfield 10, 3) := by decide +kernel
theorem dX10_birdTotal_4 : decode cX10_birdTotal 4 = .ok (.getfield 269, 3) := by decide +kernel
theorem dX10_birdTotal_7 : decode cX10_birdTotal 7 = .ok (.ireturn, 1) := by decide +kernel
theorem dX10_burntTotal_0 : decode cX10_burntTotal 0 = .ok (.aload_n 0, 1) := by decide +kernel
theorem dX10_burntTotal_1 : decode cX10_burntTotal 1 = .ok (.getfield 10, 3) := by decide +kernel
theorem dX10_burntTotal_4 : decode cX10_burntTotal 4 = .ok (.getfield 141, 3) := by decide +kernel
theorem dX10_burntTotal_7 : decode cX10_burntTotal 7 = .ok (.getfield 272, 3) := by decide +kernel
theorem dX10_burntTotal_10 : decode cX10_burntTotal 10 = .ok (.lreturn, 1) := by decide +kernel
theorem dX10_meanHardness_0 : decode cX10_meanHardness 0 = .ok (.aload_n 0, 1) := by decide +kernel
theorem dX10_meanHardness_1 : decode cX10_meanHardness 1 = .ok (.getfield 10, 3) := by decide +kernel
theorem dX10_meanHardness_4 : decode cX10_meanHardness 4 = .ok (.getfield 171, 3) := by decide +kernel
theorem dX10_meanHardness_7 : decode cX10_meanHardness 7 = .ok (.ifCond .ne 14, 3) := by decide +kernel
theorem dX10_meanHardness_10 : decode cX10_meanHardness 10 = .ok (.new 156, 3) := by decide +kernel
theorem dX10_meanHardness_13 : decode cX10_meanHardness 13 = .ok (.dup, 1) := by decide +kernel
theorem dX10_meanHardness_14 : decode cX10_meanHardness 14 = .ok (.ldc_w 276, 3) := by decide +kernel
theorem dX10_meanHardness_17 : decode cX10_meanHardness 17 = .ok (.invokespecial 160, 3) := by decide +kernel
theorem dX10_meanHardness_20 : decode cX10_meanHardness 20 = .ok (.athrow, 1) := by decide +kernel
theorem dX10_meanHardness_21 : decode cX10_meanHardness 21 = .ok (.aload_n 0, 1) := by decide +kernel
theorem dX10_meanHardness_22 : decode cX10_meanHardness 22 = .ok (.getfield 10, 3) := by decide +kernel
theorem dX10_meanHardness_25 : decode cX10_meanHardness 25 = .ok (.invokevirtual 278, 3) := by decide +kernel
theorem dX10_meanHardness_28 : decode cX10_meanHardness 28 = .ok (.i2d, 1) := by decide +kernel
theorem dX10_meanHardness_29 : decode cX10_meanHardness 29 = .ok (.aload_n 0, 1) := by decide +kernel
theorem dX10_meanHardness_30 : decode cX10_meanHardness 30 = .ok (.getfield 10, 3) := by decide +kernel
theorem dX10_meanHardness_33 : decode cX10_meanHardness 33 = .ok (.getfield 171, 3) := by decide +kernel
theorem dX10_meanHardness_36 : decode cX10_meanHardness 36 = .ok (.i2d, 1) := by decide +kernel
theorem dX10_meanHardness_37 : decode cX10_meanHardness 37 = .ok (.ddiv, 1) := by decide +kernel
theorem dX10_meanHardness_38 : decode cX10_meanHardness 38 = .ok (.dreturn, 1) := by decide +kernel
theorem dX10_passShare_0 : decode cX10_passShare 0 = .ok (.aload_n 0, 1) := by decide +kernel
theorem dX10_passShare_1 : decode cX10_passShare 1 = .ok (.getfield 10, 3) := by decide +kernel
theorem dX10_passShare_4 : decode cX10_passShare 4 = .ok (.getfield 281, 3) := by decide +kernel
theorem dX10_passShare_7 : decode cX10_passShare 7 = .ok (.ifCond .ne 14, 3) := by decide +kernel
theorem dX10_passShare_10 : decode cX10_passShare 10 = .ok (.new 156, 3) := by decide +kernel
theorem dX10_passShare_13 : decode cX10_passShare 13 = .ok (.dup, 1) := by decide +kernel
theorem dX10_passShare_14 : decode cX10_passShare 14 = .ok (.ldc_w 284, 3) := by decide +kernel
theorem dX10_passShare_17 : decode cX10_passShare 17 = .ok (.invokespecial 160, 3) := by decide +kernel
theorem dX10_passShare_20 : decode cX10_passShare 20 = .ok (.athrow, 1) := by decide +kernel
theorem dX10_passShare_21 : decode cX10_passShare 21 = .ok (.aload_n 0, 1) := by decide +kernel
theorem dX10_passShare_22 : decode cX10_passShare 22 = .ok (.getfield 10, 3) := by decide +kernel
theorem dX10_passShare_25 : decode cX10_passShare 25 = .ok (.getfield 286, 3) := by decide +kernel
theorem dX10_passShare_28 : decode cX10_passShare 28 = .ok (.i2f, 1) := by decide +kernel
theorem dX10_passShare_29 : decode cX10_passShare 29 = .ok (.aload_n 0, 1) := by decide +kernel
theorem dX10_passShare_30 : decode cX10_passShare 30 = .ok (.getfield 10, 3) := by decide +kernel
theorem dX10_passShare_33 : decode cX10_passShare 33 = .ok (.getfield 281, 3) := by decide +kernel
theorem dX10_passShare_36 : decode cX10_passShare 36 = .ok (.i2f, 1) := by decide +kernel
theorem dX10_passShare_37 : decode cX10_passShare 37 = .ok (.fdiv, 1) := by decide +kernel
theorem dX10_passShare_38 : decode cX10_passShare 38 = .ok (.freturn, 1) := by decide +kernel
theorem dX10_isConsistent_0 : decode cX10_isConsistent 0 = .ok (.aload_n 0, 1) := by decide +kernel
theorem dX10_isConsistent_1 : decode cX10_isConsistent 1 = .ok (.getfield 10, 3) := by decide +kernel
theorem dX10_isConsistent_4 : decode cX10_isConsistent 4 = .ok (.invokevirtual 289, 3) := by decide +kernel
theorem dX10_isConsistent_7 : decode cX10_isConsistent 7 = .ok (.ifCond .eq 41, 3) := by decide +kernel
theorem dX10_isConsistent_10 : decode cX10_isConsistent 10 = .ok (.aload_n 0, 1) := by decide +kernel
theorem dX10_isConsistent_11 : decode cX10_isConsistent 11 = .ok (.getfield 10, 3) := by decide +kernel
theorem dX10_isConsistent_14 : decode cX10_isConsistent 14 = .ok (.invokevirtual 293, 3) := by decide +kernel
theorem dX10_isConsistent_17 : decode cX10_isConsistent 17 = .ok (.ifCond .eq 31, 3) := by decide +kernel
theorem dX10_isConsistent_20 : decode cX10_isConsistent 20 = .ok (.aload_n 0, 1) := by decide +kernel
theorem dX10_isConsistent_21 : decode cX10_isConsistent 21 = .ok (.getfield 10, 3) := by decide +kernel
theorem dX10_isConsistent_24 : decode cX10_isConsistent 24 = .ok (.invokevirtual 296, 3) := by decide +kernel
theorem dX10_isConsistent_27 : decode cX10_isConsistent 27 = .ok (.ifCond .eq 21, 3) := by decide +kernel
theorem dX10_isConsistent_30 : decode cX10_isConsistent 30 = .ok (.aload_n 0, 1) := by decide +kernel
theorem dX10_isConsistent_31 : decode cX10_isConsistent 31 = .ok (.getfield 32, 3) := by decide +kernel
theorem dX10_isConsistent_34 : decode cX10_isConsistent 34 = .ok (.aload_n 0, 1) := by decide +kernel
theorem dX10_isConsistent_35 : decode cX10_isConsistent 35 = .ok (.getfield 10, 3) := by decide +kernel
theorem dX10_isConsistent_38 : decode cX10_isConsistent 38 = .ok (.invokevirtual 299, 3) := by decide +kernel
theorem dX10_isConsistent_41 : decode cX10_isConsistent 41 = .ok (.ifCond .eq 7, 3) := by decide +kernel
theorem dX10_isConsistent_44 : decode cX10_isConsistent 44 = .ok (.iconst 1, 1) := by decide +kernel
theorem dX10_isConsistent_45 : decode cX10_isConsistent 45 = .ok (.goto 4, 3) := by decide +kernel
theorem dX10_isConsistent_48 : decode cX10_isConsistent 48 = .ok (.iconst 0, 1) := by decide +kernel
theorem dX10_isConsistent_49 : decode cX10_isConsistent 49 = .ok (.ireturn, 1) := by decide +kernel
theorem dX10_append_0 : decode cX10_append 0 = .ok (.aload_n 0, 1) := by decide +kernel
theorem dX10_append_1 : decode cX10_append 1 = .ok (.getfield 39, 3) := by decide +kernel
theorem dX10_append_4 : decode cX10_append 4 = .ok (.invokevirtual 303, 3) := by decide +kernel
theorem dX10_append_7 : decode cX10_append 7 = .ok (.ifCond .eq 14, 3) := by decide +kernel
theorem dX10_append_10 : decode cX10_append 10 = .ok (.new 125, 3) := by decide +kernel
theorem dX10_append_13 : decode cX10_append 13 = .ok (.dup, 1) := by decide +kernel
theorem dX10_append_14 : decode cX10_append 14 = .ok (.ldc_w 306, 3) := by decide +kernel
theorem dX10_append_17 : decode cX10_append 17 = .ok (.invokespecial 129, 3) := by decide +kernel
theorem dX10_append_20 : decode cX10_append 20 = .ok (.athrow, 1) := by decide +kernel
theorem dX10_append_21 : decode cX10_append 21 = .ok (.aload_n 0, 1) := by decide +kernel
theorem dX10_append_22 : decode cX10_append 22 = .ok (.getfield 39, 3) := by decide +kernel
theorem dX10_append_25 : decode cX10_append 25 = .ok (.iload_n 1, 1) := by decide +kernel
theorem dX10_append_26 : decode cX10_append 26 = .ok (.invokevirtual 308, 3) := by decide +kernel
theorem dX10_append_29 : decode cX10_append 29 = .ok (.ireturn, 1) := by decide +kernel
theorem dX10_run_0 : decode cX10_run 0 = .ok (.aload_n 0, 1) := by decide +kernel
theorem dX10_run_1 : decode cX10_run 1 = .ok (.getfield 39, 3) := by decide +kernel
theorem dX10_run_4 : decode cX10_run 4 = .ok (.invokevirtual 311, 3) := by decide +kernel
theorem dX10_run_7 : decode cX10_run 7 = .ok (.istore_n 1, 1) := by decide +kernel
theorem dX10_run_8 : decode cX10_run 8 = .ok (.aload_n 0, 1) := by decide +kernel
theorem dX10_run_9 : decode cX10_run 9 = .ok (.getfield 39, 3) := by decide +kernel
theorem dX10_run_12 : decode cX10_run 12 = .ok (.invokevirtual 314, 3) := by decide +kernel
theorem dX10_run_15 : decode cX10_run 15 = .ok (.iload_n 1, 1) := by decide +kernel
theorem dX10_run_16 : decode cX10_run 16 = .ok (.iconst (-1), 1) := by decide +kernel
theorem dX10_run_17 : decode cX10_run 17 = .ok (.if_icmp .eq 19, 3) := by decide +kernel
theorem dX10_run_20 : decode cX10_run 20 = .ok (.aload_n 0, 1) := by decide +kernel
theorem dX10_run_21 : decode cX10_run 21 = .ok (.iload_n 1, 1) := by decide +kernel
theorem dX10_run_22 : decode cX10_run 22 = .ok (.putfield 54, 3) := by decide +kernel
theorem dX10_run_25 : decode cX10_run 25 = .ok (.new 120, 3) := by decide +kernel
theorem dX10_run_28 : decode cX10_run 28 = .ok (.dup, 1) := by decide +kernel
theorem dX10_run_29 : decode cX10_run 29 = .ok (.ldc_w 317, 3) := by decide +kernel
theorem dX10_run_32 : decode cX10_run 32 = .ok (.invokespecial 124, 3) := by decide +kernel
theorem dX10_run_35 : decode cX10_run 35 = .ok (.athrow, 1) := by decide +kernel
theorem dX10_run_36 : decode cX10_run 36 = .ok (.aload_n 0, 1) := by decide +kernel
theorem dX10_run_37 : decode cX10_run 37 = .ok (.invokevirtual 319, 3) := by decide +kernel
theorem dX10_run_40 : decode cX10_run 40 = .ok (.istore_n 2, 1) := by decide +kernel
theorem dX10_run_41 : decode cX10_run 41 = .ok (.iload_n 2, 1) := by decide +kernel
theorem dX10_run_42 : decode cX10_run 42 = .ok (.iconst (-1), 1) := by decide +kernel
theorem dX10_run_43 : decode cX10_run 43 = .ok (.if_icmp .eq 19, 3) := by decide +kernel
theorem dX10_run_46 : decode cX10_run 46 = .ok (.aload_n 0, 1) := by decide +kernel
theorem dX10_run_47 : decode cX10_run 47 = .ok (.iload_n 2, 1) := by decide +kernel
theorem dX10_run_48 : decode cX10_run 48 = .ok (.putfield 58, 3) := by decide +kernel
theorem dX10_run_51 : decode cX10_run 51 = .ok (.new 130, 3) := by decide +kernel
theorem dX10_run_54 : decode cX10_run 54 = .ok (.dup, 1) := by decide +kernel
theorem dX10_run_55 : decode cX10_run 55 = .ok (.ldc_w 322, 3) := by decide +kernel
theorem dX10_run_58 : decode cX10_run 58 = .ok (.invokespecial 134, 3) := by decide +kernel
theorem dX10_run_61 : decode cX10_run 61 = .ok (.athrow, 1) := by decide +kernel
theorem dX10_run_62 : decode cX10_run 62 = .ok (.aload_n 0, 1) := by decide +kernel
theorem dX10_run_63 : decode cX10_run 63 = .ok (.getfield 25, 3) := by decide +kernel
theorem dX10_run_66 : decode cX10_run 66 = .ok (.aload_n 0, 1) := by decide +kernel
theorem dX10_run_67 : decode cX10_run 67 = .ok (.getfield 10, 3) := by decide +kernel
theorem dX10_run_70 : decode cX10_run 70 = .ok (.invokevirtual 61, 3) := by decide +kernel
theorem dX10_run_73 : decode cX10_run 73 = .ok (.aload_n 0, 1) := by decide +kernel
theorem dX10_run_74 : decode cX10_run 74 = .ok (.getfield 10, 3) := by decide +kernel
theorem dX10_run_77 : decode cX10_run 77 = .ok (.aload_n 0, 1) := by decide +kernel
theorem dX10_run_78 : decode cX10_run 78 = .ok (.getfield 19, 3) := by decide +kernel
theorem dX10_run_81 : decode cX10_run 81 = .ok (.invokevirtual 324, 3) := by decide +kernel
theorem dX10_run_84 : decode cX10_run 84 = .ok (.aload_n 0, 1) := by decide +kernel
theorem dX10_run_85 : decode cX10_run 85 = .ok (.getfield 25, 3) := by decide +kernel
theorem dX10_run_88 : decode cX10_run 88 = .ok (.invokevirtual 135, 3) := by decide +kernel
theorem dX10_run_91 : decode cX10_run 91 = .ok (.aload_n 0, 1) := by decide +kernel
theorem dX10_run_92 : decode cX10_run 92 = .ok (.getfield 39, 3) := by decide +kernel
theorem dX10_run_95 : decode cX10_run 95 = .ok (.getfield 327, 3) := by decide +kernel
theorem dX10_run_98 : decode cX10_run 98 = .ok (.ireturn, 1) := by decide +kernel
theorem dX10_errorPosition_0 : decode cX10_errorPosition 0 = .ok (.aload_n 0, 1) := by decide +kernel
theorem dX10_errorPosition_1 : decode cX10_errorPosition 1 = .ok (.getfield 54, 3) := by decide +kernel
theorem dX10_errorPosition_4 : decode cX10_errorPosition 4 = .ok (.iconst (-1), 1) := by decide +kernel
theorem dX10_errorPosition_5 : decode cX10_errorPosition 5 = .ok (.if_icmp .ne 14, 3) := by decide +kernel
theorem dX10_errorPosition_8 : decode cX10_errorPosition 8 = .ok (.new 108, 3) := by decide +kernel
theorem dX10_errorPosition_11 : decode cX10_errorPosition 11 = .ok (.dup, 1) := by decide +kernel
theorem dX10_errorPosition_12 : decode cX10_errorPosition 12 = .ok (.ldc_w 330, 3) := by decide +kernel
theorem dX10_errorPosition_15 : decode cX10_errorPosition 15 = .ok (.invokespecial 112, 3) := by decide +kernel
theorem dX10_errorPosition_18 : decode cX10_errorPosition 18 = .ok (.athrow, 1) := by decide +kernel
theorem dX10_errorPosition_19 : decode cX10_errorPosition 19 = .ok (.aload_n 0, 1) := by decide +kernel
theorem dX10_errorPosition_20 : decode cX10_errorPosition 20 = .ok (.getfield 54, 3) := by decide +kernel
theorem dX10_errorPosition_23 : decode cX10_errorPosition 23 = .ok (.ireturn, 1) := by decide +kernel
theorem dX10_failedCommand_0 : decode cX10_failedCommand 0 = .ok (.aload_n 0, 1) := by decide +kernel
theorem dX10_failedCommand_1 : decode cX10_failedCommand 1 = .ok (.getfield 58, 3) := by decide +kernel
theorem dX10_failedCommand_4 : decode cX10_failedCommand 4 = .ok (.iconst (-1), 1) := by decide +kernel
theorem dX10_failedCommand_5 : decode cX10_failedCommand 5 = .ok (.if_icmp .ne 14, 3) := by decide +kernel
theorem dX10_failedCommand_8 : decode cX10_failedCommand 8 = .ok (.new 108, 3) := by decide +kernel
theorem dX10_failedCommand_11 : decode cX10_failedCommand 11 = .ok (.dup, 1) := by decide +kernel
theorem dX10_failedCommand_12 : decode cX10_failedCommand 12 = .ok (.ldc_w 332, 3) := by decide +kernel
theorem dX10_failedCommand_15 : decode cX10_failedCommand 15 = .ok (.invokespecial 112, 3) := by decide +kernel
theorem dX10_failedCommand_18 : decode cX10_failedCommand 18 = .ok (.athrow, 1) := by decide +kernel
theorem dX10_failedCommand_19 : decode cX10_failedCommand 19 = .ok (.aload_n 0, 1) := by decide +kernel
theorem dX10_failedCommand_20 : decode cX10_failedCommand 20 = .ok (.getfield 58, 3) := by decide +kernel
theorem dX10_failedCommand_23 : decode cX10_failedCommand 23 = .ok (.ireturn, 1) := by decide +kernel
theorem dX10_firstFailure_0 : decode cX10_firstFailure 0 = .ok (.aload_n 0, 1) := by decide +kernel
theorem dX10_firstFailure_1 : decode cX10_firstFailure 1 = .ok (.getfield 19, 3) := by decide +kernel
theorem dX10_firstFailure_4 : decode cX10_firstFailure 4 = .ok (.aload_n 0, 1) := by decide +kernel
theorem dX10_firstFailure_5 : decode cX10_firstFailure 5 = .ok (.getfield 10, 3) := by decide +kernel
theorem dX10_firstFailure_8 : decode cX10_firstFailure 8 = .ok (.invokevirtual 324, 3) := by decide +kernel
theorem dX10_firstFailure_11 : decode cX10_firstFailure 11 = .ok (.iconst 0, 1) := by decide +kernel
theorem dX10_firstFailure_12 : decode cX10_firstFailure 12 = .ok (.istore_n 1, 1) := by decide +kernel
theorem dX10_firstFailure_13 : decode cX10_firstFailure 13 = .ok (.iload_n 1, 1) := by decide +kernel
theorem dX10_firstFailure_14 : decode cX10_firstFailure 14 = .ok (.aload_n 0, 1) := by decide +kernel
theorem dX10_firstFailure_15 : decode cX10_firstFailure 15 = .ok (.getfield 39, 3) := by decide +kernel
theorem dX10_firstFailure_18 : decode cX10_firstFailure 18 = .ok (.getfield 327, 3) := by decide +kernel
theorem dX10_firstFailure_21 : decode cX10_firstFailure 21 = .ok (.if_icmp .ge 26, 3) := by decide +kernel
theorem dX10_firstFailure_24 : decode cX10_firstFailure 24 = .ok (.aload_n 0, 1) := by decide +kernel
theorem dX10_firstFailure_25 : decode cX10_firstFailure 25 = .ok (.getfield 39, 3) := by decide +kernel
theorem dX10_firstFailure_28 : decode cX10_firstFailure 28 = .ok (.iload_n 1, 1) := by decide +kernel
theorem dX10_firstFailure_29 : decode cX10_firstFailure 29 = .ok (.aload_n 0, 1) := by decide +kernel
theorem dX10_firstFailure_30 : decode cX10_firstFailure 30 = .ok (.getfield 19, 3) := by decide +kernel
theorem dX10_firstFailure_33 : decode cX10_firstFailure 33 = .ok (.invokevirtual 334, 3) := by decide +kernel
theorem dX10_firstFailure_36 : decode cX10_firstFailure 36 = .ok (.ifCond .ge 5, 3) := by decide +kernel
theorem dX10_firstFailure_39 : decode cX10_firstFailure 39 = .ok (.iload_n 1, 1) := by decide +kernel
theorem dX10_firstFailure_40 : decode cX10_firstFailure 40 = .ok (.ireturn, 1) := by decide +kernel
theorem dX10_firstFailure_41 : decode cX10_firstFailure 41 = .ok (.iinc 1 1, 3) := by decide +kernel
theorem dX10_firstFailure_44 : decode cX10_firstFailure 44 = .ok (.goto (-31), 3) := by decide +kernel
theorem dX10_firstFailure_47 : decode cX10_firstFailure 47 = .ok (.iconst (-1), 1) := by decide +kernel
theorem dX10_firstFailure_48 : decode cX10_firstFailure 48 = .ok (.ireturn, 1) := by decide +kernel
theorem dX10_writePiece_0 : decode cX10_writePiece 0 = .ok (.aload_n 0, 1) := by decide +kernel
theorem dX10_writePiece_1 : decode cX10_writePiece 1 = .ok (.iload_n 1, 1) := by decide +kernel
theorem dX10_writePiece_2 : decode cX10_writePiece 2 = .ok (.invokevirtual 188, 3) := by decide +kernel
theorem dX10_writePiece_5 : decode cX10_writePiece 5 = .ok (.astore_n 2, 1) := by decide +kernel
theorem dX10_writePiece_6 : decode cX10_writePiece 6 = .ok (.aload_n 0, 1) := by decide +kernel
theorem dX10_writePiece_7 : decode cX10_writePiece 7 = .ok (.getfield 46, 3) := by decide +kernel
theorem dX10_writePiece_10 : decode cX10_writePiece 10 = .ok (.iconst 0, 1) := by decide +kernel
theorem dX10_writePiece_11 : decode cX10_writePiece 11 = .ok (.invokevirtual 338, 3) := by decide +kernel
theorem dX10_writePiece_14 : decode cX10_writePiece 14 = .ok (.aload_n 2, 1) := by decide +kernel
theorem dX10_writePiece_15 : decode cX10_writePiece 15 = .ok (.aload_n 0, 1) := by decide +kernel
theorem dX10_writePiece_16 : decode cX10_writePiece 16 = .ok (.getfield 46, 3) := by decide +kernel
theorem dX10_writePiece_19 : decode cX10_writePiece 19 = .ok (.invokevirtual 342, 3) := by decide +kernel
theorem dX10_writePiece_22 : decode cX10_writePiece 22 = .ok (.aload_n 0, 1) := by decide +kernel
theorem dX10_writePiece_23 : decode cX10_writePiece 23 = .ok (.getfield 46, 3) := by decide +kernel
theorem dX10_writePiece_26 : decode cX10_writePiece 26 = .ok (.invokevirtual 346, 3) := by decide +kernel
theorem dX10_writePiece_29 : decode cX10_writePiece 29 = .ok (.ireturn, 1) := by decide +kernel
theorem dX10_writeFurnace_0 : decode cX10_writeFurnace 0 = .ok (.aload_n 0, 1) := by decide +kernel
theorem dX10_writeFurnace_1 : decode cX10_writeFurnace 1 = .ok (.getfield 46, 3) := by decide +kernel
theorem dX10_writeFurnace_4 : decode cX10_writeFurnace 4 = .ok (.iconst 0, 1) := by decide +kernel
theorem dX10_writeFurnace_5 : decode cX10_writeFurnace 5 = .ok (.invokevirtual 338, 3) := by decide +kernel
theorem dX10_writeFurnace_8 : decode cX10_writeFurnace 8 = .ok (.aload_n 0, 1) := by decide +kernel
theorem dX10_writeFurnace_9 : decode cX10_writeFurnace 9 = .ok (.getfield 10, 3) := by decide +kernel
theorem dX10_writeFurnace_12 : decode cX10_writeFurnace 12 = .ok (.aload_n 0, 1) := by decide +kernel
theorem dX10_writeFurnace_13 : decode cX10_writeFurnace 13 = .ok (.getfield 46, 3) := by decide +kernel
theorem dX10_writeFurnace_16 : decode cX10_writeFurnace 16 = .ok (.invokevirtual 349, 3) := by decide +kernel
theorem dX10_writeFurnace_19 : decode cX10_writeFurnace 19 = .ok (.aload_n 0, 1) := by decide +kernel
theorem dX10_writeFurnace_20 : decode cX10_writeFurnace 20 = .ok (.getfield 46, 3) := by decide +kernel
theorem dX10_writeFurnace_23 : decode cX10_writeFurnace 23 = .ok (.invokevirtual 346, 3) := by decide +kernel
theorem dX10_writeFurnace_26 : decode cX10_writeFurnace 26 = .ok (.ireturn, 1) := by decide +kernel
theorem dX10_outputAt_0 : decode cX10_outputAt 0 = .ok (.iload_n 1, 1) := by decide +kernel
theorem dX10_outputAt_1 : decode cX10_outputAt 1 = .ok (.ifCond .lt 14, 3) := by decide +kernel
theorem dX10_outputAt_4 : decode cX10_outputAt 4 = .ok (.iload_n 1, 1) := by decide +kernel
theorem dX10_outputAt_5 : decode cX10_outputAt 5 = .ok (.aload_n 0, 1) := by decide +kernel
theorem dX10_outputAt_6 : decode cX10_outputAt 6 = .ok (.getfield 46, 3) := by decide +kernel
theorem dX10_outputAt_9 : decode cX10_outputAt 9 = .ok (.invokevirtual 346, 3) := by decide +kernel
theorem dX10_outputAt_12 : decode cX10_outputAt 12 = .ok (.if_icmp .lt 14, 3) := by decide +kernel
theorem dX10_outputAt_15 : decode cX10_outputAt 15 = .ok (.new 115, 3) := by decide +kernel
theorem dX10_outputAt_18 : decode cX10_outputAt 18 = .ok (.dup, 1) := by decide +kernel
theorem dX10_outputAt_19 : decode cX10_outputAt 19 = .ok (.ldc_w 352, 3) := by decide +kernel
theorem dX10_outputAt_22 : decode cX10_outputAt 22 = .ok (.invokespecial 119, 3) := by decide +kernel
theorem dX10_outputAt_25 : decode cX10_outputAt 25 = .ok (.athrow, 1) := by decide +kernel
theorem dX10_outputAt_26 : decode cX10_outputAt 26 = .ok (.aload_n 0, 1) := by decide +kernel
theorem dX10_outputAt_27 : decode cX10_outputAt 27 = .ok (.getfield 46, 3) := by decide +kernel
theorem dX10_outputAt_30 : decode cX10_outputAt 30 = .ok (.iload_n 1, 1) := by decide +kernel
theorem dX10_outputAt_31 : decode cX10_outputAt 31 = .ok (.invokevirtual 354, 3) := by decide +kernel
theorem dX10_outputAt_34 : decode cX10_outputAt 34 = .ok (.ireturn, 1) := by decide +kernel
theorem dX10_undo_0 : decode cX10_undo 0 = .ok (.aload_n 0, 1) := by decide +kernel
theorem dX10_undo_1 : decode cX10_undo 1 = .ok (.getfield 25, 3) := by decide +kernel
theorem dX10_undo_4 : decode cX10_undo 4 = .ok (.getfield 358, 3) := by decide +kernel
theorem dX10_undo_7 : decode cX10_undo 7 = .ok (.ifCond .ne 14, 3) := by decide +kernel
theorem dX10_undo_10 : decode cX10_undo 10 = .ok (.new 125, 3) := by decide +kernel
theorem dX10_undo_13 : decode cX10_undo 13 = .ok (.dup, 1) := by decide +kernel
theorem dX10_undo_14 : decode cX10_undo 14 = .ok (.ldc_w 359, 3) := by decide +kernel
theorem dX10_undo_17 : decode cX10_undo 17 = .ok (.invokespecial 129, 3) := by decide +kernel
theorem dX10_undo_20 : decode cX10_undo 20 = .ok (.athrow, 1) := by decide +kernel
theorem dX10_undo_21 : decode cX10_undo 21 = .ok (.aload_n 0, 1) := by decide +kernel
theorem dX10_undo_22 : decode cX10_undo 22 = .ok (.getfield 25, 3) := by decide +kernel
theorem dX10_undo_25 : decode cX10_undo 25 = .ok (.aload_n 0, 1) := by decide +kernel
theorem dX10_undo_26 : decode cX10_undo 26 = .ok (.getfield 10, 3) := by decide +kernel
theorem dX10_undo_29 : decode cX10_undo 29 = .ok (.invokevirtual 361, 3) := by decide +kernel
theorem dX10_undo_32 : decode cX10_undo 32 = .ok (.aload_n 0, 1) := by decide +kernel
theorem dX10_undo_33 : decode cX10_undo 33 = .ok (.getfield 25, 3) := by decide +kernel
theorem dX10_undo_36 : decode cX10_undo 36 = .ok (.getfield 358, 3) := by decide +kernel
theorem dX10_undo_39 : decode cX10_undo 39 = .ok (.ireturn, 1) := by decide +kernel
theorem dX10_save_0 : decode cX10_save 0 = .ok (.aload_n 0, 1) := by decide +kernel
theorem dX10_save_1 : decode cX10_save 1 = .ok (.getfield 16, 3) := by decide +kernel
theorem dX10_save_4 : decode cX10_save 4 = .ok (.aload_n 0, 1) := by decide +kernel
theorem dX10_save_5 : decode cX10_save 5 = .ok (.getfield 10, 3) := by decide +kernel
theorem dX10_save_8 : decode cX10_save 8 = .ok (.invokevirtual 324, 3) := by decide +kernel
theorem dX10_save_11 : decode cX10_save 11 = .ok (.aload_n 0, 1) := by decide +kernel
theorem dX10_save_12 : decode cX10_save 12 = .ok (.iconst 1, 1) := by decide +kernel
theorem dX10_save_13 : decode cX10_save 13 = .ok (.putfield 50, 3) := by decide +kernel
theorem dX10_save_16 : decode cX10_save 16 = .ok (.return_, 1) := by decide +kernel
theorem dX10_restore_0 : decode cX10_restore 0 = .ok (.aload_n 0, 1) := by decide +kernel
theorem dX10_restore_1 : decode cX10_restore 1 = .ok (.getfield 50, 3) := by decide +kernel
theorem dX10_restore_4 : decode cX10_restore 4 = .ok (.ifCond .ne 14, 3) := by decide +kernel
theorem dX10_restore_7 : decode cX10_restore 7 = .ok (.new 125, 3) := by decide +kernel
theorem dX10_restore_10 : decode cX10_restore 10 = .ok (.dup, 1) := by decide +kernel
theorem dX10_restore_11 : decode cX10_restore 11 = .ok (.ldc_w 364, 3) := by decide +kernel
theorem dX10_restore_14 : decode cX10_restore 14 = .ok (.invokespecial 129, 3) := by decide +kernel
theorem dX10_restore_17 : decode cX10_restore 17 = .ok (.athrow, 1) := by decide +kernel
theorem dX10_restore_18 : decode cX10_restore 18 = .ok (.aload_n 0, 1) := by decide +kernel
theorem dX10_restore_19 : decode cX10_restore 19 = .ok (.getfield 10, 3) := by decide +kernel
theorem dX10_restore_22 : decode cX10_restore 22 = .ok (.aload_n 0, 1) := by decide +kernel
theorem dX10_restore_23 : decode cX10_restore 23 = .ok (.getfield 16, 3) := by decide +kernel
theorem dX10_restore_26 : decode cX10_restore 26 = .ok (.invokevirtual 324, 3) := by decide +kernel
theorem dX10_restore_29 : decode cX10_restore 29 = .ok (.aload_n 0, 1) := by decide +kernel
theorem dX10_restore_30 : decode cX10_restore 30 = .ok (.getfield 25, 3) := by decide +kernel
theorem dX10_restore_33 : decode cX10_restore 33 = .ok (.invokevirtual 366, 3) := by decide +kernel
theorem dX10_restore_36 : decode cX10_restore 36 = .ok (.return_, 1) := by decide +kernel
theorem dX11_init_0 : decode cX11_init 0 = .ok (.aload_n 0, 1) := by decide +kernel
theorem dX11_init_1 : decode cX11_init 1 = .ok (.invokespecial 1, 3) := by decide +kernel
theorem dX11_init_4 : decode cX11_init 4 = .ok (.aload_n 0, 1) := by decide +kernel
theorem dX11_init_5 : decode cX11_init 5 = .ok (.iconst (-1), 1) := by decide +kernel
theorem dX11_init_6 : decode cX11_init 6 = .ok (.putfield 7, 3) := by decide +kernel
theorem dX11_init_9 : decode cX11_init 9 = .ok (.aload_n 0, 1) := by decide +kernel
theorem dX11_init_10 : decode cX11_init 10 = .ok (.iconst (-1), 1) := by decide +kernel
theorem dX11_init_11 : decode cX11_init 11 = .ok (.putfield 13, 3) := by decide +kernel
theorem dX11_init_14 : decode cX11_init 14 = .ok (.aload_n 0, 1) := by decide +kernel
theorem dX11_init_15 : decode cX11_init 15 = .ok (.bipush 85, 2) := by decide +kernel
theorem dX11_init_17 : decode cX11_init 17 = .ok (.newarray .int, 2) := by decide +kernel
theorem dX11_init_19 : decode cX11_init 19 = .ok (.putfield 16, 3) := by decide +kernel
theorem dX11_init_22 : decode cX11_init 22 = .ok (.aload_n 0, 1) := by decide +kernel
theorem dX11_init_23 : decode cX11_init 23 = .ok (.bipush 85, 2) := by decide +kernel
theorem dX11_init_25 : decode cX11_init 25 = .ok (.newarray .int, 2) := by decide +kernel
theorem dX11_init_27 : decode cX11_init 27 = .ok (.putfield 20, 3) := by decide +kernel
theorem dX11_init_30 : decode cX11_init 30 = .ok (.aload_n 0, 1) := by decide +kernel
theorem dX11_init_31 : decode cX11_init 31 = .ok (.bipush 85, 2) := by decide +kernel
theorem dX11_init_33 : decode cX11_init 33 = .ok (.newarray .int, 2) := by decide +kernel
theorem dX11_init_35 : decode cX11_init 35 = .ok (.putfield 23, 3) := by decide +kernel
theorem dX11_init_38 : decode cX11_init 38 = .ok (.aload_n 0, 1) := by decide +kernel
theorem dX11_init_39 : decode cX11_init 39 = .ok (.sipush 680, 3) := by decide +kernel
theorem dX11_init_42 : decode cX11_init 42 = .ok (.newarray .int, 2) := by decide +kernel
theorem dX11_init_44 : decode cX11_init 44 = .ok (.putfield 26, 3) := by decide +kernel
theorem dX11_init_47 : decode cX11_init 47 = .ok (.aload_n 0, 1) := by decide +kernel
theorem dX11_init_48 : decode cX11_init 48 = .ok (.bipush 16, 2) := by decide +kernel
theorem dX11_init_50 : decode cX11_init 50 = .ok (.newarray .int, 2) := by decide +kernel
theorem dX11_init_52 : decode cX11_init 52 = .ok (.putfield 29, 3) := by decide +kernel
theorem dX11_init_55 : decode cX11_init 55 = .ok (.aload_n 0, 1) := by decide +kernel
theorem dX11_init_56 : decode cX11_init 56 = .ok (.bipush 60, 2) := by decide +kernel
theorem dX11_init_58 : decode cX11_init 58 = .ok (.newarray .int, 2) := by decide +kernel
theorem dX11_init_60 : decode cX11_init 60 = .ok (.putfield 32, 3) := by decide +kernel
theorem dX11_init_63 : decode cX11_init 63 = .ok (.aload_n 0, 1) := by decide +kernel
theorem dX11_init_64 : decode cX11_init 64 = .ok (.bipush 50, 2) := by decide +kernel
theorem dX11_init_66 : decode cX11_init 66 = .ok (.newarray .int, 2) := by decide +kernel
theorem dX11_init_68 : decode cX11_init 68 = .ok (.putfield 35, 3) := by decide +kernel
theorem dX11_init_71 : decode cX11_init 71 = .ok (.aload_n 0, 1) := by decide +kernel
theorem dX11_init_72 : decode cX11_init 72 = .ok (.bipush 12, 2) := by decide +kernel
theorem dX11_init_74 : decode cX11_init 74 = .ok (.newarray .int, 2) := by decide +kernel
theorem dX11_init_76 : decode cX11_init 76 = .ok (.putfield 38, 3) := by decide +kernel
theorem dX11_init_79 : decode cX11_init 79 = .ok (.aload_n 0, 1) := by decide +kernel
theorem dX11_init_80 : decode cX11_init 80 = .ok (.iconst 4, 1) := by decide +kernel
theorem dX11_init_81 : decode cX11_init 81 = .ok (.newarray .int, 2) := by decide +kernel
theorem dX11_init_83 : decode cX11_init 83 = .ok (.putfield 41, 3) := by decide +kernel
theorem dX11_init_86 : decode cX11_init 86 = .ok (.aload_n 0, 1) := by decide +kernel
theorem dX11_init_87 : decode cX11_init 87 = .ok (.bipush 66, 2) := by decide +kernel
theorem dX11_init_89 : decode cX11_init 89 = .ok (.newarray .int, 2) := by decide +kernel
theorem dX11_init_91 : decode cX11_init 91 = .ok (.dup, 1) := by decide +kernel
theorem dX11_init_92 : decode cX11_init 92 = .ok (.iconst 0, 1) := by decide +kernel
theorem dX11_init_93 : decode cX11_init 93 = .ok (.bipush 99, 2) := by decide +kernel
theorem dX11_init_95 : decode cX11_init 95 = .ok (.iastore, 1) := by decide +kernel
theorem dX11_init_96 : decode cX11_init 96 = .ok (.dup, 1) := by decide +kernel
theorem dX11_init_97 : decode cX11_init 97 = .ok (.iconst 1, 1) := by decide +kernel
theorem dX11_init_98 : decode cX11_init 98 = .ok (.bipush 111, 2) := by decide +kernel
theorem dX11_init_100 : decode cX11_init 100 = .ok (.iastore, 1) := by decide +kernel
theorem dX11_init_101 : decode cX11_init 101 = .ok (.dup, 1) := by decide +kernel
theorem dX11_init_102 : decode cX11_init 102 = .ok (.iconst 2, 1) := by decide +kernel
theorem dX11_init_103 : decode cX11_init 103 = .ok (.bipush 97, 2) := by decide +kernel
theorem dX11_init_105 : decode cX11_init 105 = .ok (.iastore, 1) := by decide +kernel
theorem dX11_init_106 : decode cX11_init 106 = .ok (.dup, 1) := by decide +kernel
theorem dX11_init_107 : decode cX11_init 107 = .ok (.iconst 3, 1) := by decide +kernel
theorem dX11_init_108 : decode cX11_init 108 = .ok (.bipush 108, 2) := by decide +kernel
theorem dX11_init_110 : decode cX11_init 110 = .ok (.iastore, 1) := by decide +kernel
theorem dX11_init_111 : decode cX11_init 111 = .ok (.dup, 1) := by decide +kernel
theorem dX11_init_112 : decode cX11_init 112 = .ok (.iconst 4, 1) := by decide +kernel
theorem dX11_init_113 : decode cX11_init 113 = .ok (.bipush 32, 2) := by decide +kernel
theorem dX11_init_115 : decode cX11_init 115 = .ok (.iastore, 1) := by decide +kernel
theorem dX11_init_116 : decode cX11_init 116 = .ok (.dup, 1) := by decide +kernel
theorem dX11_init_117 : decode cX11_init 117 = .ok (.iconst 5, 1) := by decide +kernel
theorem dX11_init_118 : decode cX11_init 118 = .ok (.bipush 98, 2) := by decide +kernel
theorem dX11_init_120 : decode cX11_init 120 = .ok (.iastore, 1) := by decide +kernel
theorem dX11_init_121 : decode cX11_init 121 = .ok (.dup, 1) := by decide +kernel
theorem dX11_init_122 : decode cX11_init 122 = .ok (.bipush 6, 2) := by decide +kernel
theorem dX11_init_124 : decode cX11_init 124 = .ok (.bipush 101, 2) := by decide +kernel
theorem dX11_init_126 : decode cX11_init 126 = .ok (.iastore, 1) := by decide +kernel
theorem dX11_init_127 : decode cX11_init 127 = .ok (.dup, 1) := by decide +kernel
theorem dX11_init_128 : decode cX11_init 128 = .ok (.bipush 7, 2) := by decide +kernel
theorem dX11_init_130 : decode cX11_init 130 = .ok (.bipush 108, 2) := by decide +kernel
theorem dX11_init_132 : decode cX11_init 132 = .ok (.iastore, 1) := by decide +kernel
theorem dX11_init_133 : decode cX11_init 133 = .ok (.dup, 1) := by decide +kernel
theorem dX11_init_134 : decode cX11_init 134 = .ok (.bipush 8, 2) := by decide +kernel
theorem dX11_init_136 : decode cX11_init 136 = .ok (.bipush 108, 2) := by decide +kernel
theorem dX11_init_138 : decode cX11_init 138 = .ok (.iastore, 1) := by decide +kernel
theorem dX11_init_139 : decode cX11_init 139 = .ok (.dup, 1) := by decide +kernel
theorem dX11_init_140 : decode cX11_init 140 = .ok (.bipush 9, 2) := by decide +kernel
theorem dX11_init_142 : decode cX11_init 142 = .ok (.bipush 111, 2) := by decide +kernel
theorem dX11_init_144 : decode cX11_init 144 = .ok (.iastore, 1) := by decide +kernel
theorem dX11_init_145 : decode cX11_init 145 = .ok (.dup, 1) := by decide +kernel
theorem dX11_init_146 : decode cX11_init 146 = .ok (.bipush 10, 2) := by decide +kernel
theorem dX11_init_148 : decode cX11_init 148 = .ok (.bipush 119, 2) := by decide +kernel
theorem dX11_init_150 : decode cX11_init 150 = .ok (.iastore, 1) := by decide +kernel
theorem dX11_init_151 : decode cX11_init 151 = .ok (.dup, 1) := by decide +kernel
theorem dX11_init_152 : decode cX11_init 152 = .ok (.bipush 11, 2) := by decide +kernel
theorem dX11_init_154 : decode cX11_init 154 = .ok (.bipush 115, 2) := by decide +kernel
theorem dX11_init_156 : decode cX11_init 156 = .ok (.iastore, 1) := by decide +kernel
theorem dX11_init_157 : decode cX11_init 157 = .ok (.dup, 1) := by decide +kernel
theorem dX11_init_158 : decode cX11_init 158 = .ok (.bipush 12, 2) := by decide +kernel
theorem dX11_init_160 : decode cX11_init 160 = .ok (.bipush 32, 2) := by decide +kernel
theorem dX11_init_162 : decode cX11_init 162 = .ok (.iastore, 1) := by decide +kernel
theorem dX11_init_163 : decode cX11_init 163 = .ok (.dup, 1) := by decide +kernel
theorem dX11_init_164 : decode cX11_init 164 = .ok (.bipush 13, 2) := by decide +kernel
theorem dX11_init_166 : decode cX11_init 166 = .ok (.bipush 112, 2) := by decide +kernel
theorem dX11_init_168 : decode cX11_init 168 = .ok (.iastore, 1) := by decide +kernel
theorem dX11_init_169 : decode cX11_init 169 = .ok (.dup, 1) := by decide +kernel
theorem dX11_init_170 : decode cX11_init 170 = .ok (.bipush 14, 2) := by decide +kernel
theorem dX11_init_172 : decode cX11_init 172 = .ok (.bipush 105, 2) := by decide +kernel
theorem dX11_init_174 : decode cX11_init 174 = .ok (.iastore, 1) := by decide +kernel
theorem dX11_init_175 : decode cX11_init 175 = .ok (.dup, 1) := by decide +kernel
theorem dX11_init_176 : decode cX11_init 176 = .ok (.bipush 15, 2) := by decide +kernel
theorem dX11_init_178 : decode cX11_init 178 = .ok (.bipush 101, 2) := by decide +kernel
theorem dX11_init_180 : decode cX11_init 180 = .ok (.iastore, 1) := by decide +kernel
theorem dX11_init_181 : decode cX11_init 181 = .ok (.dup, 1) := by decide +kernel
theorem dX11_init_182 : decode cX11_init 182 = .ok (.bipush 16, 2) := by decide +kernel
theorem dX11_init_184 : decode cX11_init 184 = .ok (.bipush 99, 2) := by decide +kernel
theorem dX11_init_186 : decode cX11_init 186 = .ok (.iastore, 1) := by decide +kernel
theorem dX11_init_187 : decode cX11_init 187 = .ok (.dup, 1) := by decide +kernel
theorem dX11_init_188 : decode cX11_init 188 = .ok (.bipush 17, 2) := by decide +kernel
theorem dX11_init_190 : decode cX11_init 190 = .ok (.bipush 101, 2) := by decide +kernel
theorem dX11_init_192 : decode cX11_init 192 = .ok (.iastore, 1) := by decide +kernel
theorem dX11_init_193 : decode cX11_init 193 = .ok (.dup, 1) := by decide +kernel
theorem dX11_init_194 : decode cX11_init 194 = .ok (.bipush 18, 2) := by decide +kernel
theorem dX11_init_196 : decode cX11_init 196 = .ok (.bipush 32, 2) := by decide +kernel
theorem dX11_init_198 : decode cX11_init 198 = .ok (.iastore, 1) := by decide +kernel
theorem dX11_init_199 : decode cX11_init 199 = .ok (.dup, 1) := by decide +kernel
theorem dX11_init_200 : decode cX11_init 200 = .ok (.bipush 19, 2) := by decide +kernel
theorem dX11_init_202 : decode cX11_init 202 = .ok (.bipush 116, 2) := by decide +kernel
theorem dX11_init_204 : decode cX11_init 204 = .ok (.iastore, 1) := by decide +kernel
theorem dX11_init_205 : decode cX11_init 205 = .ok (.dup, 1) := by decide +kernel
theorem dX11_init_206 : decode cX11_init 206 = .ok (.bipush 20, 2) := by decide +kernel
theorem dX11_init_208 : decode cX11_init 208 = .ok (.bipush 111, 2) := by decide +kernel
theorem dX11_init_210 : decode cX11_init 210 = .ok (.iastore, 1) := by decide +kernel
theorem dX11_init_211 : decode cX11_init 211 = .ok (.dup, 1) := by decide +kernel
theorem dX11_init_212 : decode cX11_init 212 = .ok (.bipush 21, 2) := by decide +kernel
theorem dX11_init_214 : decode cX11_init 214 = .ok (.bipush 111, 2) := by decide +kernel
theorem dX11_init_216 : decode cX11_init 216 = .ok (.iastore, 1) := by decide +kernel
theorem dX11_init_217 : decode cX11_init 217 = .ok (.dup, 1) := by decide +kernel
theorem dX11_init_218 : decode cX11_init 218 = .ok (.bipush 22, 2) := by decide +kernel
theorem dX11_init_220 : decode cX11_init 220 = .ok (.bipush 108, 2) := by decide +kernel
theorem dX11_init_222 : decode cX11_init 222 = .ok (.iastore, 1) := by decide +kernel
theorem dX11_init_223 : decode cX11_init 223 = .ok (.dup, 1) := by decide +kernel
theorem dX11_init_224 : decode cX11_init 224 = .ok (.bipush 23, 2) := by decide +kernel
theorem dX11_init_226 : decode cX11_init 226 = .ok (.bipush 32, 2) := by decide +kernel
theorem dX11_init_228 : decode cX11_init 228 = .ok (.iastore, 1) := by decide +kernel
theorem dX11_init_229 : decode cX11_init 229 = .ok (.dup, 1) := by decide +kernel
theorem dX11_init_230 : decode cX11_init 230 = .ok (.bipush 24, 2) := by decide +kernel
theorem dX11_init_232 : decode cX11_init 232 = .ok (.bipush 105, 2) := by decide +kernel
theorem dX11_init_234 : decode cX11_init 234 = .ok (.iastore, 1) := by decide +kernel
theorem dX11_init_235 : decode cX11_init 235 = .ok (.dup, 1) := by decide +kernel
theorem dX11_init_236 : decode cX11_init 236 = .ok (.bipush 25, 2) := by decide +kernel
theorem dX11_init_238 : decode cX11_init 238 = .ok (.bipush 110, 2) := by decide +kernel
theorem dX11_init_240 : decode cX11_init 240 = .ok (.iastore, 1) := by decide +kernel
theorem dX11_init_241 : decode cX11_init 241 = .ok (.dup, 1) := by decide +kernel
theorem dX11_init_242 : decode cX11_init 242 = .ok (.bipush 26, 2) := by decide +kernel
theorem dX11_init_244 : decode cX11_init 244 = .ok (.bipush 32, 2) := by decide +kernel
theorem dX11_init_246 : decode cX11_init 246 = .ok (.iastore, 1) := by decide +kernel
theorem dX11_init_247 : decode cX11_init 247 = .ok (.dup, 1) := by decide +kernel
theorem dX11_init_248 : decode cX11_init 248 = .ok (.bipush 27, 2) := by decide +kernel
theorem dX11_init_250 : decode cX11_init 250 = .ok (.bipush 111, 2) := by decide +kernel
theorem dX11_init_252 : decode cX11_init 252 = .ok (.iastore, 1) := by decide +kernel
theorem dX11_init_253 : decode cX11_init 253 = .ok (.dup, 1) := by decide +kernel
theorem dX11_init_254 : decode cX11_init 254 = .ok (.bipush 28, 2) := by decide +kernel
theorem dX11_init_256 : decode cX11_init 256 = .ok (.bipush 117, 2) := by decide +kernel
theorem dX11_init_258 : decode cX11_init 258 = .ok (.iastore, 1) := by decide +kernel
theorem dX11_init_259 : decode cX11_init 259 = .ok (.dup, 1) := by decide +kernel
theorem dX11_init_260 : decode cX11_init 260 = .ok (.bipush 29, 2) := by decide +kernel
theorem dX11_init_262 : decode cX11_init 262 = .ok (.bipush 116, 2) := by decide +kernel
theorem dX11_init_264 : decode cX11_init 264 = .ok (.iastore, 1) := by decide +kernel
theorem dX11_init_265 : decode cX11_init 265 = .ok (.dup, 1) := by decide +kernel
theorem dX11_init_266 : decode cX11_init 266 = .ok (.bipush 30, 2) := by decide +kernel
theorem dX11_init_268 : decode cX11_init 268 = .ok (.bipush 32, 2) := by decide +kernel
theorem dX11_init_270 : decode cX11_init 270 = .ok (.iastore, 1) := by decide +kernel
theorem dX11_init_271 : decode cX11_init 271 = .ok (.dup, 1) := by decide +kernel
theorem dX11_init_272 : decode cX11_init 272 = .ok (.bipush 31, 2) := by decide +kernel
theorem dX11_init_274 : decode cX11_init 274 = .ok (.bipush 104, 2) := by decide +kernel
theorem dX11_init_276 : decode cX11_init 276 = .ok (.iastore, 1) := by decide +kernel
theorem dX11_init_277 : decode cX11_init 277 = .ok (.dup, 1) := by decide +kernel
theorem dX11_init_278 : decode cX11_init 278 = .ok (.bipush 32, 2) := by decide +kernel
theorem dX11_init_280 : decode cX11_init 280 = .ok (.bipush 97, 2) := by decide +kernel
theorem dX11_init_282 : decode cX11_init 282 = .ok (.iastore, 1) := by decide +kernel
theorem dX11_init_283 : decode cX11_init 283 = .ok (.dup, 1) := by decide +kernel
theorem dX11_init_284 : decode cX11_init 284 = .ok (.bipush 33, 2) := by decide +kernel
theorem dX11_init_286 : decode cX11_init 286 = .ok (.bipush 109, 2) := by decide +kernel
theorem dX11_init_288 : decode cX11_init 288 = .ok (.iastore, 1) := by decide +kernel
theorem dX11_init_289 : decode cX11_init 289 = .ok (.dup, 1) := by decide +kernel
theorem dX11_init_290 : decode cX11_init 290 = .ok (.bipush 34, 2) := by decide +kernel
theorem dX11_init_292 : decode cX11_init 292 = .ok (.bipush 109, 2) := by decide +kernel
theorem dX11_init_294 : decode cX11_init 294 = .ok (.iastore, 1) := by decide +kernel
theorem dX11_init_295 : decode cX11_init 295 = .ok (.dup, 1) := by decide +kernel
theorem dX11_init_296 : decode cX11_init 296 = .ok (.bipush 35, 2) := by decide +kernel
theorem dX11_init_298 : decode cX11_init 298 = .ok (.bipush 101, 2) := by decide +kernel
theorem dX11_init_300 : decode cX11_init 300 = .ok (.iastore, 1) := by decide +kernel
theorem dX11_init_301 : decode cX11_init 301 = .ok (.dup, 1) := by decide +kernel
theorem dX11_init_302 : decode cX11_init 302 = .ok (.bipush 36, 2) := by decide +kernel
theorem dX11_init_304 : decode cX11_init 304 = .ok (.bipush 114, 2) := by decide +kernel
theorem dX11_init_306 : decode cX11_init 306 = .ok (.iastore, 1) := by decide +kernel
theorem dX11_init_307 : decode cX11_init 307 = .ok (.dup, 1) := by decide +kernel
theorem dX11_init_308 : decode cX11_init 308 = .ok (.bipush 37, 2) := by decide +kernel
theorem dX11_init_310 : decode cX11_init 310 = .ok (.bipush 32, 2) := by decide +kernel
theorem dX11_init_312 : decode cX11_init 312 = .ok (.iastore, 1) := by decide +kernel
theorem dX11_init_313 : decode cX11_init 313 = .ok (.dup, 1) := by decide +kernel
theorem dX11_init_314 : decode cX11_init 314 = .ok (.bipush 38, 2) := by decide +kernel
theorem dX11_init_316 : decode cX11_init 316 = .ok (.bipush 113, 2) := by decide +kernel
theorem dX11_init_318 : decode cX11_init 318 = .ok (.iastore, 1) := by decide +kernel
theorem dX11_init_319 : decode cX11_init 319 = .ok (.dup, 1) := by decide +kernel
theorem dX11_init_320 : decode cX11_init 320 = .ok (.bipush 39, 2) := by decide +kernel
theorem dX11_init_322 : decode cX11_init 322 = .ok (.bipush 117, 2) := by decide +kernel
theorem dX11_init_324 : decode cX11_init 324 = .ok (.iastore, 1) := by decide +kernel
theorem dX11_init_325 : decode cX11_init 325 = .ok (.dup, 1) := by decide +kernel
theorem dX11_init_326 : decode cX11_init 326 = .ok (.bipush 40, 2) := by decide +kernel
theorem dX11_init_328 : decode cX11_init 328 = .ok (.bipush 101, 2) := by decide +kernel
theorem dX11_init_330 : decode cX11_init 330 = .ok (.iastore, 1) := by decide +kernel
theorem dX11_init_331 : decode cX11_init 331 = .ok (.dup, 1) := by decide +kernel
theorem dX11_init_332 : decode cX11_init 332 = .ok (.bipush 41, 2) := by decide +kernel
theorem dX11_init_334 : decode cX11_init 334 = .ok (.bipush 110, 2) := by decide +kernel
theorem dX11_init_336 : decode cX11_init 336 = .ok (.iastore, 1) := by decide +kernel
theorem dX11_init_337 : decode cX11_init 337 = .ok (.dup, 1) := by decide +kernel
theorem dX11_init_338 : decode cX11_init 338 = .ok (.bipush 42, 2) := by decide +kernel
theorem dX11_init_340 : decode cX11_init 340 = .ok (.bipush 99, 2) := by decide +kernel
theorem dX11_init_342 : decode cX11_init 342 = .ok (.iastore, 1) := by decide +kernel
theorem dX11_init_343 : decode cX11_init 343 = .ok (.dup, 1) := by decide +kernel
theorem dX11_init_344 : decode cX11_init 344 = .ok (.bipush 43, 2) := by decide +kernel
theorem dX11_init_346 : decode cX11_init 346 = .ok (.bipush 104, 2) := by decide +kernel
theorem dX11_init_348 : decode cX11_init 348 = .ok (.iastore, 1) := by decide +kernel
theorem dX11_init_349 : decode cX11_init 349 = .ok (.dup, 1) := by decide +kernel
theorem dX11_init_350 : decode cX11_init 350 = .ok (.bipush 44, 2) := by decide +kernel
theorem dX11_init_352 : decode cX11_init 352 = .ok (.bipush 32, 2) := by decide +kernel
theorem dX11_init_354 : decode cX11_init 354 = .ok (.iastore, 1) := by decide +kernel
theorem dX11_init_355 : decode cX11_init 355 = .ok (.dup, 1) := by decide +kernel
theorem dX11_init_356 : decode cX11_init 356 = .ok (.bipush 45, 2) := by decide +kernel
theorem dX11_init_358 : decode cX11_init 358 = .ok (.bipush 116, 2) := by decide +kernel
theorem dX11_init_360 : decode cX11_init 360 = .ok (.iastore, 1) := by decide +kernel
theorem dX11_init_361 : decode cX11_init 361 = .ok (.dup, 1) := by decide +kernel
theorem dX11_init_362 : decode cX11_init 362 = .ok (.bipush 46, 2) := by decide +kernel
theorem dX11_init_364 : decode cX11_init 364 = .ok (.bipush 101, 2) := by decide +kernel
theorem dX11_init_366 : decode cX11_init 366 = .ok (.iastore, 1) := by decide +kernel
theorem dX11_init_367 : decode cX11_init 367 = .ok (.dup, 1) := by decide +kernel
theorem dX11_init_368 : decode cX11_init 368 = .ok (.bipush 47, 2) := by decide +kernel
theorem dX11_init_370 : decode cX11_init 370 = .ok (.bipush 115, 2) := by decide +kernel
theorem dX11_init_372 : decode cX11_init 372 = .ok (.iastore, 1) := by decide +kernel
theorem dX11_init_373 : decode cX11_init 373 = .ok (.dup, 1) := by decide +kernel
theorem dX11_init_374 : decode cX11_init 374 = .ok (.bipush 48, 2) := by decide +kernel
theorem dX11_init_376 : decode cX11_init 376 = .ok (.bipush 116, 2) := by decide +kernel
theorem dX11_init_378 : decode cX11_init 378 = .ok (.iastore, 1) := by decide +kernel
theorem dX11_init_379 : decode cX11_init 379 = .ok (.dup, 1) := by decide +kernel
theorem dX11_init_380 : decode cX11_init 380 = .ok (.bipush 49, 2) := by decide +kernel
theorem dX11_init_382 : decode cX11_init 382 = .ok (.bipush 32, 2) := by decide +kernel
theorem dX11_init_384 : decode cX11_init 384 = .ok (.iastore, 1) := by decide +kernel
theorem dX11_init_385 : decode cX11_init 385 = .ok (.dup, 1) := by decide +kernel
theorem dX11_init_386 : decode cX11_init 386 = .ok (.bipush 50, 2) := by decide +kernel
theorem dX11_init_388 : decode cX11_init 388 = .ok (.bipush 98, 2) := by decide +kernel
theorem dX11_init_390 : decode cX11_init 390 = .ok (.iastore, 1) := by decide +kernel
theorem dX11_init_391 : decode cX11_init 391 = .ok (.dup, 1) := by decide +kernel
theorem dX11_init_392 : decode cX11_init 392 = .ok (.bipush 51, 2) := by decide +kernel
theorem dX11_init_394 : decode cX11_init 394 = .ok (.bipush 105, 2) := by decide +kernel
theorem dX11_init_396 : decode cX11_init 396 = .ok (.iastore, 1) := by decide +kernel
theorem dX11_init_397 : decode cX11_init 397 = .ok (.dup, 1) := by decide +kernel
theorem dX11_init_398 : decode cX11_init 398 = .ok (.bipush 52, 2) := by decide +kernel
theorem dX11_init_400 : decode cX11_init 400 = .ok (.bipush 114, 2) := by decide +kernel
theorem dX11_init_402 : decode cX11_init 402 = .ok (.iastore, 1) := by decide +kernel
theorem dX11_init_403 : decode cX11_init 403 = .ok (.dup, 1) := by decide +kernel
theorem dX11_init_404 : decode cX11_init 404 = .ok (.bipush 53, 2) := by decide +kernel
theorem dX11_init_406 : decode cX11_init 406 = .ok (.bipush 100, 2) := by decide +kernel
theorem dX11_init_408 : decode cX11_init 408 = .ok (.iastore, 1) := by decide +kernel
theorem dX11_init_409 : decode cX11_init 409 = .ok (.dup, 1) := by decide +kernel
theorem dX11_init_410 : decode cX11_init 410 = .ok (.bipush 54, 2) := by decide +kernel
theorem dX11_init_412 : decode cX11_init 412 = .ok (.bipush 32, 2) := by decide +kernel
theorem dX11_init_414 : decode cX11_init 414 = .ok (.iastore, 1) := by decide +kernel
theorem dX11_init_415 : decode cX11_init 415 = .ok (.dup, 1) := by decide +kernel
theorem dX11_init_416 : decode cX11_init 416 = .ok (.bipush 55, 2) := by decide +kernel
theorem dX11_init_418 : decode cX11_init 418 = .ok (.bipush 115, 2) := by decide +kernel
theorem dX11_init_420 : decode cX11_init 420 = .ok (.iastore, 1) := by decide +kernel
theorem dX11_init_421 : decode cX11_init 421 = .ok (.dup, 1) := by decide +kernel
theorem dX11_init_422 : decode cX11_init 422 = .ok (.bipush 56, 2) := by decide +kernel
theorem dX11_init_424 : decode cX11_init 424 = .ok (.bipush 99, 2) := by decide +kernel
theorem dX11_init_426 : decode cX11_init 426 = .ok (.iastore, 1) := by decide +kernel
theorem dX11_init_427 : decode cX11_init 427 = .ok (.dup, 1) := by decide +kernel
theorem dX11_init_428 : decode cX11_init 428 = .ok (.bipush 57, 2) := by decide +kernel
theorem dX11_init_430 : decode cX11_init 430 = .ok (.bipush 114, 2) := by decide +kernel
theorem dX11_init_432 : decode cX11_init 432 = .ok (.iastore, 1) := by decide +kernel
theorem dX11_init_433 : decode cX11_init 433 = .ok (.dup, 1) := by decide +kernel
theorem dX11_init_434 : decode cX11_init 434 = .ok (.bipush 58, 2) := by decide +kernel
theorem dX11_init_436 : decode cX11_init 436 = .ok (.bipush 97, 2) := by decide +kernel
theorem dX11_init_438 : decode cX11_init 438 = .ok (.iastore, 1) := by decide +kernel
theorem dX11_init_439 : decode cX11_init 439 = .ok (.dup, 1) := by decide +kernel
theorem dX11_init_440 : decode cX11_init 440 = .ok (.bipush 59, 2) := by decide +kernel
theorem dX11_init_442 : decode cX11_init 442 = .ok (.bipush 112, 2) := by decide +kernel
theorem dX11_init_444 : decode cX11_init 444 = .ok (.iastore, 1) := by decide +kernel
theorem dX11_init_445 : decode cX11_init 445 = .ok (.dup, 1) := by decide +kernel
theorem dX11_init_446 : decode cX11_init 446 = .ok (.bipush 60, 2) := by decide +kernel
theorem dX11_init_448 : decode cX11_init 448 = .ok (.bipush 32, 2) := by decide +kernel
theorem dX11_init_450 : decode cX11_init 450 = .ok (.iastore, 1) := by decide +kernel
theorem dX11_init_451 : decode cX11_init 451 = .ok (.dup, 1) := by decide +kernel
theorem dX11_init_452 : decode cX11_init 452 = .ok (.bipush 61, 2) := by decide +kernel
theorem dX11_init_454 : decode cX11_init 454 = .ok (.bipush 119, 2) := by decide +kernel
theorem dX11_init_456 : decode cX11_init 456 = .ok (.iastore, 1) := by decide +kernel
theorem dX11_init_457 : decode cX11_init 457 = .ok (.dup, 1) := by decide +kernel
theorem dX11_init_458 : decode cX11_init 458 = .ok (.bipush 62, 2) := by decide +kernel
theorem dX11_init_460 : decode cX11_init 460 = .ok (.bipush 97, 2) := by decide +kernel
theorem dX11_init_462 : decode cX11_init 462 = .ok (.iastore, 1) := by decide +kernel
theorem dX11_init_463 : decode cX11_init 463 = .ok (.dup, 1) := by decide +kernel
theorem dX11_init_464 : decode cX11_init 464 = .ok (.bipush 63, 2) := by decide +kernel
theorem dX11_init_466 : decode cX11_init 466 = .ok (.bipush 105, 2) := by decide +kernel
theorem dX11_init_468 : decode cX11_init 468 = .ok (.iastore, 1) := by decide +kernel
theorem dX11_init_469 : decode cX11_init 469 = .ok (.dup, 1) := by decide +kernel
theorem dX11_init_470 : decode cX11_init 470 = .ok (.bipush 64, 2) := by decide +kernel
theorem dX11_init_472 : decode cX11_init 472 = .ok (.bipush 116, 2) := by decide +kernel
theorem dX11_init_474 : decode cX11_init 474 = .ok (.iastore, 1) := by decide +kernel
theorem dX11_init_475 : decode cX11_init 475 = .ok (.dup, 1) := by decide +kernel
theorem dX11_init_476 : decode cX11_init 476 = .ok (.bipush 65, 2) := by decide +kernel
theorem dX11_init_478 : decode cX11_init 478 = .ok (.bipush 32, 2) := by decide +kernel
theorem dX11_init_480 : decode cX11_init 480 = .ok (.iastore, 1) := by decide +kernel
theorem dX11_init_481 : decode cX11_init 481 = .ok (.putfield 44, 3) := by decide +kernel
theorem dX11_init_484 : decode cX11_init 484 = .ok (.aload_n 0, 1) := by decide +kernel
theorem dX11_init_485 : decode cX11_init 485 = .ok (.bipush 13, 2) := by decide +kernel
theorem dX11_init_487 : decode cX11_init 487 = .ok (.newarray .int, 2) := by decide +kernel
theorem dX11_init_489 : decode cX11_init 489 = .ok (.dup, 1) := by decide +kernel
theorem dX11_init_490 : decode cX11_init 490 = .ok (.iconst 0, 1) := by decide +kernel
theorem dX11_init_491 : decode cX11_init 491 = .ok (.iconst 0, 1) := by decide +kernel
theorem dX11_init_492 : decode cX11_init 492 = .ok (.iastore, 1) := by decide +kernel
theorem dX11_init_493 : decode cX11_init 493 = .ok (.dup, 1) := by decide +kernel
theorem dX11_init_494 : decode cX11_init 494 = .ok (.iconst 1, 1) := by decide +kernel
theorem dX11_init_495 : decode cX11_init 495 = .ok (.iconst 5, 1) := by decide +kernel
theorem dX11_init_496 : decode cX11_init 496 = .ok (.iastore, 1) := by decide +kernel
theorem dX11_init_497 : decode cX11_init 497 = .ok (.dup, 1) := by decide +kernel
theorem dX11_init_498 : decode cX11_init 498 = .ok (.iconst 2, 1) := by decide +kernel
theorem dX11_init_499 : decode cX11_init 499 = .ok (.bipush 13, 2) := by decide +kernel
theorem dX11_init_501 : decode cX11_init 501 = .ok (.iastore, 1) := by decide +kernel
theorem dX11_init_502 : decode cX11_init 502 = .ok (.dup, 1) := by decide +kernel
theorem dX11_init_503 : decode cX11_init 503 = .ok (.iconst 3, 1) := by decide +kernel
theorem dX11_init_504 : decode cX11_init 504 = .ok (.bipush 19, 2) := by decide +kernel
theorem dX11_init_506 : decode cX11_init 506 = .ok (.iastore, 1) := by decide +kernel
theorem dX11_init_507 : decode cX11_init 507 = .ok (.dup, 1) := by decide +kernel
theorem dX11_init_508 : decode cX11_init 508 = .ok (.iconst 4, 1) := by decide +kernel
theorem dX11_init_509 : decode cX11_init 509 = .ok (.bipush 24, 2) := by decide +kernel
theorem dX11_init_511 : decode cX11_init 511 = .ok (.iastore, 1) := by decide +kernel
theorem dX11_init_512 : decode cX11_init 512 = .ok (.dup, 1) := by decide +kernel
theorem dX11_init_513 : decode cX11_init 513 = .ok (.iconst 5, 1) := by decide +kernel
theorem dX11_init_514 : decode cX11_init 514 = .ok (.bipush 27, 2) := by decide +kernel
theorem dX11_init_516 : decode cX11_init 516 = .ok (.iastore, 1) := by decide +kernel
theorem dX11_init_517 : decode cX11_init 517 = .ok (.dup, 1) := by decide +kernel
theorem dX11_init_518 : decode cX11_init 518 = .ok (.bipush 6, 2) := by decide +kernel
theorem dX11_init_520 : decode cX11_init 520 = .ok (.bipush 31, 2) := by decide +kernel
theorem dX11_init_522 : decode cX11_init 522 = .ok (.iastore, 1) := by decide +kernel
theorem dX11_init_523 : decode cX11_init 523 = .ok (.dup, 1) := by decide +kernel
theorem dX11_init_524 : decode cX11_init 524 = .ok (.bipush 7, 2) := by decide +kernel
theorem dX11_init_526 : decode cX11_init 526 = .ok (.bipush 38, 2) := by decide +kernel
theorem dX11_init_528 : decode cX11_init 528 = .ok (.iastore, 1) := by decide +kernel
theorem dX11_init_529 : decode cX11_init 529 = .ok (.dup, 1) := by decide +kernel
theorem dX11_init_530 : decode cX11_init 530 = .ok (.bipush 8, 2) := by decide +kernel
theorem dX11_init_532 : decode cX11_init 532 = .ok (.bipush 45, 2) := by decide +kernel
theorem dX11_init_534 : decode cX11_init 534 = .ok (.iastore, 1) := by decide +kernel
theorem dX11_init_535 : decode cX11_init 535 = .ok (.dup, 1) := by decide +kernel
theorem dX11_init_536 : decode cX11_init 536 = .ok (.bipush 9, 2) := by decide +kernel
theorem dX11_init_538 : decode cX11_init 538 = .ok (.bipush 50, 2) := by decide +kernel
theorem dX11_init_540 : decode cX11_init 540 = .ok (.iastore, 1) := by decide +kernel
theorem dX11_init_541 : decode cX11_init 541 = .ok (.dup, 1) := by decide +kernel
theorem dX11_init_542 : decode cX11_init 542 = .ok (.bipush 10, 2) := by decide +kernel
theorem dX11_init_544 : decode cX11_init 544 = .ok (.bipush 55, 2) := by decide +kernel
theorem dX11_init_546 : decode cX11_init 546 = .ok (.iastore, 1) := by decide +kernel
theorem dX11_init_547 : decode cX11_init 547 = .ok (.dup, 1) := by decide +kernel
theorem dX11_init_548 : decode cX11_init 548 = .ok (.bipush 11, 2) := by decide +kernel
theorem dX11_init_550 : decode cX11_init 550 = .ok (.bipush 61, 2) := by decide +kernel
theorem dX11_init_552 : decode cX11_init 552 = .ok (.iastore, 1) := by decide +kernel
theorem dX11_init_553 : decode cX11_init 553 = .ok (.dup, 1) := by decide +kernel
theorem dX11_init_554 : decode cX11_init 554 = .ok (.bipush 12, 2) := by decide +kernel
theorem dX11_init_556 : decode cX11_init 556 = .ok (.bipush 66, 2) := by decide +kernel
theorem dX11_init_558 : decode cX11_init 558 = .ok (.iastore, 1) := by decide +kernel
theorem dX11_init_559 : decode cX11_init 559 = .ok (.putfield 47, 3) := by decide +kernel
theorem dX11_init_562 : decode cX11_init 562 = .ok (.aload_n 0, 1) := by decide +kernel
theorem dX11_init_563 : decode cX11_init 563 = .ok (.getfield 16, 3) := by decide +kernel
theorem dX11_init_566 : decode cX11_init 566 = .ok (.iconst 1, 1) := by decide +kernel
theorem dX11_init_567 : decode cX11_init 567 = .ok (.bipush 20, 2) := by decide +kernel
theorem dX11_init_569 : decode cX11_init 569 = .ok (.iastore, 1) := by decide +kernel
theorem dX11_init_570 : decode cX11_init 570 = .ok (.aload_n 0, 1) := by decide +kernel
theorem dX11_init_571 : decode cX11_init 571 = .ok (.getfield 16, 3) := by decide +kernel
theorem dX11_init_574 : decode cX11_init 574 = .ok (.iconst 3, 1) := by decide +kernel
theorem dX11_init_575 : decode cX11_init 575 = .ok (.bipush 20, 2) := by decide +kernel
theorem dX11_init_577 : decode cX11_init 577 = .ok (.iastore, 1) := by decide +kernel
theorem dX11_init_578 : decode cX11_init 578 = .ok (.aload_n 0, 1) := by decide +kernel
theorem dX11_init_579 : decode cX11_init 579 = .ok (.getfield 16, 3) := by decide +kernel
theorem dX11_init_582 : decode cX11_init 582 = .ok (.iconst 4, 1) := by decide +kernel
theorem dX11_init_583 : decode cX11_init 583 = .ok (.iconst 1, 1) := by decide +kernel
theorem dX11_init_584 : decode cX11_init 584 = .ok (.iastore, 1) := by decide +kernel
theorem dX11_init_585 : decode cX11_init 585 = .ok (.return_, 1) := by decide +kernel
theorem dX11_thrown_0 : decode cX11_thrown 0 = .ok (.aload_n 0, 1) := by decide +kernel
theorem dX11_thrown_1 : decode cX11_thrown 1 = .ok (.getfield 50, 3) := by decide +kernel
theorem dX11_thrown_4 : decode cX11_thrown 4 = .ok (.ireturn, 1) := by decide +kernel
theorem dX11_fail_0 : decode cX11_fail 0 = .ok (.aload_n 0, 1) := by decide +kernel
theorem dX11_fail_1 : decode cX11_fail 1 = .ok (.iload_n 1, 1) := by decide +kernel
theorem dX11_fail_2 : decode cX11_fail 2 = .ok (.putfield 50, 3) := by decide +kernel
theorem dX11_fail_5 : decode cX11_fail 5 = .ok (.iconst 0, 1) := by decide +kernel
theorem dX11_fail_6 : decode cX11_fail 6 = .ok (.ireturn, 1) := by decide +kernel
theorem dX11_isIn_0 : decode cX11_isIn 0 = .ok (.iload_n 0, 1) := by decide +kernel
theorem dX11_isIn_1 : decode cX11_isIn 1 = .ok (.iload_n 1, 1) := by decide +kernel
theorem dX11_isIn_2 : decode cX11_isIn 2 = .ok (.if_icmp .lt 12, 3) := by decide +kernel
theorem dX11_isIn_5 : decode cX11_isIn 5 = .ok (.iload_n 0, 1) := by decide +kernel
theorem dX11_isIn_6 : decode cX11_isIn 6 = .ok (.iload_n 2, 1) := by decide +kernel
theorem dX11_isIn_7 : decode cX11_isIn 7 = .ok (.if_icmp .gt 7, 3) := by decide +kernel
theorem dX11_isIn_10 : decode cX11_isIn 10 = .ok (.iconst 1, 1) := by decide +kernel
theorem dX11_isIn_11 : decode cX11_isIn 11 = .ok (.goto 4, 3) := by decide +kernel
theorem dX11_isIn_14 : decode cX11_isIn 14 = .ok (.iconst 0, 1) := by decide +kernel
theorem dX11_isIn_15 : decode cX11_isIn 15 = .ok (.ireturn, 1) := by decide +kernel
theorem dX11_lays_0 : decode cX11_lays 0 = .ok (.iconst 0, 1) := by decide +kernel
theorem dX11_lays_1 : decode cX11_lays 1 = .ok (.istore_n 2, 1) := by decide +kernel
theorem dX11_lays_2 : decode cX11_lays 2 = .ok (.iload_n 2, 1) := by decide +kernel
theorem dX11_lays_3 : decode cX11_lays 3 = .ok (.bipush 85, 2) := by decide +kernel
theorem dX11_lays_5 : decode cX11_lays 5 = .ok (.if_icmp .ge 15, 3) := by decide +kernel
theorem dX11_lays_8 : decode cX11_lays 8 = .ok (.aload_n 0, 1) := by decide +kernel
theorem dX11_lays_9 : decode cX11_lays 9 = .ok (.iload_n 2, 1) := by decide +kernel
theorem dX11_lays_10 : decode cX11_lays 10 = .ok (.aload_n 1, 1) := by decide +kernel
theorem dX11_lays_11 : decode cX11_lays 11 = .ok (.iload_n 2, 1) := by decide +kernel
theorem dX11_lays_12 : decode cX11_lays 12 = .ok (.iaload, 1) := by decide +kernel
theorem dX11_lays_13 : decode cX11_lays 13 = .ok (.iastore, 1) := by decide +kernel
theorem dX11_lays_14 : decode cX11_lays 14 = .ok (.iinc 2 1, 3) := by decide +kernel
theorem dX11_lays_17 : decode cX11_lays 17 = .ok (.goto (-15), 3) := by decide +kernel
theorem dX11_lays_20 : decode cX11_lays 20 = .ok (.return_, 1) := by decide +kernel
theorem dX11_begins_0 : decode cX11_begins 0 = .ok (.aload_n 0, 1) := by decide +kernel
theorem dX11_begins_1 : decode cX11_begins 1 = .ok (.iconst 0, 1) := by decide +kernel
theorem dX11_begins_2 : decode cX11_begins 2 = .ok (.putfield 50, 3) := by decide +kernel
theorem dX11_begins_5 : decode cX11_begins 5 = .ok (.aload_n 0, 1) := by decide +kernel
theorem dX11_begins_6 : decode cX11_begins 6 = .ok (.getfield 20, 3) := by decide +kernel
theorem dX11_begins_9 : decode cX11_begins 9 = .ok (.aload_n 0, 1) := by decide +kernel
theorem dX11_begins_10 : decode cX11_begins 10 = .ok (.getfield 16, 3) := by decide +kernel
theorem dX11_begins_13 : decode cX11_begins 13 = .ok (.invokestatic 53, 3) := by decide +kernel
theorem dX11_begins_16 : decode cX11_begins 16 = .ok (.return_, 1) := by decide +kernel
theorem dX11_ends_0 : decode cX11_ends 0 = .ok (.aload_n 0, 1) := by decide +kernel
theorem dX11_ends_1 : decode cX11_ends 1 = .ok (.getfield 50, 3) := by decide +kernel
theorem dX11_ends_4 : decode cX11_ends 4 = .ok (.ifCond .eq 16, 3) := by decide +kernel
theorem dX11_ends_7 : decode cX11_ends 7 = .ok (.aload_n 0, 1) := by decide +kernel
theorem dX11_ends_8 : decode cX11_ends 8 = .ok (.getfield 16, 3) := by decide +kernel
theorem dX11_ends_11 : decode cX11_ends 11 = .ok (.aload_n 0, 1) := by decide +kernel
theorem dX11_ends_12 : decode cX11_ends 12 = .ok (.getfield 20, 3) := by decide +kernel
theorem dX11_ends_15 : decode cX11_ends 15 = .ok (.invokestatic 53, 3) := by decide +kernel
theorem dX11_ends_18 : decode cX11_ends 18 = .ok (.iconst 0, 1) := by decide +kernel
theorem dX11_ends_19 : decode cX11_ends 19 = .ok (.ireturn, 1) := by decide +kernel
theorem dX11_ends_20 : decode cX11_ends 20 = .ok (.aload_n 0, 1) := by decide +kernel
theorem dX11_ends_21 : decode cX11_ends 21 = .ok (.getfield 57, 3) := by decide +kernel
theorem dX11_ends_24 : decode cX11_ends 24 = .ok (.bipush 8, 2) := by decide +kernel
theorem dX11_ends_26 : decode cX11_ends 26 = .ok (.if_icmp .ne 43, 3) := by decide +kernel
theorem dX11_ends_29 : decode cX11_ends 29 = .ok (.iconst 0, 1) := by decide +kernel
theorem dX11_ends_30 : decode cX11_ends 30 = .ok (.istore_n 2, 1) := by decide +kernel
theorem dX11_ends_31 : decode cX11_ends 31 = .ok (.iload_n 2, 1) := by decide +kernel
theorem dX11_ends_32 : decode cX11_ends 32 = .ok (.sipush 595, 3) := by decide +kernel
theorem dX11_ends_35 : decode cX11_ends 35 = .ok (.if_icmp .ge 24, 3) := by decide +kernel
theorem dX11_ends_38 : decode cX11_ends 38 = .ok (.aload_n 0, 1) := by decide +kernel
theorem dX11_ends_39 : decode cX11_ends 39 = .ok (.getfield 26, 3) := by decide +kernel
theorem dX11_ends_42 : decode cX11_ends 42 = .ok (.iload_n 2, 1) := by decide +kernel
theorem dX11_ends_43 : decode cX11_ends 43 = .ok (.aload_n 0, 1) := by decide +kernel
theorem dX11_ends_44 : decode cX11_ends 44 = .ok (.getfield 26, 3) := by decide +kernel
theorem dX11_ends_47 : decode cX11_ends 47 = .ok (.iload_n 2, 1) := by decide +kernel
theorem dX11_ends_48 : decode cX11_ends 48 = .ok (.bipush 85, 2) := by decide +kernel
theorem dX11_ends_50 : decode cX11_ends 50 = .ok (.iadd, 1) := by decide +kernel
theorem dX11_ends_51 : decode cX11_ends 51 = .ok (.iaload, 1) := by decide +kernel
theorem dX11_ends_52 : decode cX11_ends 52 = .ok (.iastore, 1) := by decide +kernel
theorem dX11_ends_53 : decode cX11_ends 53 = .ok (.iinc 2 1, 3) := by decide +kernel
theorem dX11_ends_56 : decode cX11_ends 56 = .ok (.goto (-25), 3) := by decide +kernel
theorem dX11_ends_59 : decode cX11_ends 59 = .ok (.aload_n 0, 1) := by decide +kernel
theorem dX11_ends_60 : decode cX11_ends 60 = .ok (.dup, 1) := by decide +kernel
theorem dX11_ends_61 : decode cX11_ends 61 = .ok (.getfield 57, 3) := by decide +kernel
theorem dX11_ends_64 : decode cX11_ends 64 = .ok (.iconst 1, 1) := by decide +kernel
theorem dX11_ends_65 : decode cX11_ends 65 = .ok (.isub, 1) := by decide +kernel
theorem dX11_ends_66 : decode cX11_ends 66 = .ok (.putfield 57, 3) := by decide +kernel
theorem dX11_ends_69 : decode cX11_ends 69 = .ok (.iconst 0, 1) := by decide +kernel
theorem dX11_ends_70 : decode cX11_ends 70 = .ok (.istore_n 2, 1) := by decide +kernel
theorem dX11_ends_71 : decode cX11_ends 71 = .ok (.iload_n 2, 1) := by decide +kernel
theorem dX11_ends_72 : decode cX11_ends 72 = .ok (.bipush 85, 2) := by decide +kernel
theorem dX11_ends_74 : decode cX11_ends 74 = .ok (.if_icmp .ge 29, 3) := by decide +kernel
theorem dX11_ends_77 : decode cX11_ends 77 = .ok (.aload_n 0, 1) := by decide +kernel
theorem dX11_ends_78 : decode cX11_ends 78 = .ok (.getfield 26, 3) := by decide +kernel
theorem dX11_ends_81 : decode cX11_ends 81 = .ok (.aload_n 0, 1) := by decide +kernel
theorem dX11_ends_82 : decode cX11_ends 82 = .ok (.getfield 57, 3) := by decide +kernel
theorem dX11_ends_85 : decode cX11_ends 85 = .ok (.bipush 85, 2) := by decide +kernel
theorem dX11_ends_87 : decode cX11_ends 87 = .ok (.imul, 1) := by decide +kernel
theorem dX11_ends_88 : decode cX11_ends 88 = .ok (.iload_n 2, 1) := by decide +kernel
theorem dX11_ends_89 : decode cX11_ends 89 = .ok (.iadd, 1) := by decide +kernel
theorem dX11_ends_90 : decode cX11_ends 90 = .ok (.aload_n 0, 1) := by decide +kernel
theorem dX11_ends_91 : decode cX11_ends 91 = .ok (.getfield 20, 3) := by decide +kernel
theorem dX11_ends_94 : decode cX11_ends 94 = .ok (.iload_n 2, 1) := by decide +kernel
theorem dX11_ends_95 : decode cX11_ends 95 = .ok (.iaload, 1) := by decide +kernel
theorem dX11_ends_96 : decode cX11_ends 96 = .ok (.iastore, 1) := by decide +kernel
theorem dX11_ends_97 : decode cX11_ends 97 = .ok (.iinc 2 1, 3) := by decide +kernel
theorem dX11_ends_100 : decode cX11_ends 100 = .ok (.goto (-29), 3) := by decide +kernel
theorem dX11_ends_103 : decode cX11_ends 103 = .ok (.aload_n 0, 1) := by decide +kernel
theorem dX11_ends_104 : decode cX11_ends 104 = .ok (.dup, 1) := by decide +kernel
theorem dX11_ends_105 : decode cX11_ends 105 = .ok (.getfield 57, 3) := by decide +kernel
theorem dX11_ends_108 : decode cX11_ends 108 = .ok (.iconst 1, 1) := by decide +kernel
theorem dX11_ends_109 : decode cX11_ends 109 = .ok (.iadd, 1) := by decide +kernel
theorem dX11_ends_110 : decode cX11_ends 110 = .ok (.putfield 57, 3) := by decide +kernel
theorem dX11_ends_113 : decode cX11_ends 113 = .ok (.iload_n 1, 1) := by decide +kernel
theorem dX11_ends_114 : decode cX11_ends 114 = .ok (.ireturn, 1) := by decide +kernel
theorem dX11_of_0 : decode cX11_of 0 = .ok (.bipush 13, 2) := by decide +kernel
theorem dX11_of_2 : decode cX11_of 2 = .ok (.bipush 8, 2) := by decide +kernel
theorem dX11_of_4 : decode cX11_of 4 = .ok (.iload_n 0, 1) := by decide +kernel
theorem dX11_of_5 : decode cX11_of 5 = .ok (.imul, 1) := by decide +kernel
theorem dX11_of_6 : decode cX11_of 6 = .ok (.iadd, 1) := by decide +kernel
theorem dX11_of_7 : decode cX11_of 7 = .ok (.iload_n 1, 1) := by decide +kernel
theorem dX11_of_8 : decode cX11_of 8 = .ok (.iadd, 1) := by decide +kernel
theorem dX11_of_9 : decode cX11_of 9 = .ok (.ireturn, 1) := by decide +kernel
theorem dX11_find_0 : decode cX11_find 0 = .ok (.iconst 0, 1) := by decide +kernel
theorem dX11_find_1 : decode cX11_find 1 = .ok (.istore_n 2, 1) := by decide +kernel
theorem dX11_find_2 : decode cX11_find 2 = .ok (.iload_n 2, 1) := by decide +kernel
theorem dX11_find_3 : decode cX11_find 3 = .ok (.aload_n 0, 1) := by decide +kernel
theorem dX11_find_4 : decode cX11_find 4 = .ok (.getfield 16, 3) := by decide +kernel
theorem dX11_find_7 : decode cX11_find 7 = .ok (.iconst 5, 1) := by decide +kernel
theorem dX11_find_8 : decode cX11_find 8 = .ok (.iaload, 1) := by decide +kernel
theorem dX11_find_9 : decode cX11_find 9 = .ok (.if_icmp .ge 25, 3) := by decide +kernel
theorem dX11_find_12 : decode cX11_find 12 = .ok (.aload_n 0, 1) := by decide +kernel
theorem dX11_find_13 : decode cX11_find 13 = .ok (.getfield 16, 3) := by decide +kernel
theorem dX11_find_16 : decode cX11_find 16 = .ok (.iload_n 2, 1) := by decide +kernel
theorem dX11_find_17 : decode cX11_find 17 = .ok (.iconst 0, 1) := by decide +kernel
theorem dX11_find_18 : decode cX11_find 18 = .ok (.invokestatic 60, 3) := by decide +kernel
theorem dX11_find_21 : decode cX11_find 21 = .ok (.iaload, 1) := by decide +kernel
theorem dX11_find_22 : decode cX11_find 22 = .ok (.iload_n 1, 1) := by decide +kernel
theorem dX11_find_23 : decode cX11_find 23 = .ok (.if_icmp .ne 5, 3) := by decide +kernel
theorem dX11_find_26 : decode cX11_find 26 = .ok (.iload_n 2, 1) := by decide +kernel
theorem dX11_find_27 : decode cX11_find 27 = .ok (.ireturn, 1) := by decide +kernel
theorem dX11_find_28 : decode cX11_find 28 = .ok (.iinc 2 1, 3) := by decide +kernel
theorem dX11_find_31 : decode cX11_find 31 = .ok (.goto (-29), 3) := by decide +kernel
theorem dX11_find_34 : decode cX11_find 34 = .ok (.iconst (-1), 1) := by decide +kernel
theorem dX11_find_35 : decode cX11_find 35 = .ok (.ireturn, 1) := by decide +kernel
theorem dX11_isTool_0 : decode cX11_isTool 0 = .ok (.iload_n 1, 1) := by decide +kernel
theorem dX11_isTool_1 : decode cX11_isTool 1 = .ok (.iconst 0, 1) := by decide +kernel
theorem dX11_isTool_2 : decode cX11_isTool 2 = .ok (.aload_n 0, 1) := by decide +kernel
theorem dX11_isTool_3 : decode cX11_isTool 3 = .ok (.getfield 16, 3) := by decide +kernel
theorem dX11_isTool_6 : decode cX11_isTool 6 = .ok (.bipush 6, 2) := by decide +kernel
theorem dX11_isTool_8 : decode cX11_isTool 8 = .ok (.iaload, 1) := by decide +kernel
theorem dX11_isTool_9 : decode cX11_isTool 9 = .ok (.iconst 1, 1) := by decide +kernel
theorem dX11_isTool_10 : decode cX11_isTool 10 = .ok (.isub, 1) := by decide +kernel
theorem dX11_isTool_11 : decode cX11_isTool 11 = .ok (.invokestatic 64, 3) := by decide +kernel
theorem dX11_isTool_14 : decode cX11_isTool 14 = .ok (.ireturn, 1) := by decide +kernel
theorem dX11_weighs_0 : decode cX11_weighs 0 = .ok (.aload_n 0, 1) := by decide +kernel
theorem dX11_weighs_1 : decode cX11_weighs 1 = .ok (.getfield 16, 3) := by decide +kernel
theorem dX11_weighs_4 : decode cX11_weighs 4 = .ok (.bipush 77, 2) := by decide +kernel
theorem dX11_weighs_6 : decode cX11_weighs 6 = .ok (.iconst 2, 1) := by decide +kernel
theorem dX11_weighs_7 : decode cX11_weighs 7 = .ok (.iload_n 1, 1) := by decide +kernel
theorem dX11_weighs_8 : decode cX11_weighs 8 = .ok (.imul, 1) := by decide +kernel
theorem dX11_weighs_9 : decode cX11_weighs 9 = .ok (.iadd, 1) := by decide +kernel
theorem dX11_weighs_10 : decode cX11_weighs 10 = .ok (.iaload, 1) := by decide +kernel
theorem dX11_weighs_11 : decode cX11_weighs 11 = .ok (.ireturn, 1) := by decide +kernel
theorem dX11_worn_0 : decode cX11_worn 0 = .ok (.aload_n 0, 1) := by decide +kernel
theorem dX11_worn_1 : decode cX11_worn 1 = .ok (.getfield 16, 3) := by decide +kernel
theorem dX11_worn_4 : decode cX11_worn 4 = .ok (.bipush 77, 2) := by decide +kernel
theorem dX11_worn_6 : decode cX11_worn 6 = .ok (.iconst 2, 1) := by decide +kernel
theorem dX11_worn_7 : decode cX11_worn 7 = .ok (.iload_n 1, 1) := by decide +kernel
theorem dX11_worn_8 : decode cX11_worn 8 = .ok (.imul, 1) := by decide +kernel
theorem dX11_worn_9 : decode cX11_worn 9 = .ok (.iadd, 1) := by decide +kernel
theorem dX11_worn_10 : decode cX11_worn 10 = .ok (.iconst 1, 1) := by decide +kernel
theorem dX11_worn_11 : decode cX11_worn 11 = .ok (.iadd, 1) := by decide +kernel
theorem dX11_worn_12 : decode cX11_worn 12 = .ok (.iaload, 1) := by decide +kernel
theorem dX11_worn_13 : decode cX11_worn 13 = .ok (.ireturn, 1) := by decide +kernel
theorem dX11_adds_0 : decode cX11_adds 0 = .ok (.iload_n 1, 1) := by decide +kernel
theorem dX11_adds_1 : decode cX11_adds 1 = .ok (.iconst 1, 1) := by decide +kernel
theorem dX11_adds_2 : decode cX11_adds 2 = .ok (.bipush 50, 2) := by decide +kernel
theorem dX11_adds_4 : decode cX11_adds 4 = .ok (.invokestatic 64, 3) := by decide +kernel
theorem dX11_adds_7 : decode cX11_adds 7 = .ok (.ifCond .ne 9, 3) := by decide +kernel
theorem dX11_adds_10 : decode cX11_adds 10 = .ok (.aload_n 0, 1) := by decide +kernel
theorem dX11_adds_11 : decode cX11_adds 11 = .ok (.iconst 1, 1) := by decide +kernel
theorem dX11_adds_12 : decode cX11_adds 12 = .ok (.invokevirtual 68, 3) := by decide +kernel
theorem dX11_adds_15 : decode cX11_adds 15 = .ok (.ireturn, 1) := by decide +kernel
theorem dX11_adds_16 : decode cX11_adds 16 = .ok (.aload_n 0, 1) := by decide +kernel
theorem dX11_adds_17 : decode cX11_adds 17 = .ok (.getfield 16, 3) := by decide +kernel
theorem dX11_adds_20 : decode cX11_adds 20 = .ok (.iconst 3, 1) := by decide +kernel
theorem dX11_adds_21 : decode cX11_adds 21 = .ok (.iaload, 1) := by decide +kernel
theorem dX11_adds_22 : decode cX11_adds 22 = .ok (.iload_n 1, 1) := by decide +kernel
theorem dX11_adds_23 : decode cX11_adds 23 = .ok (.iadd, 1) := by decide +kernel
theorem dX11_adds_24 : decode cX11_adds 24 = .ok (.bipush 99, 2) := by decide +kernel
theorem dX11_adds_26 : decode cX11_adds 26 = .ok (.if_icmp .le 9, 3) := by decide +kernel
theorem dX11_adds_29 : decode cX11_adds 29 = .ok (.aload_n 0, 1) := by decide +kernel
theorem dX11_adds_30 : decode cX11_adds 30 = .ok (.iconst 2, 1) := by decide +kernel
theorem dX11_adds_31 : decode cX11_adds 31 = .ok (.invokevirtual 68, 3) := by decide +kernel
theorem dX11_adds_34 : decode cX11_adds 34 = .ok (.ireturn, 1) := by decide +kernel
theorem dX11_adds_35 : decode cX11_adds 35 = .ok (.aload_n 0, 1) := by decide +kernel
theorem dX11_adds_36 : decode cX11_adds 36 = .ok (.getfield 16, 3) := by decide +kernel
theorem dX11_adds_39 : decode cX11_adds 39 = .ok (.iconst 3, 1) := by decide +kernel
theorem dX11_adds_40 : decode cX11_adds 40 = .ok (.dup2, 1) := by decide +kernel
theorem dX11_adds_41 : decode cX11_adds 41 = .ok (.iaload, 1) := by decide +kernel
theorem dX11_adds_42 : decode cX11_adds 42 = .ok (.iload_n 1, 1) := by decide +kernel
theorem dX11_adds_43 : decode cX11_adds 43 = .ok (.iadd, 1) := by decide +kernel
theorem dX11_adds_44 : decode cX11_adds 44 = .ok (.iastore, 1) := by decide +kernel
theorem dX11_adds_45 : decode cX11_adds 45 = .ok (.aload_n 0, 1) := by decide +kernel
theorem dX11_adds_46 : decode cX11_adds 46 = .ok (.getfield 16, 3) := by decide +kernel
theorem dX11_adds_49 : decode cX11_adds 49 = .ok (.bipush 10, 2) := by decide +kernel
theorem dX11_adds_51 : decode cX11_adds 51 = .ok (.dup2, 1) := by decide +kernel
theorem dX11_adds_52 : decode cX11_adds 52 = .ok (.iaload, 1) := by decide +kernel
theorem dX11_adds_53 : decode cX11_adds 53 = .ok (.iload_n 1, 1) := by decide +kernel
theorem dX11_adds_54 : decode cX11_adds 54 = .ok (.iadd, 1) := by decide +kernel
theorem dX11_adds_55 : decode cX11_adds 55 = .ok (.iastore, 1) := by decide +kernel
theorem dX11_adds_56 : decode cX11_adds 56 = .ok (.aload_n 0, 1) := by decide +kernel
theorem dX11_adds_57 : decode cX11_adds 57 = .ok (.getfield 16, 3) := by decide +kernel
theorem dX11_adds_60 : decode cX11_adds 60 = .ok (.iconst 3, 1) := by decide +kernel
theorem dX11_adds_61 : decode cX11_adds 61 = .ok (.iaload, 1) := by decide +kernel
theorem dX11_adds_62 : decode cX11_adds 62 = .ok (.ireturn, 1) := by decide +kernel
theorem dX11_addCoal_0 : decode cX11_addCoal 0 = .ok (.aload_n 0, 1) := by decide +kernel
theorem dX11_addCoal_1 : decode cX11_addCoal 1 = .ok (.invokevirtual 72, 3) := by decide +kernel
theorem dX11_addCoal_4 : decode cX11_addCoal 4 = .ok (.aload_n 0, 1) := by decide +kernel
theorem dX11_addCoal_5 : decode cX11_addCoal 5 = .ok (.aload_n 0, 1) := by decide +kernel
theorem dX11_addCoal_6 : decode cX11_addCoal 6 = .ok (.iload_n 1, 1) := by decide +kernel
theorem dX11_addCoal_7 : decode cX11_addCoal 7 = .ok (.invokevirtual 75, 3) := by decide +kernel
theorem dX11_addCoal_10 : decode cX11_addCoal 10 = .ok (.invokevirtual 78, 3) := by decide +kernel
theorem dX11_addCoal_13 : decode cX11_addCoal 13 = .ok (.ireturn, 1) := by decide +kernel
theorem dX11_blows_0 : decode cX11_blows 0 = .ok (.iload_n 1, 1) := by decide +kernel
theorem dX11_blows_1 : decode cX11_blows 1 = .ok (.iconst 0, 1) := by decide +kernel
theorem dX11_blows_2 : decode cX11_blows 2 = .ok (.iconst 5, 1) := by decide +kernel
theorem dX11_blows_3 : decode cX11_blows 3 = .ok (.invokestatic 64, 3) := by decide +kernel
theorem dX11_blows_6 : decode cX11_blows 6 = .ok (.ifCond .ne 9, 3) := by decide +kernel
theorem dX11_blows_9 : decode cX11_blows 9 = .ok (.aload_n 0, 1) := by decide +kernel
theorem dX11_blows_10 : decode cX11_blows 10 = .ok (.iconst 1, 1) := by decide +kernel
theorem dX11_blows_11 : decode cX11_blows 11 = .ok (.invokevirtual 68, 3) := by decide +kernel
theorem dX11_blows_14 : decode cX11_blows 14 = .ok (.ireturn, 1) := by decide +kernel
theorem dX11_blows_15 : decode cX11_blows 15 = .ok (.aload_n 0, 1) := by decide +kernel
theorem dX11_blows_16 : decode cX11_blows 16 = .ok (.getfield 16, 3) := by decide +kernel
theorem dX11_blows_19 : decode cX11_blows 19 = .ok (.iconst 2, 1) := by decide +kernel
theorem dX11_blows_20 : decode cX11_blows 20 = .ok (.iaload, 1) := by decide +kernel
theorem dX11_blows_21 : decode cX11_blows 21 = .ok (.istore_n 2, 1) := by decide +kernel
theorem dX11_blows_22 : decode cX11_blows 22 = .ok (.aload_n 0, 1) := by decide +kernel
theorem dX11_blows_23 : decode cX11_blows 23 = .ok (.getfield 16, 3) := by decide +kernel
theorem dX11_blows_26 : decode cX11_blows 26 = .ok (.iconst 2, 1) := by decide +kernel
theorem dX11_blows_27 : decode cX11_blows 27 = .ok (.iload_n 1, 1) := by decide +kernel
theorem dX11_blows_28 : decode cX11_blows 28 = .ok (.iastore, 1) := by decide +kernel
theorem dX11_blows_29 : decode cX11_blows 29 = .ok (.iload_n 2, 1) := by decide +kernel
theorem dX11_blows_30 : decode cX11_blows 30 = .ok (.ireturn, 1) := by decide +kernel
theorem dX11_setBellows_0 : decode cX11_setBellows 0 = .ok (.aload_n 0, 1) := by decide +kernel
theorem dX11_setBellows_1 : decode cX11_setBellows 1 = .ok (.invokevirtual 72, 3) := by decide +kernel
theorem dX11_setBellows_4 : decode cX11_setBellows 4 = .ok (.aload_n 0, 1) := by decide +kernel
theorem dX11_setBellows_5 : decode cX11_setBellows 5 = .ok (.aload_n 0, 1) := by decide +kernel
theorem dX11_setBellows_6 : decode cX11_setBellows 6 = .ok (.iload_n 1, 1) := by decide +kernel
theorem dX11_setBellows_7 : decode cX11_setBellows 7 = .ok (.invokevirtual 81, 3) := by decide +kernel
theorem dX11_setBellows_10 : decode cX11_setBellows 10 = .ok (.invokevirtual 78, 3) := by decide +kernel
theorem dX11_setBellows_13 : decode cX11_setBellows 13 = .ok (.ireturn, 1) := by decide +kernel
theorem dX11_burns_0 : decode cX11_burns 0 = .ok (.aload_n 0, 1) := by decide +kernel
theorem dX11_burns_1 : decode cX11_burns 1 = .ok (.iconst 2, 1) := by decide +kernel
theorem dX11_burns_2 : decode cX11_burns 2 = .ok (.iaload, 1) := by decide +kernel
theorem dX11_burns_3 : decode cX11_burns 3 = .ok (.ifCond .le 62, 3) := by decide +kernel
theorem dX11_burns_6 : decode cX11_burns 6 = .ok (.aload_n 0, 1) := by decide +kernel
theorem dX11_burns_7 : decode cX11_burns 7 = .ok (.iconst 3, 1) := by decide +kernel
theorem dX11_burns_8 : decode cX11_burns 8 = .ok (.iaload, 1) := by decide +kernel
theorem dX11_burns_9 : decode cX11_burns 9 = .ok (.aload_n 0, 1) := by decide +kernel
theorem dX11_burns_10 : decode cX11_burns 10 = .ok (.iconst 2, 1) := by decide +kernel
theorem dX11_burns_11 : decode cX11_burns 11 = .ok (.iaload, 1) := by decide +kernel
theorem dX11_burns_12 : decode cX11_burns 12 = .ok (.if_icmp .lt 53, 3) := by decide +kernel
theorem dX11_burns_15 : decode cX11_burns 15 = .ok (.aload_n 0, 1) := by decide +kernel
theorem dX11_burns_16 : decode cX11_burns 16 = .ok (.iconst 3, 1) := by decide +kernel
theorem dX11_burns_17 : decode cX11_burns 17 = .ok (.dup2, 1) := by decide +kernel
theorem dX11_burns_18 : decode cX11_burns 18 = .ok (.iaload, 1) := by decide +kernel
theorem dX11_burns_19 : decode cX11_burns 19 = .ok (.aload_n 0, 1) := by decide +kernel
theorem dX11_burns_20 : decode cX11_burns 20 = .ok (.iconst 2, 1) := by decide +kernel
theorem dX11_burns_21 : decode cX11_burns 21 = .ok (.iaload, 1) := by decide +kernel
theorem dX11_burns_22 : decode cX11_burns 22 = .ok (.isub, 1) := by decide +kernel
theorem dX11_burns_23 : decode cX11_burns 23 = .ok (.iastore, 1) := by decide +kernel
theorem dX11_burns_24 : decode cX11_burns 24 = .ok (.aload_n 0, 1) := by decide +kernel
theorem dX11_burns_25 : decode cX11_burns 25 = .ok (.bipush 9, 2) := by decide +kernel
theorem dX11_burns_27 : decode cX11_burns 27 = .ok (.dup2, 1) := by decide +kernel
theorem dX11_burns_28 : decode cX11_burns 28 = .ok (.iaload, 1) := by decide +kernel
theorem dX11_burns_29 : decode cX11_burns 29 = .ok (.aload_n 0, 1) := by decide +kernel
theorem dX11_burns_30 : decode cX11_burns 30 = .ok (.iconst 2, 1) := by decide +kernel
theorem dX11_burns_31 : decode cX11_burns 31 = .ok (.iaload, 1) := by decide +kernel
theorem dX11_burns_32 : decode cX11_burns 32 = .ok (.iadd, 1) := by decide +kernel
theorem dX11_burns_33 : decode cX11_burns 33 = .ok (.iastore, 1) := by decide +kernel
theorem dX11_burns_34 : decode cX11_burns 34 = .ok (.aload_n 0, 1) := by decide +kernel
theorem dX11_burns_35 : decode cX11_burns 35 = .ok (.iconst 1, 1) := by decide +kernel
theorem dX11_burns_36 : decode cX11_burns 36 = .ok (.iaload, 1) := by decide +kernel
theorem dX11_burns_37 : decode cX11_burns 37 = .ok (.bipush 20, 2) := by decide +kernel
theorem dX11_burns_39 : decode cX11_burns 39 = .ok (.aload_n 0, 1) := by decide +kernel
theorem dX11_burns_40 : decode cX11_burns 40 = .ok (.iconst 2, 1) := by decide +kernel
theorem dX11_burns_41 : decode cX11_burns 41 = .ok (.iaload, 1) := by decide +kernel
theorem dX11_burns_42 : decode cX11_burns 42 = .ok (.imul, 1) := by decide +kernel
theorem dX11_burns_43 : decode cX11_burns 43 = .ok (.iadd, 1) := by decide +kernel
theorem dX11_burns_44 : decode cX11_burns 44 = .ok (.istore_n 1, 1) := by decide +kernel
theorem dX11_burns_45 : decode cX11_burns 45 = .ok (.aload_n 0, 1) := by decide +kernel
theorem dX11_burns_46 : decode cX11_burns 46 = .ok (.iconst 1, 1) := by decide +kernel
theorem dX11_burns_47 : decode cX11_burns 47 = .ok (.iload_n 1, 1) := by decide +kernel
theorem dX11_burns_48 : decode cX11_burns 48 = .ok (.sipush 1200, 3) := by decide +kernel
theorem dX11_burns_51 : decode cX11_burns 51 = .ok (.if_icmp .ge 7, 3) := by decide +kernel
theorem dX11_burns_54 : decode cX11_burns 54 = .ok (.iload_n 1, 1) := by decide +kernel
theorem dX11_burns_55 : decode cX11_burns 55 = .ok (.goto 6, 3) := by decide +kernel
theorem dX11_burns_58 : decode cX11_burns 58 = .ok (.sipush 1200, 3) := by decide +kernel
theorem dX11_burns_61 : decode cX11_burns 61 = .ok (.iastore, 1) := by decide +kernel
theorem dX11_burns_62 : decode cX11_burns 62 = .ok (.goto 7, 3) := by decide +kernel
theorem dX11_burns_65 : decode cX11_burns 65 = .ok (.aload_n 0, 1) := by decide +kernel
theorem dX11_burns_66 : decode cX11_burns 66 = .ok (.iconst 2, 1) := by decide +kernel
theorem dX11_burns_67 : decode cX11_burns 67 = .ok (.iconst 0, 1) := by decide +kernel
theorem dX11_burns_68 : decode cX11_burns 68 = .ok (.iastore, 1) := by decide +kernel
theorem dX11_burns_69 : decode cX11_burns 69 = .ok (.aload_n 0, 1) := by decide +kernel
theorem dX11_burns_70 : decode cX11_burns 70 = .ok (.iconst 1, 1) := by decide +kernel
theorem dX11_burns_71 : decode cX11_burns 71 = .ok (.dup2, 1) := by decide +kernel
theorem dX11_burns_72 : decode cX11_burns 72 = .ok (.iaload, 1) := by decide +kernel
theorem dX11_burns_73 : decode cX11_burns 73 = .ok (.aload_n 0, 1) := by decide +kernel
theorem dX11_burns_74 : decode cX11_burns 74 = .ok (.iconst 1, 1) := by decide +kernel
theorem dX11_burns_75 : decode cX11_burns 75 = .ok (.iaload, 1) := by decide +kernel
theorem dX11_burns_76 : decode cX11_burns 76 = .ok (.bipush 20, 2) := by decide +kernel
theorem dX11_burns_78 : decode cX11_burns 78 = .ok (.isub, 1) := by decide +kernel
theorem dX11_burns_79 : decode cX11_burns 79 = .ok (.bipush 20, 2) := by decide +kernel
theorem dX11_burns_81 : decode cX11_burns 81 = .ok (.idiv, 1) := by decide +kernel
theorem dX11_burns_82 : decode cX11_burns 82 = .ok (.isub, 1) := by decide +kernel
theorem dX11_burns_83 : decode cX11_burns 83 = .ok (.iastore, 1) := by decide +kernel
theorem dX11_burns_84 : decode cX11_burns 84 = .ok (.return_, 1) := by decide +kernel
theorem dX11_later_0 : decode cX11_later 0 = .ok (.iload_n 1, 1) := by decide +kernel
theorem dX11_later_1 : decode cX11_later 1 = .ok (.ifCond .ne 13, 3) := by decide +kernel
theorem dX11_later_4 : decode cX11_later 4 = .ok (.iload_n 0, 1) := by decide +kernel
theorem dX11_later_5 : decode cX11_later 5 = .ok (.iload_n 0, 1) := by decide +kernel
theorem dX11_later_6 : decode cX11_later 6 = .ok (.bipush 20, 2) := by decide +kernel
theorem dX11_later_8 : decode cX11_later 8 = .ok (.isub, 1) := by decide +kernel
theorem dX11_later_9 : decode cX11_later 9 = .ok (.bipush 8, 2) := by decide +kernel
theorem dX11_later_11 : decode cX11_later 11 = .ok (.idiv, 1) := by decide +kernel
theorem dX11_later_12 : decode cX11_later 12 = .ok (.isub, 1) := by decide +kernel
theorem dX11_later_13 : decode cX11_later 13 = .ok (.ireturn, 1) := by decide +kernel
theorem dX11_later_14 : decode cX11_later 14 = .ok (.iload_n 2, 1) := by decide +kernel
theorem dX11_later_15 : decode cX11_later 15 = .ok (.iload_n 0, 1) := by decide +kernel
theorem dX11_later_16 : decode cX11_later 16 = .ok (.if_icmp .le 13, 3) := by decide +kernel
theorem dX11_later_19 : decode cX11_later 19 = .ok (.iload_n 0, 1) := by decide +kernel
theorem dX11_later_20 : decode cX11_later 20 = .ok (.iload_n 2, 1) := by decide +kernel
theorem dX11_later_21 : decode cX11_later 21 = .ok (.iload_n 0, 1) := by decide +kernel
theorem dX11_later_22 : decode cX11_later 22 = .ok (.isub, 1) := by decide +kernel
theorem dX11_later_23 : decode cX11_later 23 = .ok (.iconst 4, 1) := by decide +kernel
theorem dX11_later_24 : decode cX11_later 24 = .ok (.idiv, 1) := by decide +kernel
theorem dX11_later_25 : decode cX11_later 25 = .ok (.iadd, 1) := by decide +kernel
theorem dX11_later_26 : decode cX11_later 26 = .ok (.goto 10, 3) := by decide +kernel
theorem dX11_later_29 : decode cX11_later 29 = .ok (.iload_n 0, 1) := by decide +kernel
theorem dX11_later_30 : decode cX11_later 30 = .ok (.iload_n 0, 1) := by decide +kernel
theorem dX11_later_31 : decode cX11_later 31 = .ok (.iload_n 2, 1) := by decide +kernel
theorem dX11_later_32 : decode cX11_later 32 = .ok (.isub, 1) := by decide +kernel
theorem dX11_later_33 : decode cX11_later 33 = .ok (.iconst 4, 1) := by decide +kernel
theorem dX11_later_34 : decode cX11_later 34 = .ok (.idiv, 1) := by decide +kernel
theorem dX11_later_35 : decode cX11_later 35 = .ok (.isub, 1) := by decide +kernel
theorem dX11_later_36 : decode cX11_later 36 = .ok (.ireturn, 1) := by decide +kernel
theorem dX11_lives_0 : decode cX11_lives 0 = .ok (.aload_n 0, 1) := by decide +kernel
theorem dX11_lives_1 : decode cX11_lives 1 = .ok (.getfield 16, 3) := by decide +kernel
theorem dX11_lives_4 : decode cX11_lives 4 = .ok (.iconst 0, 1) := by decide +kernel
theorem dX11_lives_5 : decode cX11_lives 5 = .ok (.dup2, 1) := by decide +kernel
theorem dX11_lives_6 : decode cX11_lives 6 = .ok (.iaload, 1) := by decide +kernel
theorem dX11_lives_7 : decode cX11_lives 7 = .ok (.iconst 1, 1) := by decide +kernel
theorem dX11_lives_8 : decode cX11_lives 8 = .ok (.iadd, 1) := by decide +kernel
theorem dX11_lives_9 : decode cX11_lives 9 = .ok (.iastore, 1) := by decide +kernel
theorem dX11_lives_10 : decode cX11_lives 10 = .ok (.aload_n 0, 1) := by decide +kernel
theorem dX11_lives_11 : decode cX11_lives 11 = .ok (.getfield 16, 3) := by decide +kernel
theorem dX11_lives_14 : decode cX11_lives 14 = .ok (.invokestatic 84, 3) := by decide +kernel
theorem dX11_lives_17 : decode cX11_lives 17 = .ok (.iconst 0, 1) := by decide +kernel
theorem dX11_lives_18 : decode cX11_lives 18 = .ok (.istore_n 1, 1) := by decide +kernel
theorem dX11_lives_19 : decode cX11_lives 19 = .ok (.iload_n 1, 1) := by decide +kernel
theorem dX11_lives_20 : decode cX11_lives 20 = .ok (.aload_n 0, 1) := by decide +kernel
theorem dX11_lives_21 : decode cX11_lives 21 = .ok (.getfield 16, 3) := by decide +kernel
theorem dX11_lives_24 : decode cX11_lives 24 = .ok (.iconst 5, 1) := by decide +kernel
theorem dX11_lives_25 : decode cX11_lives 25 = .ok (.iaload, 1) := by decide +kernel
theorem dX11_lives_26 : decode cX11_lives 26 = .ok (.if_icmp .ge 162, 3) := by decide +kernel
theorem dX11_lives_29 : decode cX11_lives 29 = .ok (.aload_n 0, 1) := by decide +kernel
theorem dX11_lives_30 : decode cX11_lives 30 = .ok (.getfield 16, 3) := by decide +kernel
theorem dX11_lives_33 : decode cX11_lives 33 = .ok (.iload_n 1, 1) := by decide +kernel
theorem dX11_lives_34 : decode cX11_lives 34 = .ok (.iconst 2, 1) := by decide +kernel
theorem dX11_lives_35 : decode cX11_lives 35 = .ok (.invokestatic 60, 3) := by decide +kernel
theorem dX11_lives_38 : decode cX11_lives 38 = .ok (.iaload, 1) := by decide +kernel
theorem dX11_lives_39 : decode cX11_lives 39 = .ok (.aload_n 0, 1) := by decide +kernel
theorem dX11_lives_40 : decode cX11_lives 40 = .ok (.getfield 16, 3) := by decide +kernel
theorem dX11_lives_43 : decode cX11_lives 43 = .ok (.iload_n 1, 1) := by decide +kernel
theorem dX11_lives_44 : decode cX11_lives 44 = .ok (.iconst 5, 1) := by decide +kernel
theorem dX11_lives_45 : decode cX11_lives 45 = .ok (.invokestatic 60, 3) := by decide +kernel
theorem dX11_lives_48 : decode cX11_lives 48 = .ok (.iaload, 1) := by decide +kernel
theorem dX11_lives_49 : decode cX11_lives 49 = .ok (.iconst 1, 1) := by decide +kernel
theorem dX11_lives_50 : decode cX11_lives 50 = .ok (.if_icmp .ne 7, 3) := by decide +kernel
theorem dX11_lives_53 : decode cX11_lives 53 = .ok (.iconst 1, 1) := by decide +kernel
theorem dX11_lives_54 : decode cX11_lives 54 = .ok (.goto 4, 3) := by decide +kernel
theorem dX11_lives_57 : decode cX11_lives 57 = .ok (.iconst 0, 1) := by decide +kernel
theorem dX11_lives_58 : decode cX11_lives 58 = .ok (.aload_n 0, 1) := by decide +kernel
theorem dX11_lives_59 : decode cX11_lives 59 = .ok (.getfield 16, 3) := by decide +kernel
theorem dX11_lives_62 : decode cX11_lives 62 = .ok (.iconst 1, 1) := by decide +kernel
theorem dX11_lives_63 : decode cX11_lives 63 = .ok (.iaload, 1) := by decide +kernel
theorem dX11_lives_64 : decode cX11_lives 64 = .ok (.invokestatic 88, 3) := by decide +kernel
theorem dX11_lives_67 : decode cX11_lives 67 = .ok (.istore_n 2, 1) := by decide +kernel
theorem dX11_lives_68 : decode cX11_lives 68 = .ok (.aload_n 0, 1) := by decide +kernel
theorem dX11_lives_69 : decode cX11_lives 69 = .ok (.getfield 16, 3) := by decide +kernel
theorem dX11_lives_72 : decode cX11_lives 72 = .ok (.iload_n 1, 1) := by decide +kernel
theorem dX11_lives_73 : decode cX11_lives 73 = .ok (.iconst 2, 1) := by decide +kernel
theorem dX11_lives_74 : decode cX11_lives 74 = .ok (.invokestatic 60, 3) := by decide +kernel
theorem dX11_lives_77 : decode cX11_lives 77 = .ok (.iload_n 2, 1) := by decide +kernel
theorem dX11_lives_78 : decode cX11_lives 78 = .ok (.iastore, 1) := by decide +kernel
theorem dX11_lives_79 : decode cX11_lives 79 = .ok (.aload_n 0, 1) := by decide +kernel
theorem dX11_lives_80 : decode cX11_lives 80 = .ok (.getfield 16, 3) := by decide +kernel
theorem dX11_lives_83 : decode cX11_lives 83 = .ok (.iload_n 1, 1) := by decide +kernel
theorem dX11_lives_84 : decode cX11_lives 84 = .ok (.bipush 6, 2) := by decide +kernel
theorem dX11_lives_86 : decode cX11_lives 86 = .ok (.invokestatic 60, 3) := by decide +kernel
theorem dX11_lives_89 : decode cX11_lives 89 = .ok (.iaload, 1) := by decide +kernel
theorem dX11_lives_90 : decode cX11_lives 90 = .ok (.ifCond .ne 6, 3) := by decide +kernel
theorem dX11_lives_93 : decode cX11_lives 93 = .ok (.goto 89, 3) := by decide +kernel
theorem dX11_lives_96 : decode cX11_lives 96 = .ok (.iload_n 2, 1) := by decide +kernel
theorem dX11_lives_97 : decode cX11_lives 97 = .ok (.sipush 200, 3) := by decide +kernel
theorem dX11_lives_100 : decode cX11_lives 100 = .ok (.sipush 400, 3) := by decide +kernel
theorem dX11_lives_103 : decode cX11_lives 103 = .ok (.invokestatic 64, 3) := by decide +kernel
theorem dX11_lives_106 : decode cX11_lives 106 = .ok (.ifCond .eq 30, 3) := by decide +kernel
theorem dX11_lives_109 : decode cX11_lives 109 = .ok (.aload_n 0, 1) := by decide +kernel
theorem dX11_lives_110 : decode cX11_lives 110 = .ok (.getfield 16, 3) := by decide +kernel
theorem dX11_lives_113 : decode cX11_lives 113 = .ok (.iload_n 1, 1) := by decide +kernel
theorem dX11_lives_114 : decode cX11_lives 114 = .ok (.iconst 4, 1) := by decide +kernel
theorem dX11_lives_115 : decode cX11_lives 115 = .ok (.invokestatic 60, 3) := by decide +kernel
theorem dX11_lives_118 : decode cX11_lives 118 = .ok (.iaload, 1) := by decide +kernel
theorem dX11_lives_119 : decode cX11_lives 119 = .ok (.ifCond .le 17, 3) := by decide +kernel
theorem dX11_lives_122 : decode cX11_lives 122 = .ok (.aload_n 0, 1) := by decide +kernel
theorem dX11_lives_123 : decode cX11_lives 123 = .ok (.getfield 16, 3) := by decide +kernel
theorem dX11_lives_126 : decode cX11_lives 126 = .ok (.iload_n 1, 1) := by decide +kernel
theorem dX11_lives_127 : decode cX11_lives 127 = .ok (.iconst 4, 1) := by decide +kernel
theorem dX11_lives_128 : decode cX11_lives 128 = .ok (.invokestatic 60, 3) := by decide +kernel
theorem dX11_lives_131 : decode cX11_lives 131 = .ok (.dup2, 1) := by decide +kernel
theorem dX11_lives_132 : decode cX11_lives 132 = .ok (.iaload, 1) := by decide +kernel
theorem dX11_lives_133 : decode cX11_lives 133 = .ok (.iconst 1, 1) := by decide +kernel
theorem dX11_lives_134 : decode cX11_lives 134 = .ok (.isub, 1) := by decide +kernel
theorem dX11_lives_135 : decode cX11_lives 135 = .ok (.iastore, 1) := by decide +kernel
theorem dX11_lives_136 : decode cX11_lives 136 = .ok (.iload_n 2, 1) := by decide +kernel
theorem dX11_lives_137 : decode cX11_lives 137 = .ok (.sipush 700, 3) := by decide +kernel
theorem dX11_lives_140 : decode cX11_lives 140 = .ok (.if_icmp .ge 6, 3) := by decide +kernel
theorem dX11_lives_143 : decode cX11_lives 143 = .ok (.goto 39, 3) := by decide +kernel
theorem dX11_lives_146 : decode cX11_lives 146 = .ok (.aload_n 0, 1) := by decide +kernel
theorem dX11_lives_147 : decode cX11_lives 147 = .ok (.getfield 16, 3) := by decide +kernel
theorem dX11_lives_150 : decode cX11_lives 150 = .ok (.iload_n 1, 1) := by decide +kernel
theorem dX11_lives_151 : decode cX11_lives 151 = .ok (.bipush 6, 2) := by decide +kernel
theorem dX11_lives_153 : decode cX11_lives 153 = .ok (.invokestatic 60, 3) := by decide +kernel
theorem dX11_lives_156 : decode cX11_lives 156 = .ok (.iconst 0, 1) := by decide +kernel
theorem dX11_lives_157 : decode cX11_lives 157 = .ok (.iastore, 1) := by decide +kernel
theorem dX11_lives_158 : decode cX11_lives 158 = .ok (.aload_n 0, 1) := by decide +kernel
theorem dX11_lives_159 : decode cX11_lives 159 = .ok (.getfield 16, 3) := by decide +kernel
theorem dX11_lives_162 : decode cX11_lives 162 = .ok (.iload_n 1, 1) := by decide +kernel
theorem dX11_lives_163 : decode cX11_lives 163 = .ok (.bipush 7, 2) := by decide +kernel
theorem dX11_lives_165 : decode cX11_lives 165 = .ok (.invokestatic 60, 3) := by decide +kernel
theorem dX11_lives_168 : decode cX11_lives 168 = .ok (.iconst 0, 1) := by decide +kernel
theorem dX11_lives_169 : decode cX11_lives 169 = .ok (.iastore, 1) := by decide +kernel
theorem dX11_lives_170 : decode cX11_lives 170 = .ok (.aload_n 0, 1) := by decide +kernel
theorem dX11_lives_171 : decode cX11_lives 171 = .ok (.getfield 16, 3) := by decide +kernel
theorem dX11_lives_174 : decode cX11_lives 174 = .ok (.iload_n 1, 1) := by decide +kernel
theorem dX11_lives_175 : decode cX11_lives 175 = .ok (.iconst 4, 1) := by decide +kernel
theorem dX11_lives_176 : decode cX11_lives 176 = .ok (.invokestatic 60, 3) := by decide +kernel
theorem dX11_lives_179 : decode cX11_lives 179 = .ok (.bipush 10, 2) := by decide +kernel
theorem dX11_lives_181 : decode cX11_lives 181 = .ok (.iastore, 1) := by decide +kernel
theorem dX11_lives_182 : decode cX11_lives 182 = .ok (.iinc 1 1, 3) := by decide +kernel
theorem dX11_lives_185 : decode cX11_lives 185 = .ok (.goto (-166), 3) := by decide +kernel
theorem dX11_lives_188 : decode cX11_lives 188 = .ok (.return_, 1) := by decide +kernel
theorem dX11_passes_0 : decode cX11_passes 0 = .ok (.iload_n 1, 1) := by decide +kernel
theorem dX11_passes_1 : decode cX11_passes 1 = .ok (.iconst 1, 1) := by decide +kernel
theorem dX11_passes_2 : decode cX11_passes 2 = .ok (.bipush 60, 2) := by decide +kernel
theorem dX11_passes_4 : decode cX11_passes 4 = .ok (.invokestatic 64, 3) := by decide +kernel
theorem dX11_passes_7 : decode cX11_passes 7 = .ok (.ifCond .ne 9, 3) := by decide +kernel
theorem dX11_passes_10 : decode cX11_passes 10 = .ok (.aload_n 0, 1) := by decide +kernel
theorem dX11_passes_11 : decode cX11_passes 11 = .ok (.iconst 1, 1) := by decide +kernel
theorem dX11_passes_12 : decode cX11_passes 12 = .ok (.invokevirtual 68, 3) := by decide +kernel
theorem dX11_passes_15 : decode cX11_passes 15 = .ok (.ireturn, 1) := by decide +kernel
theorem dX11_passes_16 : decode cX11_passes 16 = .ok (.iconst 0, 1) := by decide +kernel
theorem dX11_passes_17 : decode cX11_passes 17 = .ok (.istore_n 2, 1) := by decide +kernel
theorem dX11_passes_18 : decode cX11_passes 18 = .ok (.iload_n 2, 1) := by decide +kernel
theorem dX11_passes_19 : decode cX11_passes 19 = .ok (.iload_n 1, 1) := by decide +kernel
theorem dX11_passes_20 : decode cX11_passes 20 = .ok (.if_icmp .ge 13, 3) := by decide +kernel
theorem dX11_passes_23 : decode cX11_passes 23 = .ok (.aload_n 0, 1) := by decide +kernel
theorem dX11_passes_24 : decode cX11_passes 24 = .ok (.invokevirtual 92, 3) := by decide +kernel
theorem dX11_passes_27 : decode cX11_passes 27 = .ok (.iinc 2 1, 3) := by decide +kernel
theorem dX11_passes_30 : decode cX11_passes 30 = .ok (.goto (-12), 3) := by decide +kernel
theorem dX11_passes_33 : decode cX11_passes 33 = .ok (.aload_n 0, 1) := by decide +kernel
theorem dX11_passes_34 : decode cX11_passes 34 = .ok (.getfield 16, 3) := by decide +kernel
theorem dX11_passes_37 : decode cX11_passes 37 = .ok (.iconst 1, 1) := by decide +kernel
theorem dX11_passes_38 : decode cX11_passes 38 = .ok (.iaload, 1) := by decide +kernel
theorem dX11_passes_39 : decode cX11_passes 39 = .ok (.ireturn, 1) := by decide +kernel
theorem dX11_advance_0 : decode cX11_advance 0 = .ok (.aload_n 0, 1) := by decide +kernel
theorem dX11_advance_1 : decode cX11_advance 1 = .ok (.invokevirtual 72, 3) := by decide +kernel
theorem dX11_advance_4 : decode cX11_advance 4 = .ok (.aload_n 0, 1) := by decide +kernel
theorem dX11_advance_5 : decode cX11_advance 5 = .ok (.aload_n 0, 1) := by decide +kernel
theorem dX11_advance_6 : decode cX11_advance 6 = .ok (.iload_n 1, 1) := by decide +kernel
theorem dX11_advance_7 : decode cX11_advance 7 = .ok (.invokevirtual 95, 3) := by decide +kernel
theorem dX11_advance_10 : decode cX11_advance 10 = .ok (.invokevirtual 78, 3) := by decide +kernel
theorem dX11_advance_13 : decode cX11_advance 13 = .ok (.ireturn, 1) := by decide +kernel
theorem dX11_makes_0 : decode cX11_makes 0 = .ok (.iload_n 1, 1) := by decide +kernel
theorem dX11_makes_1 : decode cX11_makes 1 = .ok (.bipush 98, 2) := by decide +kernel
theorem dX11_makes_3 : decode cX11_makes 3 = .ok (.if_icmp .eq 21, 3) := by decide +kernel
theorem dX11_makes_6 : decode cX11_makes 6 = .ok (.iload_n 1, 1) := by decide +kernel
theorem dX11_makes_7 : decode cX11_makes 7 = .ok (.bipush 110, 2) := by decide +kernel
theorem dX11_makes_9 : decode cX11_makes 9 = .ok (.if_icmp .eq 15, 3) := by decide +kernel
theorem dX11_makes_12 : decode cX11_makes 12 = .ok (.iload_n 1, 1) := by decide +kernel
theorem dX11_makes_13 : decode cX11_makes 13 = .ok (.bipush 119, 2) := by decide +kernel
theorem dX11_makes_15 : decode cX11_makes 15 = .ok (.if_icmp .eq 9, 3) := by decide +kernel
theorem dX11_makes_18 : decode cX11_makes 18 = .ok (.aload_n 0, 1) := by decide +kernel
theorem dX11_makes_19 : decode cX11_makes 19 = .ok (.iconst 1, 1) := by decide +kernel
theorem dX11_makes_20 : decode cX11_makes 20 = .ok (.invokevirtual 68, 3) := by decide +kernel
theorem dX11_makes_23 : decode cX11_makes 23 = .ok (.ireturn, 1) := by decide +kernel
theorem dX11_makes_24 : decode cX11_makes 24 = .ok (.aload_n 0, 1) := by decide +kernel
theorem dX11_makes_25 : decode cX11_makes 25 = .ok (.getfield 16, 3) := by decide +kernel
theorem dX11_makes_28 : decode cX11_makes 28 = .ok (.iconst 5, 1) := by decide +kernel
theorem dX11_makes_29 : decode cX11_makes 29 = .ok (.iaload, 1) := by decide +kernel
theorem dX11_makes_30 : decode cX11_makes 30 = .ok (.istore_n 2, 1) := by decide +kernel
theorem dX11_makes_31 : decode cX11_makes 31 = .ok (.iload_n 2, 1) := by decide +kernel
theorem dX11_makes_32 : decode cX11_makes 32 = .ok (.bipush 8, 2) := by decide +kernel
theorem dX11_makes_34 : decode cX11_makes 34 = .ok (.if_icmp .ne 9, 3) := by decide +kernel
theorem dX11_makes_37 : decode cX11_makes 37 = .ok (.aload_n 0, 1) := by decide +kernel
theorem dX11_makes_38 : decode cX11_makes 38 = .ok (.iconst 2, 1) := by decide +kernel
theorem dX11_makes_39 : decode cX11_makes 39 = .ok (.invokevirtual 68, 3) := by decide +kernel
theorem dX11_makes_42 : decode cX11_makes 42 = .ok (.ireturn, 1) := by decide +kernel
theorem dX11_makes_43 : decode cX11_makes 43 = .ok (.iconst 0, 1) := by decide +kernel
theorem dX11_makes_44 : decode cX11_makes 44 = .ok (.istore_n 3, 1) := by decide +kernel
theorem dX11_makes_45 : decode cX11_makes 45 = .ok (.iload_n 3, 1) := by decide +kernel
theorem dX11_makes_46 : decode cX11_makes 46 = .ok (.bipush 8, 2) := by decide +kernel
theorem dX11_makes_48 : decode cX11_makes 48 = .ok (.if_icmp .ge 20, 3) := by decide +kernel
theorem dX11_makes_51 : decode cX11_makes 51 = .ok (.aload_n 0, 1) := by decide +kernel
theorem dX11_makes_52 : decode cX11_makes 52 = .ok (.getfield 16, 3) := by decide +kernel
theorem dX11_makes_55 : decode cX11_makes 55 = .ok (.iload_n 2, 1) := by decide +kernel
theorem dX11_makes_56 : decode cX11_makes 56 = .ok (.iload_n 3, 1) := by decide +kernel
theorem dX11_makes_57 : decode cX11_makes 57 = .ok (.invokestatic 60, 3) := by decide +kernel
theorem dX11_makes_60 : decode cX11_makes 60 = .ok (.iconst 0, 1) := by decide +kernel
theorem dX11_makes_61 : decode cX11_makes 61 = .ok (.iastore, 1) := by decide +kernel
theorem dX11_makes_62 : decode cX11_makes 62 = .ok (.iinc 3 1, 3) := by decide +kernel
theorem dX11_makes_65 : decode cX11_makes 65 = .ok (.goto (-20), 3) := by decide +kernel
theorem dX11_makes_68 : decode cX11_makes 68 = .ok (.aload_n 0, 1) := by decide +kernel
theorem dX11_makes_69 : decode cX11_makes 69 = .ok (.getfield 16, 3) := by decide +kernel
theorem dX11_makes_72 : decode cX11_makes 72 = .ok (.iload_n 2, 1) := by decide +kernel
theorem dX11_makes_73 : decode cX11_makes 73 = .ok (.iconst 0, 1) := by decide +kernel
theorem dX11_makes_74 : decode cX11_makes 74 = .ok (.invokestatic 60, 3) := by decide +kernel
theorem dX11_makes_77 : decode cX11_makes 77 = .ok (.aload_n 0, 1) := by decide +kernel
theorem dX11_makes_78 : decode cX11_makes 78 = .ok (.getfield 16, 3) := by decide +kernel
theorem dX11_makes_81 : decode cX11_makes 81 = .ok (.iconst 4, 1) := by decide +kernel
theorem dX11_makes_82 : decode cX11_makes 82 = .ok (.iaload, 1) := by decide +kernel
theorem dX11_makes_83 : decode cX11_makes 83 = .ok (.iastore, 1) := by decide +kernel
theorem dX11_makes_84 : decode cX11_makes 84 = .ok (.aload_n 0, 1) := by decide +kernel
theorem dX11_makes_85 : decode cX11_makes 85 = .ok (.getfield 16, 3) := by decide +kernel
theorem dX11_makes_88 : decode cX11_makes 88 = .ok (.iload_n 2, 1) := by decide +kernel
theorem dX11_makes_89 : decode cX11_makes 89 = .ok (.iconst 1, 1) := by decide +kernel
theorem dX11_makes_90 : decode cX11_makes 90 = .ok (.invokestatic 60, 3) := by decide +kernel
theorem dX11_makes_93 : decode cX11_makes 93 = .ok (.iload_n 1, 1) := by decide +kernel
theorem dX11_makes_94 : decode cX11_makes 94 = .ok (.iastore, 1) := by decide +kernel
theorem dX11_makes_95 : decode cX11_makes 95 = .ok (.aload_n 0, 1) := by decide +kernel
theorem dX11_makes_96 : decode cX11_makes 96 = .ok (.getfield 16, 3) := by decide +kernel
theorem dX11_makes_99 : decode cX11_makes 99 = .ok (.iload_n 2, 1) := by decide +kernel
theorem dX11_makes_100 : decode cX11_makes 100 = .ok (.iconst 2, 1) := by decide +kernel
theorem dX11_makes_101 : decode cX11_makes 101 = .ok (.invokestatic 60, 3) := by decide +kernel
theorem dX11_makes_104 : decode cX11_makes 104 = .ok (.bipush 20, 2) := by decide +kernel
theorem dX11_makes_106 : decode cX11_makes 106 = .ok (.iastore, 1) := by decide +kernel
theorem dX11_makes_107 : decode cX11_makes 107 = .ok (.aload_n 0, 1) := by decide +kernel
theorem dX11_makes_108 : decode cX11_makes 108 = .ok (.getfield 16, 3) := by decide +kernel
theorem dX11_makes_111 : decode cX11_makes 111 = .ok (.iload_n 2, 1) := by decide +kernel
theorem dX11_makes_112 : decode cX11_makes 112 = .ok (.iconst 4, 1) := by decide +kernel
theorem dX11_makes_113 : decode cX11_makes 113 = .ok (.invokestatic 60, 3) := by decide +kernel
theorem dX11_makes_116 : decode cX11_makes 116 = .ok (.bipush 10, 2) := by decide +kernel
theorem dX11_makes_118 : decode cX11_makes 118 = .ok (.iastore, 1) := by decide +kernel
theorem dX11_makes_119 : decode cX11_makes 119 = .ok (.aload_n 0, 1) := by decide +kernel
theorem dX11_makes_120 : decode cX11_makes 120 = .ok (.getfield 16, 3) := by decide +kernel
theorem dX11_makes_123 : decode cX11_makes 123 = .ok (.iconst 5, 1) := by decide +kernel
theorem dX11_makes_124 : decode cX11_makes 124 = .ok (.dup2, 1) := by decide +kernel
theorem dX11_makes_125 : decode cX11_makes 125 = .ok (.iaload, 1) := by decide +kernel
theorem dX11_makes_126 : decode cX11_makes 126 = .ok (.iconst 1, 1) := by decide +kernel
theorem dX11_makes_127 : decode cX11_makes 127 = .ok (.iadd, 1) := by decide +kernel
theorem dX11_makes_128 : decode cX11_makes 128 = .ok (.iastore, 1) := by decide +kernel
theorem dX11_makes_129 : decode cX11_makes 129 = .ok (.aload_n 0, 1) := by decide +kernel
theorem dX11_makes_130 : decode cX11_makes 130 = .ok (.getfield 16, 3) := by decide +kernel
theorem dX11_makes_133 : decode cX11_makes 133 = .ok (.iconst 4, 1) := by decide +kernel
theorem dX11_makes_134 : decode cX11_makes 134 = .ok (.dup2, 1) := by decide +kernel
theorem dX11_makes_135 : decode cX11_makes 135 = .ok (.iaload, 1) := by decide +kernel
theorem dX11_makes_136 : decode cX11_makes 136 = .ok (.iconst 1, 1) := by decide +kernel
theorem dX11_makes_137 : decode cX11_makes 137 = .ok (.iadd, 1) := by decide +kernel
theorem dX11_makes_138 : decode cX11_makes 138 = .ok (.iastore, 1) := by decide +kernel
theorem dX11_makes_139 : decode cX11_makes 139 = .ok (.aload_n 0, 1) := by decide +kernel
theorem dX11_makes_140 : decode cX11_makes 140 = .ok (.getfield 16, 3) := by decide +kernel
theorem dX11_makes_143 : decode cX11_makes 143 = .ok (.iload_n 2, 1) := by decide +kernel
theorem dX11_makes_144 : decode cX11_makes 144 = .ok (.iconst 0, 1) := by decide +kernel
theorem dX11_makes_145 : decode cX11_makes 145 = .ok (.invokestatic 60, 3) := by decide +kernel
theorem dX11_makes_148 : decode cX11_makes 148 = .ok (.iaload, 1) := by decide +kernel
theorem dX11_makes_149 : decode cX11_makes 149 = .ok (.ireturn, 1) := by decide +kernel
theorem dX11_addPiece_0 : decode cX11_addPiece 0 = .ok (.aload_n 0, 1) := by decide +kernel
theorem dX11_addPiece_1 : decode cX11_addPiece 1 = .ok (.invokevirtual 72, 3) := by decide +kernel
theorem dX11_addPiece_4 : decode cX11_addPiece 4 = .ok (.aload_n 0, 1) := by decide +kernel
theorem dX11_addPiece_5 : decode cX11_addPiece 5 = .ok (.aload_n 0, 1) := by decide +kernel
theorem dX11_addPiece_6 : decode cX11_addPiece 6 = .ok (.iload_n 1, 1) := by decide +kernel
theorem dX11_addPiece_7 : decode cX11_addPiece 7 = .ok (.invokevirtual 98, 3) := by decide +kernel
theorem dX11_addPiece_10 : decode cX11_addPiece 10 = .ok (.invokevirtual 78, 3) := by decide +kernel
theorem dX11_addPiece_13 : decode cX11_addPiece 13 = .ok (.ireturn, 1) := by decide +kernel
theorem dX11_equips_0 : decode cX11_equips 0 = .ok (.iload_n 1, 1) := by decide +kernel
theorem dX11_equips_1 : decode cX11_equips 1 = .ok (.iconst 1, 1) := by decide +kernel
theorem dX11_equips_2 : decode cX11_equips 2 = .ok (.bipush 9, 2) := by decide +kernel
theorem dX11_equips_4 : decode cX11_equips 4 = .ok (.invokestatic 64, 3) := by decide +kernel
theorem dX11_equips_7 : decode cX11_equips 7 = .ok (.ifCond .ne 9, 3) := by decide +kernel
theorem dX11_equips_10 : decode cX11_equips 10 = .ok (.aload_n 0, 1) := by decide +kernel
theorem dX11_equips_11 : decode cX11_equips 11 = .ok (.iconst 1, 1) := by decide +kernel
theorem dX11_equips_12 : decode cX11_equips 12 = .ok (.invokevirtual 68, 3) := by decide +kernel
theorem dX11_equips_15 : decode cX11_equips 15 = .ok (.ireturn, 1) := by decide +kernel
theorem dX11_equips_16 : decode cX11_equips 16 = .ok (.aload_n 0, 1) := by decide +kernel
theorem dX11_equips_17 : decode cX11_equips 17 = .ok (.getfield 16, 3) := by decide +kernel
theorem dX11_equips_20 : decode cX11_equips 20 = .ok (.bipush 6, 2) := by decide +kernel
theorem dX11_equips_22 : decode cX11_equips 22 = .ok (.iaload, 1) := by decide +kernel
theorem dX11_equips_23 : decode cX11_equips 23 = .ok (.istore_n 2, 1) := by decide +kernel
theorem dX11_equips_24 : decode cX11_equips 24 = .ok (.iload_n 2, 1) := by decide +kernel
theorem dX11_equips_25 : decode cX11_equips 25 = .ok (.iconst 4, 1) := by decide +kernel
theorem dX11_equips_26 : decode cX11_equips 26 = .ok (.if_icmp .ne 9, 3) := by decide +kernel
theorem dX11_equips_29 : decode cX11_equips 29 = .ok (.aload_n 0, 1) := by decide +kernel
theorem dX11_equips_30 : decode cX11_equips 30 = .ok (.iconst 2, 1) := by decide +kernel
theorem dX11_equips_31 : decode cX11_equips 31 = .ok (.invokevirtual 68, 3) := by decide +kernel
theorem dX11_equips_34 : decode cX11_equips 34 = .ok (.ireturn, 1) := by decide +kernel
theorem dX11_equips_35 : decode cX11_equips 35 = .ok (.aload_n 0, 1) := by decide +kernel
theorem dX11_equips_36 : decode cX11_equips 36 = .ok (.getfield 16, 3) := by decide +kernel
theorem dX11_equips_39 : decode cX11_equips 39 = .ok (.bipush 77, 2) := by decide +kernel
theorem dX11_equips_41 : decode cX11_equips 41 = .ok (.iconst 2, 1) := by decide +kernel
theorem dX11_equips_42 : decode cX11_equips 42 = .ok (.iload_n 2, 1) := by decide +kernel
theorem dX11_equips_43 : decode cX11_equips 43 = .ok (.imul, 1) := by decide +kernel
theorem dX11_equips_44 : decode cX11_equips 44 = .ok (.iadd, 1) := by decide +kernel
theorem dX11_equips_45 : decode cX11_equips 45 = .ok (.iload_n 1, 1) := by decide +kernel
theorem dX11_equips_46 : decode cX11_equips 46 = .ok (.iastore, 1) := by decide +kernel
theorem dX11_equips_47 : decode cX11_equips 47 = .ok (.aload_n 0, 1) := by decide +kernel
theorem dX11_equips_48 : decode cX11_equips 48 = .ok (.getfield 16, 3) := by decide +kernel
theorem dX11_equips_51 : decode cX11_equips 51 = .ok (.bipush 77, 2) := by decide +kernel
theorem dX11_equips_53 : decode cX11_equips 53 = .ok (.iconst 2, 1) := by decide +kernel
theorem dX11_equips_54 : decode cX11_equips 54 = .ok (.iload_n 2, 1) := by decide +kernel
theorem dX11_equips_55 : decode cX11_equips 55 = .ok (.imul, 1) := by decide +kernel
theorem dX11_equips_56 : decode cX11_equips 56 = .ok (.iadd, 1) := by decide +kernel
theorem dX11_equips_57 : decode cX11_equips 57 = .ok (.iconst 1, 1) := by decide +kernel
theorem dX11_equips_58 : decode cX11_equips 58 = .ok (.iadd, 1) := by decide +kernel
theorem dX11_equips_59 : decode cX11_equips 59 = .ok (.iconst 0, 1) := by decide +kernel
theorem dX11_equips_60 : decode cX11_equips 60 = .ok (.iastore, 1) := by decide +kernel
theorem dX11_equips_61 : decode cX11_equips 61 = .ok (.aload_n 0, 1) := by decide +kernel
theorem dX11_equips_62 : decode cX11_equips 62 = .ok (.getfield 16, 3) := by decide +kernel
theorem dX11_equips_65 : decode cX11_equips 65 = .ok (.bipush 6, 2) := by decide +kernel
theorem dX11_equips_67 : decode cX11_equips 67 = .ok (.dup2, 1) := by decide +kernel
theorem dX11_equips_68 : decode cX11_equips 68 = .ok (.iaload, 1) := by decide +kernel
theorem dX11_equips_69 : decode cX11_equips 69 = .ok (.iconst 1, 1) := by decide +kernel
theorem dX11_equips_70 : decode cX11_equips 70 = .ok (.iadd, 1) := by decide +kernel
theorem dX11_equips_71 : decode cX11_equips 71 = .ok (.iastore, 1) := by decide +kernel
theorem dX11_equips_72 : decode cX11_equips 72 = .ok (.iload_n 2, 1) := by decide +kernel
theorem dX11_equips_73 : decode cX11_equips 73 = .ok (.ireturn, 1) := by decide +kernel
theorem dX11_addHammer_0 : decode cX11_addHammer 0 = .ok (.aload_n 0, 1) := by decide +kernel
theorem dX11_addHammer_1 : decode cX11_addHammer 1 = .ok (.invokevirtual 72, 3) := by decide +kernel
theorem dX11_addHammer_4 : decode cX11_addHammer 4 = .ok (.aload_n 0, 1) := by decide +kernel
theorem dX11_addHammer_5 : decode cX11_addHammer 5 = .ok (.aload_n 0, 1) := by decide +kernel
theorem dX11_addHammer_6 : decode cX11_addHammer 6 = .ok (.iload_n 1, 1) := by decide +kernel
theorem dX11_addHammer_7 : decode cX11_addHammer 7 = .ok (.invokevirtual 101, 3) := by decide +kernel
theorem dX11_addHammer_10 : decode cX11_addHammer 10 = .ok (.invokevirtual 78, 3) := by decide +kernel
theorem dX11_addHammer_13 : decode cX11_addHammer 13 = .ok (.ireturn, 1) := by decide +kernel
theorem dX11_inside_0 : decode cX11_inside 0 = .ok (.iconst 0, 1) := by decide +kernel
theorem dX11_inside_1 : decode cX11_inside 1 = .ok (.istore_n 1, 1) := by decide +kernel
theorem dX11_inside_2 : decode cX11_inside 2 = .ok (.iconst 0, 1) := by decide +kernel
theorem dX11_inside_3 : decode cX11_inside 3 = .ok (.istore_n 2, 1) := by decide +kernel
theorem dX11_inside_4 : decode cX11_inside 4 = .ok (.iload_n 2, 1) := by decide +kernel
theorem dX11_inside_5 : decode cX11_inside 5 = .ok (.aload_n 0, 1) := by decide +kernel
theorem dX11_inside_6 : decode cX11_inside 6 = .ok (.getfield 16, 3) := by decide +kernel
theorem dX11_inside_9 : decode cX11_inside 9 = .ok (.iconst 5, 1) := by decide +kernel
theorem dX11_inside_10 : decode cX11_inside 10 = .ok (.iaload, 1) := by decide +kernel
theorem dX11_inside_11 : decode cX11_inside 11 = .ok (.if_icmp .ge 22, 3) := by decide +kernel
theorem dX11_inside_14 : decode cX11_inside 14 = .ok (.iload_n 1, 1) := by decide +kernel
theorem dX11_inside_15 : decode cX11_inside 15 = .ok (.aload_n 0, 1) := by decide +kernel
theorem dX11_inside_16 : decode cX11_inside 16 = .ok (.getfield 16, 3) := by decide +kernel
theorem dX11_inside_19 : decode cX11_inside 19 = .ok (.iload_n 2, 1) := by decide +kernel
theorem dX11_inside_20 : decode cX11_inside 20 = .ok (.iconst 5, 1) := by decide +kernel
theorem dX11_inside_21 : decode cX11_inside 21 = .ok (.invokestatic 60, 3) := by decide +kernel
theorem dX11_inside_24 : decode cX11_inside 24 = .ok (.iaload, 1) := by decide +kernel
theorem dX11_inside_25 : decode cX11_inside 25 = .ok (.iadd, 1) := by decide +kernel
theorem dX11_inside_26 : decode cX11_inside 26 = .ok (.istore_n 1, 1) := by decide +kernel
theorem dX11_inside_27 : decode cX11_inside 27 = .ok (.iinc 2 1, 3) := by decide +kernel
theorem dX11_inside_30 : decode cX11_inside 30 = .ok (.goto (-26), 3) := by decide +kernel
theorem dX11_inside_33 : decode cX11_inside 33 = .ok (.iload_n 1, 1) := by decide +kernel
theorem dX11_inside_34 : decode cX11_inside 34 = .ok (.ireturn, 1) := by decide +kernel
theorem dX11_puts_0 : decode cX11_puts 0 = .ok (.iload_n 1, 1) := by decide +kernel
theorem dX11_puts_1 : decode cX11_puts 1 = .ok (.ifCond .ge 9, 3) := by decide +kernel
theorem dX11_puts_4 : decode cX11_puts 4 = .ok (.aload_n 0, 1) := by decide +kernel
theorem dX11_puts_5 : decode cX11_puts 5 = .ok (.iconst 1, 1) := by decide +kernel
theorem dX11_puts_6 : decode cX11_puts 6 = .ok (.invokevirtual 68, 3) := by decide +kernel
theorem dX11_puts_9 : decode cX11_puts 9 = .ok (.ireturn, 1) := by decide +kernel
theorem dX11_puts_10 : decode cX11_puts 10 = .ok (.aload_n 0, 1) := by decide +kernel
theorem dX11_puts_11 : decode cX11_puts 11 = .ok (.getfield 16, 3) := by decide +kernel
theorem dX11_puts_14 : decode cX11_puts 14 = .ok (.iload_n 1, 1) := by decide +kernel
theorem dX11_puts_15 : decode cX11_puts 15 = .ok (.iconst 5, 1) := by decide +kernel
theorem dX11_puts_16 : decode cX11_puts 16 = .ok (.invokestatic 60, 3) := by decide +kernel
theorem dX11_puts_19 : decode cX11_puts 19 = .ok (.iaload, 1) := by decide +kernel
theorem dX11_puts_20 : decode cX11_puts 20 = .ok (.iconst 1, 1) := by decide +kernel
theorem dX11_puts_21 : decode cX11_puts 21 = .ok (.if_icmp .eq 11, 3) := by decide +kernel
theorem dX11_puts_24 : decode cX11_puts 24 = .ok (.aload_n 0, 1) := by decide +kernel
theorem dX11_puts_25 : decode cX11_puts 25 = .ok (.invokevirtual 104, 3) := by decide +kernel
theorem dX11_puts_28 : decode cX11_puts 28 = .ok (.iconst 3, 1) := by decide +kernel
theorem dX11_puts_29 : decode cX11_puts 29 = .ok (.if_icmp .ne 9, 3) := by decide +kernel
theorem dX11_puts_32 : decode cX11_puts 32 = .ok (.aload_n 0, 1) := by decide +kernel
theorem dX11_puts_33 : decode cX11_puts 33 = .ok (.iconst 2, 1) := by decide +kernel
theorem dX11_puts_34 : decode cX11_puts 34 = .ok (.invokevirtual 68, 3) := by decide +kernel
theorem dX11_puts_37 : decode cX11_puts 37 = .ok (.ireturn, 1) := by decide +kernel
theorem dX11_puts_38 : decode cX11_puts 38 = .ok (.aload_n 0, 1) := by decide +kernel
theorem dX11_puts_39 : decode cX11_puts 39 = .ok (.getfield 16, 3) := by decide +kernel
theorem dX11_puts_42 : decode cX11_puts 42 = .ok (.iload_n 1, 1) := by decide +kernel
theorem dX11_puts_43 : decode cX11_puts 43 = .ok (.iconst 5, 1) := by decide +kernel
theorem dX11_puts_44 : decode cX11_puts 44 = .ok (.invokestatic 60, 3) := by decide +kernel
theorem dX11_puts_47 : decode cX11_puts 47 = .ok (.iconst 1, 1) := by decide +kernel
theorem dX11_puts_48 : decode cX11_puts 48 = .ok (.iastore, 1) := by decide +kernel
theorem dX11_puts_49 : decode cX11_puts 49 = .ok (.aload_n 0, 1) := by decide +kernel
theorem dX11_puts_50 : decode cX11_puts 50 = .ok (.invokevirtual 104, 3) := by decide +kernel
theorem dX11_puts_53 : decode cX11_puts 53 = .ok (.ireturn, 1) := by decide +kernel
theorem dX11_putIn_0 : decode cX11_putIn 0 = .ok (.aload_n 0, 1) := by decide +kernel
theorem dX11_putIn_1 : decode cX11_putIn 1 = .ok (.invokevirtual 72, 3) := by decide +kernel
theorem dX11_putIn_4 : decode cX11_putIn 4 = .ok (.aload_n 0, 1) := by decide +kernel
theorem dX11_putIn_5 : decode cX11_putIn 5 = .ok (.aload_n 0, 1) := by decide +kernel
theorem dX11_putIn_6 : decode cX11_putIn 6 = .ok (.aload_n 0, 1) := by decide +kernel
theorem dX11_putIn_7 : decode cX11_putIn 7 = .ok (.iload_n 1, 1) := by decide +kernel
theorem dX11_putIn_8 : decode cX11_putIn 8 = .ok (.invokevirtual 108, 3) := by decide +kernel
theorem dX11_putIn_11 : decode cX11_putIn 11 = .ok (.invokevirtual 111, 3) := by decide +kernel
theorem dX11_putIn_14 : decode cX11_putIn 14 = .ok (.invokevirtual 78, 3) := by decide +kernel
theorem dX11_putIn_17 : decode cX11_putIn 17 = .ok (.ireturn, 1) := by decide +kernel
theorem dX11_takes_0 : decode cX11_takes 0 = .ok (.iload_n 1, 1) := by decide +kernel
theorem dX11_takes_1 : decode cX11_takes 1 = .ok (.ifCond .ge 9, 3) := by decide +kernel
theorem dX11_takes_4 : decode cX11_takes 4 = .ok (.aload_n 0, 1) := by decide +kernel
theorem dX11_takes_5 : decode cX11_takes 5 = .ok (.iconst 1, 1) := by decide +kernel
theorem dX11_takes_6 : decode cX11_takes 6 = .ok (.invokevirtual 68, 3) := by decide +kernel
theorem dX11_takes_9 : decode cX11_takes 9 = .ok (.ireturn, 1) := by decide +kernel
theorem dX11_takes_10 : decode cX11_takes 10 = .ok (.aload_n 0, 1) := by decide +kernel
theorem dX11_takes_11 : decode cX11_takes 11 = .ok (.getfield 16, 3) := by decide +kernel
theorem dX11_takes_14 : decode cX11_takes 14 = .ok (.iload_n 1, 1) := by decide +kernel
theorem dX11_takes_15 : decode cX11_takes 15 = .ok (.iconst 5, 1) := by decide +kernel
theorem dX11_takes_16 : decode cX11_takes 16 = .ok (.invokestatic 60, 3) := by decide +kernel
theorem dX11_takes_19 : decode cX11_takes 19 = .ok (.iaload, 1) := by decide +kernel
theorem dX11_takes_20 : decode cX11_takes 20 = .ok (.ifCond .ne 9, 3) := by decide +kernel
theorem dX11_takes_23 : decode cX11_takes 23 = .ok (.aload_n 0, 1) := by decide +kernel
theorem dX11_takes_24 : decode cX11_takes 24 = .ok (.iconst 2, 1) := by decide +kernel
theorem dX11_takes_25 : decode cX11_takes 25 = .ok (.invokevirtual 68, 3) := by decide +kernel
theorem dX11_takes_28 : decode cX11_takes 28 = .ok (.ireturn, 1) := by decide +kernel
theorem dX11_takes_29 : decode cX11_takes 29 = .ok (.aload_n 0, 1) := by decide +kernel
theorem dX11_takes_30 : decode cX11_takes 30 = .ok (.getfield 16, 3) := by decide +kernel
theorem dX11_takes_33 : decode cX11_takes 33 = .ok (.iload_n 1, 1) := by decide +kernel
theorem dX11_takes_34 : decode cX11_takes 34 = .ok (.iconst 5, 1) := by decide +kernel
theorem dX11_takes_35 : decode cX11_takes 35 = .ok (.invokestatic 60, 3) := by decide +kernel
theorem dX11_takes_38 : decode cX11_takes 38 = .ok (.iconst 0, 1) := by decide +kernel
theorem dX11_takes_39 : decode cX11_takes 39 = .ok (.iastore, 1) := by decide +kernel
theorem dX11_takes_40 : decode cX11_takes 40 = .ok (.aload_n 0, 1) := by decide +kernel
theorem dX11_takes_41 : decode cX11_takes 41 = .ok (.getfield 16, 3) := by decide +kernel
theorem dX11_takes_44 : decode cX11_takes 44 = .ok (.iload_n 1, 1) := by decide +kernel
theorem dX11_takes_45 : decode cX11_takes 45 = .ok (.iconst 2, 1) := by decide +kernel
theorem dX11_takes_46 : decode cX11_takes 46 = .ok (.invokestatic 60, 3) := by decide +kernel
theorem dX11_takes_49 : decode cX11_takes 49 = .ok (.iaload, 1) := by decide +kernel
theorem dX11_takes_50 : decode cX11_takes 50 = .ok (.ireturn, 1) := by decide +kernel
theorem dX11_takeOut_0 : decode cX11_takeOut 0 = .ok (.aload_n 0, 1) := by decide +kernel
theorem dX11_takeOut_1 : decode cX11_takeOut 1 = .ok (.invokevirtual 72, 3) := by decide +kernel
theorem dX11_takeOut_4 : decode cX11_takeOut 4 = .ok (.aload_n 0, 1) := by decide +kernel
theorem dX11_takeOut_5 : decode cX11_takeOut 5 = .ok (.aload_n 0, 1) := by decide +kernel
theorem dX11_takeOut_6 : decode cX11_takeOut 6 = .ok (.aload_n 0, 1) := by decide +kernel
theorem dX11_takeOut_7 : decode cX11_takeOut 7 = .ok (.iload_n 1, 1) := by decide +kernel
theorem dX11_takeOut_8 : decode cX11_takeOut 8 = .ok (.invokevirtual 108, 3) := by decide +kernel
theorem dX11_takeOut_11 : decode cX11_takeOut 11 = .ok (.invokevirtual 114, 3) := by decide +kernel
theorem dX11_takeOut_14 : decode cX11_takeOut 14 = .ok (.invokevirtual 78, 3) := by decide +kernel
theorem dX11_takeOut_17 : decode cX11_takeOut 17 = .ok (.ireturn, 1) := by decide +kernel
theorem dX11_blow_0 : decode cX11_blow 0 = .ok (.aload_n 0, 1) := by decide +kernel
theorem dX11_blow_1 : decode cX11_blow 1 = .ok (.getfield 16, 3) := by decide +kernel
theorem dX11_blow_4 : decode cX11_blow 4 = .ok (.iload_n 1, 1) := by decide +kernel
theorem dX11_blow_5 : decode cX11_blow 5 = .ok (.iconst 2, 1) := by decide +kernel
theorem dX11_blow_6 : decode cX11_blow 6 = .ok (.invokestatic 60, 3) := by decide +kernel
theorem dX11_blow_9 : decode cX11_blow 9 = .ok (.iaload, 1) := by decide +kernel
theorem dX11_blow_10 : decode cX11_blow 10 = .ok (.sipush 500, 3) := by decide +kernel
theorem dX11_blow_13 : decode cX11_blow 13 = .ok (.isub, 1) := by decide +kernel
theorem dX11_blow_14 : decode cX11_blow 14 = .ok (.istore_n 3, 1) := by decide +kernel
theorem dX11_blow_15 : decode cX11_blow 15 = .ok (.iconst 1, 1) := by decide +kernel
theorem dX11_blow_16 : decode cX11_blow 16 = .ok (.iload_n 3, 1) := by decide +kernel
theorem dX11_blow_17 : decode cX11_blow 17 = .ok (.ifCond .le 17, 3) := by decide +kernel
theorem dX11_blow_20 : decode cX11_blow 20 = .ok (.aload_n 0, 1) := by decide +kernel
theorem dX11_blow_21 : decode cX11_blow 21 = .ok (.iload_n 2, 1) := by decide +kernel
theorem dX11_blow_22 : decode cX11_blow 22 = .ok (.invokevirtual 117, 3) := by decide +kernel
theorem dX11_blow_25 : decode cX11_blow 25 = .ok (.iload_n 3, 1) := by decide +kernel
theorem dX11_blow_26 : decode cX11_blow 26 = .ok (.imul, 1) := by decide +kernel
theorem dX11_blow_27 : decode cX11_blow 27 = .ok (.sipush 1000, 3) := by decide +kernel
theorem dX11_blow_30 : decode cX11_blow 30 = .ok (.idiv, 1) := by decide +kernel
theorem dX11_blow_31 : decode cX11_blow 31 = .ok (.goto 4, 3) := by decide +kernel
theorem dX11_blow_34 : decode cX11_blow 34 = .ok (.iconst 0, 1) := by decide +kernel
theorem dX11_blow_35 : decode cX11_blow 35 = .ok (.iadd, 1) := by decide +kernel
theorem dX11_blow_36 : decode cX11_blow 36 = .ok (.istore 4, 2) := by decide +kernel
theorem dX11_blow_38 : decode cX11_blow 38 = .ok (.bipush 10, 2) := by decide +kernel
theorem dX11_blow_40 : decode cX11_blow 40 = .ok (.aload_n 0, 1) := by decide +kernel
theorem dX11_blow_41 : decode cX11_blow 41 = .ok (.getfield 16, 3) := by decide +kernel
theorem dX11_blow_44 : decode cX11_blow 44 = .ok (.iload_n 1, 1) := by decide +kernel
theorem dX11_blow_45 : decode cX11_blow 45 = .ok (.iconst 3, 1) := by decide +kernel
theorem dX11_blow_46 : decode cX11_blow 46 = .ok (.invokestatic 60, 3) := by decide +kernel
theorem dX11_blow_49 : decode cX11_blow 49 = .ok (.iaload, 1) := by decide +kernel
theorem dX11_blow_50 : decode cX11_blow 50 = .ok (.isub, 1) := by decide +kernel
theorem dX11_blow_51 : decode cX11_blow 51 = .ok (.istore 5, 2) := by decide +kernel
theorem dX11_blow_53 : decode cX11_blow 53 = .ok (.iload 4, 2) := by decide +kernel
theorem dX11_blow_55 : decode cX11_blow 55 = .ok (.iload 5, 2) := by decide +kernel
theorem dX11_blow_57 : decode cX11_blow 57 = .ok (.if_icmp .ge 8, 3) := by decide +kernel
theorem dX11_blow_60 : decode cX11_blow 60 = .ok (.iload 4, 2) := by decide +kernel
theorem dX11_blow_62 : decode cX11_blow 62 = .ok (.goto 5, 3) := by decide +kernel
theorem dX11_blow_65 : decode cX11_blow 65 = .ok (.iload 5, 2) := by decide +kernel
theorem dX11_blow_67 : decode cX11_blow 67 = .ok (.ireturn, 1) := by decide +kernel
theorem dX11_hardens_0 : decode cX11_hardens 0 = .ok (.aload_n 0, 1) := by decide +kernel
theorem dX11_hardens_1 : decode cX11_hardens 1 = .ok (.getfield 16, 3) := by decide +kernel
theorem dX11_hardens_4 : decode cX11_hardens 4 = .ok (.iload_n 1, 1) := by decide +kernel
theorem dX11_hardens_5 : decode cX11_hardens 5 = .ok (.iconst 4, 1) := by decide +kernel
theorem dX11_hardens_6 : decode cX11_hardens 6 = .ok (.invokestatic 60, 3) := by decide +kernel
theorem dX11_hardens_9 : decode cX11_hardens 9 = .ok (.iaload, 1) := by decide +kernel
theorem dX11_hardens_10 : decode cX11_hardens 10 = .ok (.iload_n 2, 1) := by decide +kernel
theorem dX11_hardens_11 : decode cX11_hardens 11 = .ok (.iadd, 1) := by decide +kernel
theorem dX11_hardens_12 : decode cX11_hardens 12 = .ok (.istore_n 3, 1) := by decide +kernel
theorem dX11_hardens_13 : decode cX11_hardens 13 = .ok (.aload_n 0, 1) := by decide +kernel
theorem dX11_hardens_14 : decode cX11_hardens 14 = .ok (.getfield 16, 3) := by decide +kernel
theorem dX11_hardens_17 : decode cX11_hardens 17 = .ok (.iload_n 1, 1) := by decide +kernel
theorem dX11_hardens_18 : decode cX11_hardens 18 = .ok (.iconst 4, 1) := by decide +kernel
theorem dX11_hardens_19 : decode cX11_hardens 19 = .ok (.invokestatic 60, 3) := by decide +kernel
theorem dX11_hardens_22 : decode cX11_hardens 22 = .ok (.iload_n 3, 1) := by decide +kernel
theorem dX11_hardens_23 : decode cX11_hardens 23 = .ok (.bipush 99, 2) := by decide +kernel
theorem dX11_hardens_25 : decode cX11_hardens 25 = .ok (.if_icmp .ge 7, 3) := by decide +kernel
theorem dX11_hardens_28 : decode cX11_hardens 28 = .ok (.iload_n 3, 1) := by decide +kernel
theorem dX11_hardens_29 : decode cX11_hardens 29 = .ok (.goto 5, 3) := by decide +kernel
theorem dX11_hardens_32 : decode cX11_hardens 32 = .ok (.bipush 99, 2) := by decide +kernel
theorem dX11_hardens_34 : decode cX11_hardens 34 = .ok (.iastore, 1) := by decide +kernel
theorem dX11_hardens_35 : decode cX11_hardens 35 = .ok (.return_, 1) := by decide +kernel
theorem dX11_strikes_0 : decode cX11_strikes 0 = .ok (.iload_n 1, 1) := by decide +kernel
theorem dX11_strikes_1 : decode cX11_strikes 1 = .ok (.ifCond .ge 9, 3) := by decide +kernel
theorem dX11_strikes_4 : decode cX11_strikes 4 = .ok (.aload_n 0, 1) := by decide +kernel
theorem dX11_strikes_5 : decode cX11_strikes 5 = .ok (.iconst 1, 1) := by decide +kernel
theorem dX11_strikes_6 : decode cX11_strikes 6 = .ok (.invokevirtual 68, 3) := by decide +kernel
theorem dX11_strikes_9 : decode cX11_strikes 9 = .ok (.ireturn, 1) := by decide +kernel
theorem dX11_strikes_10 : decode cX11_strikes 10 = .ok (.aload_n 0, 1) := by decide +kernel
theorem dX11_strikes_11 : decode cX11_strikes 11 = .ok (.iload_n 2, 1) := by decide +kernel
theorem dX11_strikes_12 : decode cX11_strikes 12 = .ok (.invokevirtual 120, 3) := by decide +kernel
theorem dX11_strikes_15 : decode cX11_strikes 15 = .ok (.ifCond .ne 9, 3) := by decide +kernel
theorem dX11_strikes_18 : decode cX11_strikes 18 = .ok (.aload_n 0, 1) := by decide +kernel
theorem dX11_strikes_19 : decode cX11_strikes 19 = .ok (.iconst 2, 1) := by decide +kernel
theorem dX11_strikes_20 : decode cX11_strikes 20 = .ok (.invokevirtual 68, 3) := by decide +kernel
theorem dX11_strikes_23 : decode cX11_strikes 23 = .ok (.ireturn, 1) := by decide +kernel
theorem dX11_strikes_24 : decode cX11_strikes 24 = .ok (.aload_n 0, 1) := by decide +kernel
theorem dX11_strikes_25 : decode cX11_strikes 25 = .ok (.getfield 16, 3) := by decide +kernel
theorem dX11_strikes_28 : decode cX11_strikes 28 = .ok (.iload_n 1, 1) := by decide +kernel
theorem dX11_strikes_29 : decode cX11_strikes 29 = .ok (.iconst 5, 1) := by decide +kernel
theorem dX11_strikes_30 : decode cX11_strikes 30 = .ok (.invokestatic 60, 3) := by decide +kernel
theorem dX11_strikes_33 : decode cX11_strikes 33 = .ok (.iaload, 1) := by decide +kernel
theorem dX11_strikes_34 : decode cX11_strikes 34 = .ok (.iconst 1, 1) := by decide +kernel
theorem dX11_strikes_35 : decode cX11_strikes 35 = .ok (.if_icmp .eq 43, 3) := by decide +kernel
theorem dX11_strikes_38 : decode cX11_strikes 38 = .ok (.aload_n 0, 1) := by decide +kernel
theorem dX11_strikes_39 : decode cX11_strikes 39 = .ok (.getfield 16, 3) := by decide +kernel
theorem dX11_strikes_42 : decode cX11_strikes 42 = .ok (.iload_n 1, 1) := by decide +kernel
theorem dX11_strikes_43 : decode cX11_strikes 43 = .ok (.bipush 6, 2) := by decide +kernel
theorem dX11_strikes_45 : decode cX11_strikes 45 = .ok (.invokestatic 60, 3) := by decide +kernel
theorem dX11_strikes_48 : decode cX11_strikes 48 = .ok (.iaload, 1) := by decide +kernel
theorem dX11_strikes_49 : decode cX11_strikes 49 = .ok (.iconst 1, 1) := by decide +kernel
theorem dX11_strikes_50 : decode cX11_strikes 50 = .ok (.if_icmp .eq 28, 3) := by decide +kernel
theorem dX11_strikes_53 : decode cX11_strikes 53 = .ok (.aload_n 0, 1) := by decide +kernel
theorem dX11_strikes_54 : decode cX11_strikes 54 = .ok (.getfield 16, 3) := by decide +kernel
theorem dX11_strikes_57 : decode cX11_strikes 57 = .ok (.iload_n 1, 1) := by decide +kernel
theorem dX11_strikes_58 : decode cX11_strikes 58 = .ok (.iconst 3, 1) := by decide +kernel
theorem dX11_strikes_59 : decode cX11_strikes 59 = .ok (.invokestatic 60, 3) := by decide +kernel
theorem dX11_strikes_62 : decode cX11_strikes 62 = .ok (.iaload, 1) := by decide +kernel
theorem dX11_strikes_63 : decode cX11_strikes 63 = .ok (.bipush 10, 2) := by decide +kernel
theorem dX11_strikes_65 : decode cX11_strikes 65 = .ok (.if_icmp .eq 13, 3) := by decide +kernel
theorem dX11_strikes_68 : decode cX11_strikes 68 = .ok (.aload_n 0, 1) := by decide +kernel
theorem dX11_strikes_69 : decode cX11_strikes 69 = .ok (.iload_n 2, 1) := by decide +kernel
theorem dX11_strikes_70 : decode cX11_strikes 70 = .ok (.invokevirtual 124, 3) := by decide +kernel
theorem dX11_strikes_73 : decode cX11_strikes 73 = .ok (.bipush 20, 2) := by decide +kernel
theorem dX11_strikes_75 : decode cX11_strikes 75 = .ok (.if_icmp .ne 9, 3) := by decide +kernel
theorem dX11_strikes_78 : decode cX11_strikes 78 = .ok (.aload_n 0, 1) := by decide +kernel
theorem dX11_strikes_79 : decode cX11_strikes 79 = .ok (.iconst 3, 1) := by decide +kernel
theorem dX11_strikes_80 : decode cX11_strikes 80 = .ok (.invokevirtual 68, 3) := by decide +kernel
theorem dX11_strikes_83 : decode cX11_strikes 83 = .ok (.ireturn, 1) := by decide +kernel
theorem dX11_strikes_84 : decode cX11_strikes 84 = .ok (.aload_n 0, 1) := by decide +kernel
theorem dX11_strikes_85 : decode cX11_strikes 85 = .ok (.getfield 16, 3) := by decide +kernel
theorem dX11_strikes_88 : decode cX11_strikes 88 = .ok (.iload_n 1, 1) := by decide +kernel
theorem dX11_strikes_89 : decode cX11_strikes 89 = .ok (.iconst 2, 1) := by decide +kernel
theorem dX11_strikes_90 : decode cX11_strikes 90 = .ok (.invokestatic 60, 3) := by decide +kernel
theorem dX11_strikes_93 : decode cX11_strikes 93 = .ok (.iaload, 1) := by decide +kernel
theorem dX11_strikes_94 : decode cX11_strikes 94 = .ok (.sipush 600, 3) := by decide +kernel
theorem dX11_strikes_97 : decode cX11_strikes 97 = .ok (.sipush 1100, 3) := by decide +kernel
theorem dX11_strikes_100 : decode cX11_strikes 100 = .ok (.invokestatic 64, 3) := by decide +kernel
theorem dX11_strikes_103 : decode cX11_strikes 103 = .ok (.ifCond .ne 9, 3) := by decide +kernel
theorem dX11_strikes_106 : decode cX11_strikes 106 = .ok (.aload_n 0, 1) := by decide +kernel
theorem dX11_strikes_107 : decode cX11_strikes 107 = .ok (.iconst 4, 1) := by decide +kernel
theorem dX11_strikes_108 : decode cX11_strikes 108 = .ok (.invokevirtual 68, 3) := by decide +kernel
theorem dX11_strikes_111 : decode cX11_strikes 111 = .ok (.ireturn, 1) := by decide +kernel
theorem dX11_strikes_112 : decode cX11_strikes 112 = .ok (.aload_n 0, 1) := by decide +kernel
theorem dX11_strikes_113 : decode cX11_strikes 113 = .ok (.getfield 16, 3) := by decide +kernel
theorem dX11_strikes_116 : decode cX11_strikes 116 = .ok (.iload_n 1, 1) := by decide +kernel
theorem dX11_strikes_117 : decode cX11_strikes 117 = .ok (.iconst 3, 1) := by decide +kernel
theorem dX11_strikes_118 : decode cX11_strikes 118 = .ok (.invokestatic 60, 3) := by decide +kernel
theorem dX11_strikes_121 : decode cX11_strikes 121 = .ok (.dup2, 1) := by decide +kernel
theorem dX11_strikes_122 : decode cX11_strikes 122 = .ok (.iaload, 1) := by decide +kernel
theorem dX11_strikes_123 : decode cX11_strikes 123 = .ok (.aload_n 0, 1) := by decide +kernel
theorem dX11_strikes_124 : decode cX11_strikes 124 = .ok (.iload_n 1, 1) := by decide +kernel
theorem dX11_strikes_125 : decode cX11_strikes 125 = .ok (.iload_n 2, 1) := by decide +kernel
theorem dX11_strikes_126 : decode cX11_strikes 126 = .ok (.invokevirtual 127, 3) := by decide +kernel
theorem dX11_strikes_129 : decode cX11_strikes 129 = .ok (.iadd, 1) := by decide +kernel
theorem dX11_strikes_130 : decode cX11_strikes 130 = .ok (.iastore, 1) := by decide +kernel
theorem dX11_strikes_131 : decode cX11_strikes 131 = .ok (.aload_n 0, 1) := by decide +kernel
theorem dX11_strikes_132 : decode cX11_strikes 132 = .ok (.iload_n 1, 1) := by decide +kernel
theorem dX11_strikes_133 : decode cX11_strikes 133 = .ok (.iconst 2, 1) := by decide +kernel
theorem dX11_strikes_134 : decode cX11_strikes 134 = .ok (.invokevirtual 130, 3) := by decide +kernel
theorem dX11_strikes_137 : decode cX11_strikes 137 = .ok (.aload_n 0, 1) := by decide +kernel
theorem dX11_strikes_138 : decode cX11_strikes 138 = .ok (.getfield 16, 3) := by decide +kernel
theorem dX11_strikes_141 : decode cX11_strikes 141 = .ok (.bipush 77, 2) := by decide +kernel
theorem dX11_strikes_143 : decode cX11_strikes 143 = .ok (.iconst 2, 1) := by decide +kernel
theorem dX11_strikes_144 : decode cX11_strikes 144 = .ok (.iload_n 2, 1) := by decide +kernel
theorem dX11_strikes_145 : decode cX11_strikes 145 = .ok (.imul, 1) := by decide +kernel
theorem dX11_strikes_146 : decode cX11_strikes 146 = .ok (.iadd, 1) := by decide +kernel
theorem dX11_strikes_147 : decode cX11_strikes 147 = .ok (.iconst 1, 1) := by decide +kernel
theorem dX11_strikes_148 : decode cX11_strikes 148 = .ok (.iadd, 1) := by decide +kernel
theorem dX11_strikes_149 : decode cX11_strikes 149 = .ok (.dup2, 1) := by decide +kernel
theorem dX11_strikes_150 : decode cX11_strikes 150 = .ok (.iaload, 1) := by decide +kernel
theorem dX11_strikes_151 : decode cX11_strikes 151 = .ok (.iconst 1, 1) := by decide +kernel
theorem dX11_strikes_152 : decode cX11_strikes 152 = .ok (.iadd, 1) := by decide +kernel
theorem dX11_strikes_153 : decode cX11_strikes 153 = .ok (.iastore, 1) := by decide +kernel
theorem dX11_strikes_154 : decode cX11_strikes 154 = .ok (.aload_n 0, 1) := by decide +kernel
theorem dX11_strikes_155 : decode cX11_strikes 155 = .ok (.getfield 16, 3) := by decide +kernel
theorem dX11_strikes_158 : decode cX11_strikes 158 = .ok (.bipush 7, 2) := by decide +kernel
theorem dX11_strikes_160 : decode cX11_strikes 160 = .ok (.dup2, 1) := by decide +kernel
theorem dX11_strikes_161 : decode cX11_strikes 161 = .ok (.iaload, 1) := by decide +kernel
theorem dX11_strikes_162 : decode cX11_strikes 162 = .ok (.iconst 1, 1) := by decide +kernel
theorem dX11_strikes_163 : decode cX11_strikes 163 = .ok (.iadd, 1) := by decide +kernel
theorem dX11_strikes_164 : decode cX11_strikes 164 = .ok (.iastore, 1) := by decide +kernel
theorem dX11_strikes_165 : decode cX11_strikes 165 = .ok (.aload_n 0, 1) := by decide +kernel
theorem dX11_strikes_166 : decode cX11_strikes 166 = .ok (.getfield 16, 3) := by decide +kernel
theorem dX11_strikes_169 : decode cX11_strikes 169 = .ok (.iload_n 1, 1) := by decide +kernel
theorem dX11_strikes_170 : decode cX11_strikes 170 = .ok (.iconst 3, 1) := by decide +kernel
theorem dX11_strikes_171 : decode cX11_strikes 171 = .ok (.invokestatic 60, 3) := by decide +kernel
theorem dX11_strikes_174 : decode cX11_strikes 174 = .ok (.iaload, 1) := by decide +kernel
theorem dX11_strikes_175 : decode cX11_strikes 175 = .ok (.ireturn, 1) := by decide +kernel
theorem dX11_hammer_0 : decode cX11_hammer 0 = .ok (.aload_n 0, 1) := by decide +kernel
theorem dX11_hammer_1 : decode cX11_hammer 1 = .ok (.invokevirtual 72, 3) := by decide +kernel
theorem dX11_hammer_4 : decode cX11_hammer 4 = .ok (.aload_n 0, 1) := by decide +kernel
theorem dX11_hammer_5 : decode cX11_hammer 5 = .ok (.aload_n 0, 1) := by decide +kernel
theorem dX11_hammer_6 : decode cX11_hammer 6 = .ok (.aload_n 0, 1) := by decide +kernel
theorem dX11_hammer_7 : decode cX11_hammer 7 = .ok (.iload_n 1, 1) := by decide +kernel
theorem dX11_hammer_8 : decode cX11_hammer 8 = .ok (.invokevirtual 108, 3) := by decide +kernel
theorem dX11_hammer_11 : decode cX11_hammer 11 = .ok (.iload_n 2, 1) := by decide +kernel
theorem dX11_hammer_12 : decode cX11_hammer 12 = .ok (.invokevirtual 134, 3) := by decide +kernel
theorem dX11_hammer_15 : decode cX11_hammer 15 = .ok (.invokevirtual 78, 3) := by decide +kernel
theorem dX11_hammer_18 : decode cX11_hammer 18 = .ok (.ireturn, 1) := by decide +kernel
theorem dX11_quenches_0 : decode cX11_quenches 0 = .ok (.iload_n 1, 1) := by decide +kernel
theorem dX11_quenches_1 : decode cX11_quenches 1 = .ok (.ifCond .ge 9, 3) := by decide +kernel
theorem dX11_quenches_4 : decode cX11_quenches 4 = .ok (.aload_n 0, 1) := by decide +kernel
theorem dX11_quenches_5 : decode cX11_quenches 5 = .ok (.iconst 1, 1) := by decide +kernel
theorem dX11_quenches_6 : decode cX11_quenches 6 = .ok (.invokevirtual 68, 3) := by decide +kernel
theorem dX11_quenches_9 : decode cX11_quenches 9 = .ok (.ireturn, 1) := by decide +kernel
theorem dX11_quenches_10 : decode cX11_quenches 10 = .ok (.aload_n 0, 1) := by decide +kernel
theorem dX11_quenches_11 : decode cX11_quenches 11 = .ok (.getfield 16, 3) := by decide +kernel
theorem dX11_quenches_14 : decode cX11_quenches 14 = .ok (.iload_n 1, 1) := by decide +kernel
theorem dX11_quenches_15 : decode cX11_quenches 15 = .ok (.iconst 5, 1) := by decide +kernel
theorem dX11_quenches_16 : decode cX11_quenches 16 = .ok (.invokestatic 60, 3) := by decide +kernel
theorem dX11_quenches_19 : decode cX11_quenches 19 = .ok (.iaload, 1) := by decide +kernel
theorem dX11_quenches_20 : decode cX11_quenches 20 = .ok (.iconst 1, 1) := by decide +kernel
theorem dX11_quenches_21 : decode cX11_quenches 21 = .ok (.if_icmp .eq 18, 3) := by decide +kernel
theorem dX11_quenches_24 : decode cX11_quenches 24 = .ok (.aload_n 0, 1) := by decide +kernel
theorem dX11_quenches_25 : decode cX11_quenches 25 = .ok (.getfield 16, 3) := by decide +kernel
theorem dX11_quenches_28 : decode cX11_quenches 28 = .ok (.iload_n 1, 1) := by decide +kernel
theorem dX11_quenches_29 : decode cX11_quenches 29 = .ok (.bipush 6, 2) := by decide +kernel
theorem dX11_quenches_31 : decode cX11_quenches 31 = .ok (.invokestatic 60, 3) := by decide +kernel
theorem dX11_quenches_34 : decode cX11_quenches 34 = .ok (.iaload, 1) := by decide +kernel
theorem dX11_quenches_35 : decode cX11_quenches 35 = .ok (.iconst 1, 1) := by decide +kernel
theorem dX11_quenches_36 : decode cX11_quenches 36 = .ok (.if_icmp .ne 9, 3) := by decide +kernel
theorem dX11_quenches_39 : decode cX11_quenches 39 = .ok (.aload_n 0, 1) := by decide +kernel
theorem dX11_quenches_40 : decode cX11_quenches 40 = .ok (.iconst 2, 1) := by decide +kernel
theorem dX11_quenches_41 : decode cX11_quenches 41 = .ok (.invokevirtual 68, 3) := by decide +kernel
theorem dX11_quenches_44 : decode cX11_quenches 44 = .ok (.ireturn, 1) := by decide +kernel
theorem dX11_quenches_45 : decode cX11_quenches 45 = .ok (.aload_n 0, 1) := by decide +kernel
theorem dX11_quenches_46 : decode cX11_quenches 46 = .ok (.getfield 16, 3) := by decide +kernel
theorem dX11_quenches_49 : decode cX11_quenches 49 = .ok (.iload_n 1, 1) := by decide +kernel
theorem dX11_quenches_50 : decode cX11_quenches 50 = .ok (.iconst 2, 1) := by decide +kernel
theorem dX11_quenches_51 : decode cX11_quenches 51 = .ok (.invokestatic 60, 3) := by decide +kernel
theorem dX11_quenches_54 : decode cX11_quenches 54 = .ok (.iaload, 1) := by decide +kernel
theorem dX11_quenches_55 : decode cX11_quenches 55 = .ok (.sipush 700, 3) := by decide +kernel
theorem dX11_quenches_58 : decode cX11_quenches 58 = .ok (.if_icmp .ge 9, 3) := by decide +kernel
theorem dX11_quenches_61 : decode cX11_quenches 61 = .ok (.aload_n 0, 1) := by decide +kernel
theorem dX11_quenches_62 : decode cX11_quenches 62 = .ok (.iconst 3, 1) := by decide +kernel
theorem dX11_quenches_63 : decode cX11_quenches 63 = .ok (.invokevirtual 68, 3) := by decide +kernel
theorem dX11_quenches_66 : decode cX11_quenches 66 = .ok (.ireturn, 1) := by decide +kernel
theorem dX11_quenches_67 : decode cX11_quenches 67 = .ok (.aload_n 0, 1) := by decide +kernel
theorem dX11_quenches_68 : decode cX11_quenches 68 = .ok (.iload_n 1, 1) := by decide +kernel
theorem dX11_quenches_69 : decode cX11_quenches 69 = .ok (.aload_n 0, 1) := by decide +kernel
theorem dX11_quenches_70 : decode cX11_quenches 70 = .ok (.getfield 16, 3) := by decide +kernel
theorem dX11_quenches_73 : decode cX11_quenches 73 = .ok (.iload_n 1, 1) := by decide +kernel
theorem dX11_quenches_74 : decode cX11_quenches 74 = .ok (.iconst 2, 1) := by decide +kernel
theorem dX11_quenches_75 : decode cX11_quenches 75 = .ok (.invokestatic 60, 3) := by decide +kernel
theorem dX11_quenches_78 : decode cX11_quenches 78 = .ok (.iaload, 1) := by decide +kernel
theorem dX11_quenches_79 : decode cX11_quenches 79 = .ok (.sipush 600, 3) := by decide +kernel
theorem dX11_quenches_82 : decode cX11_quenches 82 = .ok (.isub, 1) := by decide +kernel
theorem dX11_quenches_83 : decode cX11_quenches 83 = .ok (.bipush 8, 2) := by decide +kernel
theorem dX11_quenches_85 : decode cX11_quenches 85 = .ok (.idiv, 1) := by decide +kernel
theorem dX11_quenches_86 : decode cX11_quenches 86 = .ok (.invokevirtual 130, 3) := by decide +kernel
theorem dX11_quenches_89 : decode cX11_quenches 89 = .ok (.aload_n 0, 1) := by decide +kernel
theorem dX11_quenches_90 : decode cX11_quenches 90 = .ok (.getfield 16, 3) := by decide +kernel
theorem dX11_quenches_93 : decode cX11_quenches 93 = .ok (.iload_n 1, 1) := by decide +kernel
theorem dX11_quenches_94 : decode cX11_quenches 94 = .ok (.iconst 2, 1) := by decide +kernel
theorem dX11_quenches_95 : decode cX11_quenches 95 = .ok (.invokestatic 60, 3) := by decide +kernel
theorem dX11_quenches_98 : decode cX11_quenches 98 = .ok (.bipush 20, 2) := by decide +kernel
theorem dX11_quenches_100 : decode cX11_quenches 100 = .ok (.iastore, 1) := by decide +kernel
theorem dX11_quenches_101 : decode cX11_quenches 101 = .ok (.aload_n 0, 1) := by decide +kernel
theorem dX11_quenches_102 : decode cX11_quenches 102 = .ok (.getfield 16, 3) := by decide +kernel
theorem dX11_quenches_105 : decode cX11_quenches 105 = .ok (.iload_n 1, 1) := by decide +kernel
theorem dX11_quenches_106 : decode cX11_quenches 106 = .ok (.bipush 6, 2) := by decide +kernel
theorem dX11_quenches_108 : decode cX11_quenches 108 = .ok (.invokestatic 60, 3) := by decide +kernel
theorem dX11_quenches_111 : decode cX11_quenches 111 = .ok (.iconst 1, 1) := by decide +kernel
theorem dX11_quenches_112 : decode cX11_quenches 112 = .ok (.iastore, 1) := by decide +kernel
theorem dX11_quenches_113 : decode cX11_quenches 113 = .ok (.aload_n 0, 1) := by decide +kernel
theorem dX11_quenches_114 : decode cX11_quenches 114 = .ok (.getfield 16, 3) := by decide +kernel
theorem dX11_quenches_117 : decode cX11_quenches 117 = .ok (.iload_n 1, 1) := by decide +kernel
theorem dX11_quenches_118 : decode cX11_quenches 118 = .ok (.iconst 4, 1) := by decide +kernel
theorem dX11_quenches_119 : decode cX11_quenches 119 = .ok (.invokestatic 60, 3) := by decide +kernel
theorem dX11_quenches_122 : decode cX11_quenches 122 = .ok (.iaload, 1) := by decide +kernel
theorem dX11_quenches_123 : decode cX11_quenches 123 = .ok (.ireturn, 1) := by decide +kernel
theorem dX11_quench_0 : decode cX11_quench 0 = .ok (.aload_n 0, 1) := by decide +kernel
theorem dX11_quench_1 : decode cX11_quench 1 = .ok (.invokevirtual 72, 3) := by decide +kernel
theorem dX11_quench_4 : decode cX11_quench 4 = .ok (.aload_n 0, 1) := by decide +kernel
theorem dX11_quench_5 : decode cX11_quench 5 = .ok (.aload_n 0, 1) := by decide +kernel
theorem dX11_quench_6 : decode cX11_quench 6 = .ok (.aload_n 0, 1) := by decide +kernel
theorem dX11_quench_7 : decode cX11_quench 7 = .ok (.iload_n 1, 1) := by decide +kernel
theorem dX11_quench_8 : decode cX11_quench 8 = .ok (.invokevirtual 108, 3) := by decide +kernel
theorem dX11_quench_11 : decode cX11_quench 11 = .ok (.invokevirtual 137, 3) := by decide +kernel
theorem dX11_quench_14 : decode cX11_quench 14 = .ok (.invokevirtual 78, 3) := by decide +kernel
theorem dX11_quench_17 : decode cX11_quench 17 = .ok (.ireturn, 1) := by decide +kernel
theorem dX11_tests_0 : decode cX11_tests 0 = .ok (.iload_n 1, 1) := by decide +kernel
theorem dX11_tests_1 : decode cX11_tests 1 = .ok (.ifCond .ge 9, 3) := by decide +kernel
theorem dX11_tests_4 : decode cX11_tests 4 = .ok (.aload_n 0, 1) := by decide +kernel
theorem dX11_tests_5 : decode cX11_tests 5 = .ok (.iconst 1, 1) := by decide +kernel
theorem dX11_tests_6 : decode cX11_tests 6 = .ok (.invokevirtual 68, 3) := by decide +kernel
theorem dX11_tests_9 : decode cX11_tests 9 = .ok (.ireturn, 1) := by decide +kernel
theorem dX11_tests_10 : decode cX11_tests 10 = .ok (.aload_n 0, 1) := by decide +kernel
theorem dX11_tests_11 : decode cX11_tests 11 = .ok (.getfield 16, 3) := by decide +kernel
theorem dX11_tests_14 : decode cX11_tests 14 = .ok (.iload_n 1, 1) := by decide +kernel
theorem dX11_tests_15 : decode cX11_tests 15 = .ok (.iconst 5, 1) := by decide +kernel
theorem dX11_tests_16 : decode cX11_tests 16 = .ok (.invokestatic 60, 3) := by decide +kernel
theorem dX11_tests_19 : decode cX11_tests 19 = .ok (.iaload, 1) := by decide +kernel
theorem dX11_tests_20 : decode cX11_tests 20 = .ok (.iconst 1, 1) := by decide +kernel
theorem dX11_tests_21 : decode cX11_tests 21 = .ok (.if_icmp .eq 31, 3) := by decide +kernel
theorem dX11_tests_24 : decode cX11_tests 24 = .ok (.aload_n 0, 1) := by decide +kernel
theorem dX11_tests_25 : decode cX11_tests 25 = .ok (.getfield 16, 3) := by decide +kernel
theorem dX11_tests_28 : decode cX11_tests 28 = .ok (.iload_n 1, 1) := by decide +kernel
theorem dX11_tests_29 : decode cX11_tests 29 = .ok (.bipush 6, 2) := by decide +kernel
theorem dX11_tests_31 : decode cX11_tests 31 = .ok (.invokestatic 60, 3) := by decide +kernel
theorem dX11_tests_34 : decode cX11_tests 34 = .ok (.iaload, 1) := by decide +kernel
theorem dX11_tests_35 : decode cX11_tests 35 = .ok (.ifCond .eq 17, 3) := by decide +kernel
theorem dX11_tests_38 : decode cX11_tests 38 = .ok (.aload_n 0, 1) := by decide +kernel
theorem dX11_tests_39 : decode cX11_tests 39 = .ok (.getfield 16, 3) := by decide +kernel
theorem dX11_tests_42 : decode cX11_tests 42 = .ok (.iload_n 1, 1) := by decide +kernel
theorem dX11_tests_43 : decode cX11_tests 43 = .ok (.bipush 7, 2) := by decide +kernel
theorem dX11_tests_45 : decode cX11_tests 45 = .ok (.invokestatic 60, 3) := by decide +kernel
theorem dX11_tests_48 : decode cX11_tests 48 = .ok (.iaload, 1) := by decide +kernel
theorem dX11_tests_49 : decode cX11_tests 49 = .ok (.ifCond .eq 9, 3) := by decide +kernel
theorem dX11_tests_52 : decode cX11_tests 52 = .ok (.aload_n 0, 1) := by decide +kernel
theorem dX11_tests_53 : decode cX11_tests 53 = .ok (.iconst 2, 1) := by decide +kernel
theorem dX11_tests_54 : decode cX11_tests 54 = .ok (.invokevirtual 68, 3) := by decide +kernel
theorem dX11_tests_57 : decode cX11_tests 57 = .ok (.ireturn, 1) := by decide +kernel
theorem dX11_tests_58 : decode cX11_tests 58 = .ok (.aload_n 0, 1) := by decide +kernel
theorem dX11_tests_59 : decode cX11_tests 59 = .ok (.getfield 16, 3) := by decide +kernel
theorem dX11_tests_62 : decode cX11_tests 62 = .ok (.iload_n 1, 1) := by decide +kernel
theorem dX11_tests_63 : decode cX11_tests 63 = .ok (.iconst 2, 1) := by decide +kernel
theorem dX11_tests_64 : decode cX11_tests 64 = .ok (.invokestatic 60, 3) := by decide +kernel
theorem dX11_tests_67 : decode cX11_tests 67 = .ok (.iaload, 1) := by decide +kernel
theorem dX11_tests_68 : decode cX11_tests 68 = .ok (.bipush 60, 2) := by decide +kernel
theorem dX11_tests_70 : decode cX11_tests 70 = .ok (.if_icmp .le 9, 3) := by decide +kernel
theorem dX11_tests_73 : decode cX11_tests 73 = .ok (.aload_n 0, 1) := by decide +kernel
theorem dX11_tests_74 : decode cX11_tests 74 = .ok (.iconst 3, 1) := by decide +kernel
theorem dX11_tests_75 : decode cX11_tests 75 = .ok (.invokevirtual 68, 3) := by decide +kernel
theorem dX11_tests_78 : decode cX11_tests 78 = .ok (.ireturn, 1) := by decide +kernel
theorem dX11_tests_79 : decode cX11_tests 79 = .ok (.aload_n 0, 1) := by decide +kernel
theorem dX11_tests_80 : decode cX11_tests 80 = .ok (.getfield 16, 3) := by decide +kernel
theorem dX11_tests_83 : decode cX11_tests 83 = .ok (.iload_n 1, 1) := by decide +kernel
theorem dX11_tests_84 : decode cX11_tests 84 = .ok (.iconst 3, 1) := by decide +kernel
theorem dX11_tests_85 : decode cX11_tests 85 = .ok (.invokestatic 60, 3) := by decide +kernel
theorem dX11_tests_88 : decode cX11_tests 88 = .ok (.iaload, 1) := by decide +kernel
theorem dX11_tests_89 : decode cX11_tests 89 = .ok (.bipush 10, 2) := by decide +kernel
theorem dX11_tests_91 : decode cX11_tests 91 = .ok (.if_icmp .ne 27, 3) := by decide +kernel
theorem dX11_tests_94 : decode cX11_tests 94 = .ok (.aload_n 0, 1) := by decide +kernel
theorem dX11_tests_95 : decode cX11_tests 95 = .ok (.getfield 16, 3) := by decide +kernel
theorem dX11_tests_98 : decode cX11_tests 98 = .ok (.iload_n 1, 1) := by decide +kernel
theorem dX11_tests_99 : decode cX11_tests 99 = .ok (.iconst 4, 1) := by decide +kernel
theorem dX11_tests_100 : decode cX11_tests 100 = .ok (.invokestatic 60, 3) := by decide +kernel
theorem dX11_tests_103 : decode cX11_tests 103 = .ok (.iaload, 1) := by decide +kernel
theorem dX11_tests_104 : decode cX11_tests 104 = .ok (.bipush 40, 2) := by decide +kernel
theorem dX11_tests_106 : decode cX11_tests 106 = .ok (.bipush 70, 2) := by decide +kernel
theorem dX11_tests_108 : decode cX11_tests 108 = .ok (.invokestatic 64, 3) := by decide +kernel
theorem dX11_tests_111 : decode cX11_tests 111 = .ok (.ifCond .eq 7, 3) := by decide +kernel
theorem dX11_tests_114 : decode cX11_tests 114 = .ok (.iconst 1, 1) := by decide +kernel
theorem dX11_tests_115 : decode cX11_tests 115 = .ok (.goto 4, 3) := by decide +kernel
theorem dX11_tests_118 : decode cX11_tests 118 = .ok (.iconst 0, 1) := by decide +kernel
theorem dX11_tests_119 : decode cX11_tests 119 = .ok (.istore_n 2, 1) := by decide +kernel
theorem dX11_tests_120 : decode cX11_tests 120 = .ok (.aload_n 0, 1) := by decide +kernel
theorem dX11_tests_121 : decode cX11_tests 121 = .ok (.getfield 16, 3) := by decide +kernel
theorem dX11_tests_124 : decode cX11_tests 124 = .ok (.iload_n 1, 1) := by decide +kernel
theorem dX11_tests_125 : decode cX11_tests 125 = .ok (.bipush 7, 2) := by decide +kernel
theorem dX11_tests_127 : decode cX11_tests 127 = .ok (.invokestatic 60, 3) := by decide +kernel
theorem dX11_tests_130 : decode cX11_tests 130 = .ok (.iconst 2, 1) := by decide +kernel
theorem dX11_tests_131 : decode cX11_tests 131 = .ok (.iload_n 2, 1) := by decide +kernel
theorem dX11_tests_132 : decode cX11_tests 132 = .ok (.isub, 1) := by decide +kernel
theorem dX11_tests_133 : decode cX11_tests 133 = .ok (.iastore, 1) := by decide +kernel
theorem dX11_tests_134 : decode cX11_tests 134 = .ok (.aload_n 0, 1) := by decide +kernel
theorem dX11_tests_135 : decode cX11_tests 135 = .ok (.getfield 16, 3) := by decide +kernel
theorem dX11_tests_138 : decode cX11_tests 138 = .ok (.bipush 11, 2) := by decide +kernel
theorem dX11_tests_140 : decode cX11_tests 140 = .ok (.dup2, 1) := by decide +kernel
theorem dX11_tests_141 : decode cX11_tests 141 = .ok (.iaload, 1) := by decide +kernel
theorem dX11_tests_142 : decode cX11_tests 142 = .ok (.iconst 1, 1) := by decide +kernel
theorem dX11_tests_143 : decode cX11_tests 143 = .ok (.iadd, 1) := by decide +kernel
theorem dX11_tests_144 : decode cX11_tests 144 = .ok (.iastore, 1) := by decide +kernel
theorem dX11_tests_145 : decode cX11_tests 145 = .ok (.aload_n 0, 1) := by decide +kernel
theorem dX11_tests_146 : decode cX11_tests 146 = .ok (.getfield 16, 3) := by decide +kernel
theorem dX11_tests_149 : decode cX11_tests 149 = .ok (.bipush 12, 2) := by decide +kernel
theorem dX11_tests_151 : decode cX11_tests 151 = .ok (.dup2, 1) := by decide +kernel
theorem dX11_tests_152 : decode cX11_tests 152 = .ok (.iaload, 1) := by decide +kernel
theorem dX11_tests_153 : decode cX11_tests 153 = .ok (.iload_n 2, 1) := by decide +kernel
theorem dX11_tests_154 : decode cX11_tests 154 = .ok (.iadd, 1) := by decide +kernel
theorem dX11_tests_155 : decode cX11_tests 155 = .ok (.iastore, 1) := by decide +kernel
theorem dX11_tests_156 : decode cX11_tests 156 = .ok (.iload_n 2, 1) := by decide +kernel
theorem dX11_tests_157 : decode cX11_tests 157 = .ok (.ireturn, 1) := by decide +kernel
theorem dX11_test_0 : decode cX11_test 0 = .ok (.aload_n 0, 1) := by decide +kernel
theorem dX11_test_1 : decode cX11_test 1 = .ok (.invokevirtual 72, 3) := by decide +kernel
theorem dX11_test_4 : decode cX11_test 4 = .ok (.aload_n 0, 1) := by decide +kernel
theorem dX11_test_5 : decode cX11_test 5 = .ok (.aload_n 0, 1) := by decide +kernel
theorem dX11_test_6 : decode cX11_test 6 = .ok (.aload_n 0, 1) := by decide +kernel
theorem dX11_test_7 : decode cX11_test 7 = .ok (.iload_n 1, 1) := by decide +kernel
theorem dX11_test_8 : decode cX11_test 8 = .ok (.invokevirtual 108, 3) := by decide +kernel
theorem dX11_test_11 : decode cX11_test 11 = .ok (.invokevirtual 140, 3) := by decide +kernel
theorem dX11_test_14 : decode cX11_test 14 = .ok (.invokevirtual 78, 3) := by decide +kernel
theorem dX11_test_17 : decode cX11_test 17 = .ok (.iconst 1, 1) := by decide +kernel
theorem dX11_test_18 : decode cX11_test 18 = .ok (.if_icmp .ne 7, 3) := by decide +kernel
theorem dX11_test_21 : decode cX11_test 21 = .ok (.iconst 1, 1) := by decide +kernel
theorem dX11_test_22 : decode cX11_test 22 = .ok (.goto 4, 3) := by decide +kernel
theorem dX11_test_25 : decode cX11_test 25 = .ok (.iconst 0, 1) := by decide +kernel
theorem dX11_test_26 : decode cX11_test 26 = .ok (.ireturn, 1) := by decide +kernel
theorem dX11_goes_0 : decode cX11_goes 0 = .ok (.iload_n 1, 1) := by decide +kernel
theorem dX11_goes_1 : decode cX11_goes 1 = .ok (.iconst 0, 1) := by decide +kernel
theorem dX11_goes_2 : decode cX11_goes 2 = .ok (.invokestatic 60, 3) := by decide +kernel
theorem dX11_goes_5 : decode cX11_goes 5 = .ok (.istore_n 2, 1) := by decide +kernel
theorem dX11_goes_6 : decode cX11_goes 6 = .ok (.iload_n 2, 1) := by decide +kernel
theorem dX11_goes_7 : decode cX11_goes 7 = .ok (.bipush 77, 2) := by decide +kernel
theorem dX11_goes_9 : decode cX11_goes 9 = .ok (.if_icmp .ge 37, 3) := by decide +kernel
theorem dX11_goes_12 : decode cX11_goes 12 = .ok (.aload_n 0, 1) := by decide +kernel
theorem dX11_goes_13 : decode cX11_goes 13 = .ok (.getfield 16, 3) := by decide +kernel
theorem dX11_goes_16 : decode cX11_goes 16 = .ok (.iload_n 2, 1) := by decide +kernel
theorem dX11_goes_17 : decode cX11_goes 17 = .ok (.iload_n 2, 1) := by decide +kernel
theorem dX11_goes_18 : decode cX11_goes 18 = .ok (.bipush 8, 2) := by decide +kernel
theorem dX11_goes_20 : decode cX11_goes 20 = .ok (.iadd, 1) := by decide +kernel
theorem dX11_goes_21 : decode cX11_goes 21 = .ok (.bipush 77, 2) := by decide +kernel
theorem dX11_goes_23 : decode cX11_goes 23 = .ok (.if_icmp .ge 15, 3) := by decide +kernel
theorem dX11_goes_26 : decode cX11_goes 26 = .ok (.aload_n 0, 1) := by decide +kernel
theorem dX11_goes_27 : decode cX11_goes 27 = .ok (.getfield 16, 3) := by decide +kernel
theorem dX11_goes_30 : decode cX11_goes 30 = .ok (.iload_n 2, 1) := by decide +kernel
theorem dX11_goes_31 : decode cX11_goes 31 = .ok (.bipush 8, 2) := by decide +kernel
theorem dX11_goes_33 : decode cX11_goes 33 = .ok (.iadd, 1) := by decide +kernel
theorem dX11_goes_34 : decode cX11_goes 34 = .ok (.iaload, 1) := by decide +kernel
theorem dX11_goes_35 : decode cX11_goes 35 = .ok (.goto 4, 3) := by decide +kernel
theorem dX11_goes_38 : decode cX11_goes 38 = .ok (.iconst 0, 1) := by decide +kernel
theorem dX11_goes_39 : decode cX11_goes 39 = .ok (.iastore, 1) := by decide +kernel
theorem dX11_goes_40 : decode cX11_goes 40 = .ok (.iinc 2 1, 3) := by decide +kernel
theorem dX11_goes_43 : decode cX11_goes 43 = .ok (.goto (-37), 3) := by decide +kernel
theorem dX11_goes_46 : decode cX11_goes 46 = .ok (.aload_n 0, 1) := by decide +kernel
theorem dX11_goes_47 : decode cX11_goes 47 = .ok (.getfield 16, 3) := by decide +kernel
theorem dX11_goes_50 : decode cX11_goes 50 = .ok (.iconst 5, 1) := by decide +kernel
theorem dX11_goes_51 : decode cX11_goes 51 = .ok (.dup2, 1) := by decide +kernel
theorem dX11_goes_52 : decode cX11_goes 52 = .ok (.iaload, 1) := by decide +kernel
theorem dX11_goes_53 : decode cX11_goes 53 = .ok (.iconst 1, 1) := by decide +kernel
theorem dX11_goes_54 : decode cX11_goes 54 = .ok (.isub, 1) := by decide +kernel
theorem dX11_goes_55 : decode cX11_goes 55 = .ok (.iastore, 1) := by decide +kernel
theorem dX11_goes_56 : decode cX11_goes 56 = .ok (.return_, 1) := by decide +kernel
theorem dX11_isReady_0 : decode cX11_isReady 0 = .ok (.aload_n 0, 1) := by decide +kernel
theorem dX11_isReady_1 : decode cX11_isReady 1 = .ok (.getfield 16, 3) := by decide +kernel
theorem dX11_isReady_4 : decode cX11_isReady 4 = .ok (.iload_n 1, 1) := by decide +kernel
theorem dX11_isReady_5 : decode cX11_isReady 5 = .ok (.iconst 5, 1) := by decide +kernel
theorem dX11_isReady_6 : decode cX11_isReady 6 = .ok (.invokestatic 60, 3) := by decide +kernel
theorem dX11_isReady_9 : decode cX11_isReady 9 = .ok (.iaload, 1) := by decide +kernel
theorem dX11_isReady_10 : decode cX11_isReady 10 = .ok (.ifCond .ne 22, 3) := by decide +kernel
theorem dX11_isReady_13 : decode cX11_isReady 13 = .ok (.aload_n 0, 1) := by decide +kernel
theorem dX11_isReady_14 : decode cX11_isReady 14 = .ok (.getfield 16, 3) := by decide +kernel
theorem dX11_isReady_17 : decode cX11_isReady 17 = .ok (.iload_n 1, 1) := by decide +kernel
theorem dX11_isReady_18 : decode cX11_isReady 18 = .ok (.bipush 7, 2) := by decide +kernel
theorem dX11_isReady_20 : decode cX11_isReady 20 = .ok (.invokestatic 60, 3) := by decide +kernel
theorem dX11_isReady_23 : decode cX11_isReady 23 = .ok (.iaload, 1) := by decide +kernel
theorem dX11_isReady_24 : decode cX11_isReady 24 = .ok (.iconst 1, 1) := by decide +kernel
theorem dX11_isReady_25 : decode cX11_isReady 25 = .ok (.if_icmp .ne 7, 3) := by decide +kernel
theorem dX11_isReady_28 : decode cX11_isReady 28 = .ok (.iconst 1, 1) := by decide +kernel
theorem dX11_isReady_29 : decode cX11_isReady 29 = .ok (.goto 4, 3) := by decide +kernel
theorem dX11_isReady_32 : decode cX11_isReady 32 = .ok (.iconst 0, 1) := by decide +kernel
theorem dX11_isReady_33 : decode cX11_isReady 33 = .ok (.ireturn, 1) := by decide +kernel
theorem dX11_joins_0 : decode cX11_joins 0 = .ok (.aload_n 0, 1) := by decide +kernel
theorem dX11_joins_1 : decode cX11_joins 1 = .ok (.iload_n 1, 1) := by decide +kernel
theorem dX11_joins_2 : decode cX11_joins 2 = .ok (.invokevirtual 108, 3) := by decide +kernel
theorem dX11_joins_5 : decode cX11_joins 5 = .ok (.istore 5, 2) := by decide +kernel
theorem dX11_joins_7 : decode cX11_joins 7 = .ok (.aload_n 0, 1) := by decide +kernel
theorem dX11_joins_8 : decode cX11_joins 8 = .ok (.iload_n 2, 1) := by decide +kernel
theorem dX11_joins_9 : decode cX11_joins 9 = .ok (.invokevirtual 108, 3) := by decide +kernel
theorem dX11_joins_12 : decode cX11_joins 12 = .ok (.istore 6, 2) := by decide +kernel
theorem dX11_joins_14 : decode cX11_joins 14 = .ok (.aload_n 0, 1) := by decide +kernel
theorem dX11_joins_15 : decode cX11_joins 15 = .ok (.iload_n 3, 1) := by decide +kernel
theorem dX11_joins_16 : decode cX11_joins 16 = .ok (.invokevirtual 108, 3) := by decide +kernel
theorem dX11_joins_19 : decode cX11_joins 19 = .ok (.istore 7, 2) := by decide +kernel
theorem dX11_joins_21 : decode cX11_joins 21 = .ok (.aload_n 0, 1) := by decide +kernel
theorem dX11_joins_22 : decode cX11_joins 22 = .ok (.iload 4, 2) := by decide +kernel
theorem dX11_joins_24 : decode cX11_joins 24 = .ok (.invokevirtual 108, 3) := by decide +kernel
theorem dX11_joins_27 : decode cX11_joins 27 = .ok (.istore 8, 2) := by decide +kernel
theorem dX11_joins_29 : decode cX11_joins 29 = .ok (.iload 5, 2) := by decide +kernel
theorem dX11_joins_31 : decode cX11_joins 31 = .ok (.ifCond .lt 18, 3) := by decide +kernel
theorem dX11_joins_34 : decode cX11_joins 34 = .ok (.iload 6, 2) := by decide +kernel
theorem dX11_joins_36 : decode cX11_joins 36 = .ok (.ifCond .lt 13, 3) := by decide +kernel
theorem dX11_joins_39 : decode cX11_joins 39 = .ok (.iload 7, 2) := by decide +kernel
theorem dX11_joins_41 : decode cX11_joins 41 = .ok (.ifCond .lt 8, 3) := by decide +kernel
theorem dX11_joins_44 : decode cX11_joins 44 = .ok (.iload 8, 2) := by decide +kernel
theorem dX11_joins_46 : decode cX11_joins 46 = .ok (.ifCond .ge 9, 3) := by decide +kernel
theorem dX11_joins_49 : decode cX11_joins 49 = .ok (.aload_n 0, 1) := by decide +kernel
theorem dX11_joins_50 : decode cX11_joins 50 = .ok (.iconst 1, 1) := by decide +kernel
theorem dX11_joins_51 : decode cX11_joins 51 = .ok (.invokevirtual 68, 3) := by decide +kernel
theorem dX11_joins_54 : decode cX11_joins 54 = .ok (.ireturn, 1) := by decide +kernel
theorem dX11_joins_55 : decode cX11_joins 55 = .ok (.aload_n 0, 1) := by decide +kernel
theorem dX11_joins_56 : decode cX11_joins 56 = .ok (.getfield 16, 3) := by decide +kernel
theorem dX11_joins_59 : decode cX11_joins 59 = .ok (.iload 5, 2) := by decide +kernel
theorem dX11_joins_61 : decode cX11_joins 61 = .ok (.iconst 1, 1) := by decide +kernel
theorem dX11_joins_62 : decode cX11_joins 62 = .ok (.invokestatic 60, 3) := by decide +kernel
theorem dX11_joins_65 : decode cX11_joins 65 = .ok (.iaload, 1) := by decide +kernel
theorem dX11_joins_66 : decode cX11_joins 66 = .ok (.bipush 98, 2) := by decide +kernel
theorem dX11_joins_68 : decode cX11_joins 68 = .ok (.if_icmp .ne 58, 3) := by decide +kernel
theorem dX11_joins_71 : decode cX11_joins 71 = .ok (.aload_n 0, 1) := by decide +kernel
theorem dX11_joins_72 : decode cX11_joins 72 = .ok (.getfield 16, 3) := by decide +kernel
theorem dX11_joins_75 : decode cX11_joins 75 = .ok (.iload 6, 2) := by decide +kernel
theorem dX11_joins_77 : decode cX11_joins 77 = .ok (.iconst 1, 1) := by decide +kernel
theorem dX11_joins_78 : decode cX11_joins 78 = .ok (.invokestatic 60, 3) := by decide +kernel
theorem dX11_joins_81 : decode cX11_joins 81 = .ok (.iaload, 1) := by decide +kernel
theorem dX11_joins_82 : decode cX11_joins 82 = .ok (.bipush 110, 2) := by decide +kernel
theorem dX11_joins_84 : decode cX11_joins 84 = .ok (.if_icmp .ne 42, 3) := by decide +kernel
theorem dX11_joins_87 : decode cX11_joins 87 = .ok (.aload_n 0, 1) := by decide +kernel
theorem dX11_joins_88 : decode cX11_joins 88 = .ok (.getfield 16, 3) := by decide +kernel
theorem dX11_joins_91 : decode cX11_joins 91 = .ok (.iload 7, 2) := by decide +kernel
theorem dX11_joins_93 : decode cX11_joins 93 = .ok (.iconst 1, 1) := by decide +kernel
theorem dX11_joins_94 : decode cX11_joins 94 = .ok (.invokestatic 60, 3) := by decide +kernel
theorem dX11_joins_97 : decode cX11_joins 97 = .ok (.iaload, 1) := by decide +kernel
theorem dX11_joins_98 : decode cX11_joins 98 = .ok (.bipush 119, 2) := by decide +kernel
theorem dX11_joins_100 : decode cX11_joins 100 = .ok (.if_icmp .ne 26, 3) := by decide +kernel
theorem dX11_joins_103 : decode cX11_joins 103 = .ok (.aload_n 0, 1) := by decide +kernel
theorem dX11_joins_104 : decode cX11_joins 104 = .ok (.getfield 16, 3) := by decide +kernel
theorem dX11_joins_107 : decode cX11_joins 107 = .ok (.iload 8, 2) := by decide +kernel
theorem dX11_joins_109 : decode cX11_joins 109 = .ok (.iconst 1, 1) := by decide +kernel
theorem dX11_joins_110 : decode cX11_joins 110 = .ok (.invokestatic 60, 3) := by decide +kernel
theorem dX11_joins_113 : decode cX11_joins 113 = .ok (.iaload, 1) := by decide +kernel
theorem dX11_joins_114 : decode cX11_joins 114 = .ok (.bipush 119, 2) := by decide +kernel
theorem dX11_joins_116 : decode cX11_joins 116 = .ok (.if_icmp .ne 10, 3) := by decide +kernel
theorem dX11_joins_119 : decode cX11_joins 119 = .ok (.iload 7, 2) := by decide +kernel
theorem dX11_joins_121 : decode cX11_joins 121 = .ok (.iload 8, 2) := by decide +kernel
theorem dX11_joins_123 : decode cX11_joins 123 = .ok (.if_icmp .ne 9, 3) := by decide +kernel
theorem dX11_joins_126 : decode cX11_joins 126 = .ok (.aload_n 0, 1) := by decide +kernel
theorem dX11_joins_127 : decode cX11_joins 127 = .ok (.iconst 2, 1) := by decide +kernel
theorem dX11_joins_128 : decode cX11_joins 128 = .ok (.invokevirtual 68, 3) := by decide +kernel
theorem dX11_joins_131 : decode cX11_joins 131 = .ok (.ireturn, 1) := by decide +kernel
theorem dX11_joins_132 : decode cX11_joins 132 = .ok (.aload_n 0, 1) := by decide +kernel
theorem dX11_joins_133 : decode cX11_joins 133 = .ok (.iload 5, 2) := by decide +kernel
theorem dX11_joins_135 : decode cX11_joins 135 = .ok (.invokevirtual 143, 3) := by decide +kernel
theorem dX11_joins_138 : decode cX11_joins 138 = .ok (.ifCond .eq 30, 3) := by decide +kernel
theorem dX11_joins_141 : decode cX11_joins 141 = .ok (.aload_n 0, 1) := by decide +kernel
theorem dX11_joins_142 : decode cX11_joins 142 = .ok (.iload 6, 2) := by decide +kernel
theorem dX11_joins_144 : decode cX11_joins 144 = .ok (.invokevirtual 143, 3) := by decide +kernel
theorem dX11_joins_147 : decode cX11_joins 147 = .ok (.ifCond .eq 21, 3) := by decide +kernel
theorem dX11_joins_150 : decode cX11_joins 150 = .ok (.aload_n 0, 1) := by decide +kernel
theorem dX11_joins_151 : decode cX11_joins 151 = .ok (.iload 7, 2) := by decide +kernel
theorem dX11_joins_153 : decode cX11_joins 153 = .ok (.invokevirtual 143, 3) := by decide +kernel
theorem dX11_joins_156 : decode cX11_joins 156 = .ok (.ifCond .eq 12, 3) := by decide +kernel
theorem dX11_joins_159 : decode cX11_joins 159 = .ok (.aload_n 0, 1) := by decide +kernel
theorem dX11_joins_160 : decode cX11_joins 160 = .ok (.iload 8, 2) := by decide +kernel
theorem dX11_joins_162 : decode cX11_joins 162 = .ok (.invokevirtual 143, 3) := by decide +kernel
theorem dX11_joins_165 : decode cX11_joins 165 = .ok (.ifCond .ne 9, 3) := by decide +kernel
theorem dX11_joins_168 : decode cX11_joins 168 = .ok (.aload_n 0, 1) := by decide +kernel
theorem dX11_joins_169 : decode cX11_joins 169 = .ok (.iconst 3, 1) := by decide +kernel
theorem dX11_joins_170 : decode cX11_joins 170 = .ok (.invokevirtual 68, 3) := by decide +kernel
theorem dX11_joins_173 : decode cX11_joins 173 = .ok (.ireturn, 1) := by decide +kernel
theorem dX11_joins_174 : decode cX11_joins 174 = .ok (.aload_n 0, 1) := by decide +kernel
theorem dX11_joins_175 : decode cX11_joins 175 = .ok (.iload 5, 2) := by decide +kernel
theorem dX11_joins_177 : decode cX11_joins 177 = .ok (.invokevirtual 146, 3) := by decide +kernel
theorem dX11_joins_180 : decode cX11_joins 180 = .ok (.aload_n 0, 1) := by decide +kernel
theorem dX11_joins_181 : decode cX11_joins 181 = .ok (.aload_n 0, 1) := by decide +kernel
theorem dX11_joins_182 : decode cX11_joins 182 = .ok (.iload_n 2, 1) := by decide +kernel
theorem dX11_joins_183 : decode cX11_joins 183 = .ok (.invokevirtual 108, 3) := by decide +kernel
theorem dX11_joins_186 : decode cX11_joins 186 = .ok (.invokevirtual 146, 3) := by decide +kernel
theorem dX11_joins_189 : decode cX11_joins 189 = .ok (.aload_n 0, 1) := by decide +kernel
theorem dX11_joins_190 : decode cX11_joins 190 = .ok (.aload_n 0, 1) := by decide +kernel
theorem dX11_joins_191 : decode cX11_joins 191 = .ok (.iload_n 3, 1) := by decide +kernel
theorem dX11_joins_192 : decode cX11_joins 192 = .ok (.invokevirtual 108, 3) := by decide +kernel
theorem dX11_joins_195 : decode cX11_joins 195 = .ok (.invokevirtual 146, 3) := by decide +kernel
theorem dX11_joins_198 : decode cX11_joins 198 = .ok (.aload_n 0, 1) := by decide +kernel
theorem dX11_joins_199 : decode cX11_joins 199 = .ok (.aload_n 0, 1) := by decide +kernel
theorem dX11_joins_200 : decode cX11_joins 200 = .ok (.iload 4, 2) := by decide +kernel
theorem dX11_joins_202 : decode cX11_joins 202 = .ok (.invokevirtual 108, 3) := by decide +kernel
theorem dX11_joins_205 : decode cX11_joins 205 = .ok (.invokevirtual 146, 3) := by decide +kernel
theorem dX11_joins_208 : decode cX11_joins 208 = .ok (.aload_n 0, 1) := by decide +kernel
theorem dX11_joins_209 : decode cX11_joins 209 = .ok (.getfield 16, 3) := by decide +kernel
theorem dX11_joins_212 : decode cX11_joins 212 = .ok (.bipush 8, 2) := by decide +kernel
theorem dX11_joins_214 : decode cX11_joins 214 = .ok (.dup2, 1) := by decide +kernel
theorem dX11_joins_215 : decode cX11_joins 215 = .ok (.iaload, 1) := by decide +kernel
theorem dX11_joins_216 : decode cX11_joins 216 = .ok (.iconst 1, 1) := by decide +kernel
theorem dX11_joins_217 : decode cX11_joins 217 = .ok (.iadd, 1) := by decide +kernel
theorem dX11_joins_218 : decode cX11_joins 218 = .ok (.iastore, 1) := by decide +kernel
theorem dX11_joins_219 : decode cX11_joins 219 = .ok (.aload_n 0, 1) := by decide +kernel
theorem dX11_joins_220 : decode cX11_joins 220 = .ok (.getfield 16, 3) := by decide +kernel
theorem dX11_joins_223 : decode cX11_joins 223 = .ok (.bipush 8, 2) := by decide +kernel
theorem dX11_joins_225 : decode cX11_joins 225 = .ok (.iaload, 1) := by decide +kernel
theorem dX11_joins_226 : decode cX11_joins 226 = .ok (.ireturn, 1) := by decide +kernel
theorem dX11_assemble_0 : decode cX11_assemble 0 = .ok (.aload_n 0, 1) := by decide +kernel
theorem dX11_assemble_1 : decode cX11_assemble 1 = .ok (.invokevirtual 72, 3) := by decide +kernel
theorem dX11_assemble_4 : decode cX11_assemble 4 = .ok (.aload_n 0, 1) := by decide +kernel
theorem dX11_assemble_5 : decode cX11_assemble 5 = .ok (.aload_n 0, 1) := by decide +kernel
theorem dX11_assemble_6 : decode cX11_assemble 6 = .ok (.iload_n 1, 1) := by decide +kernel
theorem dX11_assemble_7 : decode cX11_assemble 7 = .ok (.iload_n 2, 1) := by decide +kernel
theorem dX11_assemble_8 : decode cX11_assemble 8 = .ok (.iload_n 3, 1) := by decide +kernel
theorem dX11_assemble_9 : decode cX11_assemble 9 = .ok (.iload 4, 2) := by decide +kernel
theorem dX11_assemble_11 : decode cX11_assemble 11 = .ok (.invokevirtual 150, 3) := by decide +kernel
theorem dX11_assemble_14 : decode cX11_assemble 14 = .ok (.invokevirtual 78, 3) := by decide +kernel
theorem dX11_assemble_17 : decode cX11_assemble 17 = .ok (.ireturn, 1) := by decide +kernel
theorem dX11_drops_0 : decode cX11_drops 0 = .ok (.iload_n 1, 1) := by decide +kernel
theorem dX11_drops_1 : decode cX11_drops 1 = .ok (.ifCond .ge 9, 3) := by decide +kernel
theorem dX11_drops_4 : decode cX11_drops 4 = .ok (.aload_n 0, 1) := by decide +kernel
theorem dX11_drops_5 : decode cX11_drops 5 = .ok (.iconst 1, 1) := by decide +kernel
theorem dX11_drops_6 : decode cX11_drops 6 = .ok (.invokevirtual 68, 3) := by decide +kernel
theorem dX11_drops_9 : decode cX11_drops 9 = .ok (.ireturn, 1) := by decide +kernel
theorem dX11_drops_10 : decode cX11_drops 10 = .ok (.aload_n 0, 1) := by decide +kernel
theorem dX11_drops_11 : decode cX11_drops 11 = .ok (.iload_n 1, 1) := by decide +kernel
theorem dX11_drops_12 : decode cX11_drops 12 = .ok (.invokevirtual 146, 3) := by decide +kernel
theorem dX11_drops_15 : decode cX11_drops 15 = .ok (.aload_n 0, 1) := by decide +kernel
theorem dX11_drops_16 : decode cX11_drops 16 = .ok (.getfield 16, 3) := by decide +kernel
theorem dX11_drops_19 : decode cX11_drops 19 = .ok (.iconst 5, 1) := by decide +kernel
theorem dX11_drops_20 : decode cX11_drops 20 = .ok (.iaload, 1) := by decide +kernel
theorem dX11_drops_21 : decode cX11_drops 21 = .ok (.ireturn, 1) := by decide +kernel
theorem dX11_scrap_0 : decode cX11_scrap 0 = .ok (.aload_n 0, 1) := by decide +kernel
theorem dX11_scrap_1 : decode cX11_scrap 1 = .ok (.invokevirtual 72, 3) := by decide +kernel
theorem dX11_scrap_4 : decode cX11_scrap 4 = .ok (.aload_n 0, 1) := by decide +kernel
theorem dX11_scrap_5 : decode cX11_scrap 5 = .ok (.aload_n 0, 1) := by decide +kernel
theorem dX11_scrap_6 : decode cX11_scrap 6 = .ok (.aload_n 0, 1) := by decide +kernel
theorem dX11_scrap_7 : decode cX11_scrap 7 = .ok (.iload_n 1, 1) := by decide +kernel
theorem dX11_scrap_8 : decode cX11_scrap 8 = .ok (.invokevirtual 108, 3) := by decide +kernel
theorem dX11_scrap_11 : decode cX11_scrap 11 = .ok (.invokevirtual 154, 3) := by decide +kernel
theorem dX11_scrap_14 : decode cX11_scrap 14 = .ok (.invokevirtual 78, 3) := by decide +kernel
theorem dX11_scrap_17 : decode cX11_scrap 17 = .ok (.ireturn, 1) := by decide +kernel
theorem dX11_tells_0 : decode cX11_tells 0 = .ok (.aload_n 0, 1) := by decide +kernel
theorem dX11_tells_1 : decode cX11_tells 1 = .ok (.iconst 0, 1) := by decide +kernel
theorem dX11_tells_2 : decode cX11_tells 2 = .ok (.putfield 50, 3) := by decide +kernel
theorem dX11_tells_5 : decode cX11_tells 5 = .ok (.aload_n 0, 1) := by decide +kernel
theorem dX11_tells_6 : decode cX11_tells 6 = .ok (.getfield 16, 3) := by decide +kernel
theorem dX11_tells_9 : decode cX11_tells 9 = .ok (.iload_n 1, 1) := by decide +kernel
theorem dX11_tells_10 : decode cX11_tells 10 = .ok (.iaload, 1) := by decide +kernel
theorem dX11_tells_11 : decode cX11_tells 11 = .ok (.ireturn, 1) := by decide +kernel
theorem dX11_time_0 : decode cX11_time 0 = .ok (.aload_n 0, 1) := by decide +kernel
theorem dX11_time_1 : decode cX11_time 1 = .ok (.iconst 0, 1) := by decide +kernel
theorem dX11_time_2 : decode cX11_time 2 = .ok (.invokevirtual 157, 3) := by decide +kernel
theorem dX11_time_5 : decode cX11_time 5 = .ok (.ireturn, 1) := by decide +kernel
theorem dX11_furnace_0 : decode cX11_furnace 0 = .ok (.aload_n 0, 1) := by decide +kernel
theorem dX11_furnace_1 : decode cX11_furnace 1 = .ok (.iconst 1, 1) := by decide +kernel
theorem dX11_furnace_2 : decode cX11_furnace 2 = .ok (.invokevirtual 157, 3) := by decide +kernel
theorem dX11_furnace_5 : decode cX11_furnace 5 = .ok (.ireturn, 1) := by decide +kernel
theorem dX11_bellows_0 : decode cX11_bellows 0 = .ok (.aload_n 0, 1) := by decide +kernel
theorem dX11_bellows_1 : decode cX11_bellows 1 = .ok (.iconst 2, 1) := by decide +kernel
theorem dX11_bellows_2 : decode cX11_bellows 2 = .ok (.invokevirtual 157, 3) := by decide +kernel
theorem dX11_bellows_5 : decode cX11_bellows 5 = .ok (.ireturn, 1) := by decide +kernel
theorem dX11_coal_0 : decode cX11_coal 0 = .ok (.aload_n 0, 1) := by decide +kernel
theorem dX11_coal_1 : decode cX11_coal 1 = .ok (.iconst 3, 1) := by decide +kernel
theorem dX11_coal_2 : decode cX11_coal 2 = .ok (.invokevirtual 157, 3) := by decide +kernel
theorem dX11_coal_5 : decode cX11_coal 5 = .ok (.ireturn, 1) := by decide +kernel
theorem dX11_coalMinutes_0 : decode cX11_coalMinutes 0 = .ok (.aload_n 0, 1) := by decide +kernel
theorem dX11_coalMinutes_1 : decode cX11_coalMinutes 1 = .ok (.aload_n 0, 1) := by decide +kernel
theorem dX11_coalMinutes_2 : decode cX11_coalMinutes 2 = .ok (.getfield 16, 3) := by decide +kernel
theorem dX11_coalMinutes_5 : decode cX11_coalMinutes 5 = .ok (.iconst 2, 1) := by decide +kernel
theorem dX11_coalMinutes_6 : decode cX11_coalMinutes 6 = .ok (.iaload, 1) := by decide +kernel
theorem dX11_coalMinutes_7 : decode cX11_coalMinutes 7 = .ok (.ifCond .ne 7, 3) := by decide +kernel
theorem dX11_coalMinutes_10 : decode cX11_coalMinutes 10 = .ok (.iconst 1, 1) := by decide +kernel
theorem dX11_coalMinutes_11 : decode cX11_coalMinutes 11 = .ok (.goto 4, 3) := by decide +kernel
theorem dX11_coalMinutes_14 : decode cX11_coalMinutes 14 = .ok (.iconst 0, 1) := by decide +kernel
theorem dX11_coalMinutes_15 : decode cX11_coalMinutes 15 = .ok (.putfield 50, 3) := by decide +kernel
theorem dX11_coalMinutes_18 : decode cX11_coalMinutes 18 = .ok (.aload_n 0, 1) := by decide +kernel
theorem dX11_coalMinutes_19 : decode cX11_coalMinutes 19 = .ok (.getfield 50, 3) := by decide +kernel
theorem dX11_coalMinutes_22 : decode cX11_coalMinutes 22 = .ok (.ifCond .ne 19, 3) := by decide +kernel
theorem dX11_coalMinutes_25 : decode cX11_coalMinutes 25 = .ok (.aload_n 0, 1) := by decide +kernel
theorem dX11_coalMinutes_26 : decode cX11_coalMinutes 26 = .ok (.getfield 16, 3) := by decide +kernel
theorem dX11_coalMinutes_29 : decode cX11_coalMinutes 29 = .ok (.iconst 3, 1) := by decide +kernel
theorem dX11_coalMinutes_30 : decode cX11_coalMinutes 30 = .ok (.iaload, 1) := by decide +kernel
theorem dX11_coalMinutes_31 : decode cX11_coalMinutes 31 = .ok (.aload_n 0, 1) := by decide +kernel
theorem dX11_coalMinutes_32 : decode cX11_coalMinutes 32 = .ok (.getfield 16, 3) := by decide +kernel
theorem dX11_coalMinutes_35 : decode cX11_coalMinutes 35 = .ok (.iconst 2, 1) := by decide +kernel
theorem dX11_coalMinutes_36 : decode cX11_coalMinutes 36 = .ok (.iaload, 1) := by decide +kernel
theorem dX11_coalMinutes_37 : decode cX11_coalMinutes 37 = .ok (.idiv, 1) := by decide +kernel
theorem dX11_coalMinutes_38 : decode cX11_coalMinutes 38 = .ok (.goto 4, 3) := by decide +kernel
theorem dX11_coalMinutes_41 : decode cX11_coalMinutes 41 = .ok (.iconst 0, 1) := by decide +kernel
theorem dX11_coalMinutes_42 : decode cX11_coalMinutes 42 = .ok (.ireturn, 1) := by decide +kernel
theorem dX11_piecesInFurnace_0 : decode cX11_piecesInFurnace 0 = .ok (.aload_n 0, 1) := by decide +kernel
theorem dX11_piecesInFurnace_1 : decode cX11_piecesInFurnace 1 = .ok (.iconst 0, 1) := by decide +kernel
theorem dX11_piecesInFurnace_2 : decode cX11_piecesInFurnace 2 = .ok (.putfield 50, 3) := by decide +kernel
theorem dX11_piecesInFurnace_5 : decode cX11_piecesInFurnace 5 = .ok (.aload_n 0, 1) := by decide +kernel
theorem dX11_piecesInFurnace_6 : decode cX11_piecesInFurnace 6 = .ok (.invokevirtual 104, 3) := by decide +kernel
theorem dX11_piecesInFurnace_9 : decode cX11_piecesInFurnace 9 = .ok (.ireturn, 1) := by decide +kernel
theorem dX11_thinks_0 : decode cX11_thinks 0 = .ok (.iconst 0, 1) := by decide +kernel
theorem dX11_thinks_1 : decode cX11_thinks 1 = .ok (.istore_n 1, 1) := by decide +kernel
theorem dX11_thinks_2 : decode cX11_thinks 2 = .ok (.iload_n 1, 1) := by decide +kernel
theorem dX11_thinks_3 : decode cX11_thinks 3 = .ok (.bipush 13, 2) := by decide +kernel
theorem dX11_thinks_5 : decode cX11_thinks 5 = .ok (.if_icmp .ge 21, 3) := by decide +kernel
theorem dX11_thinks_8 : decode cX11_thinks 8 = .ok (.aload_n 0, 1) := by decide +kernel
theorem dX11_thinks_9 : decode cX11_thinks 9 = .ok (.getfield 29, 3) := by decide +kernel
theorem dX11_thinks_12 : decode cX11_thinks 12 = .ok (.iload_n 1, 1) := by decide +kernel
theorem dX11_thinks_13 : decode cX11_thinks 13 = .ok (.aload_n 0, 1) := by decide +kernel
theorem dX11_thinks_14 : decode cX11_thinks 14 = .ok (.getfield 16, 3) := by decide +kernel
theorem dX11_thinks_17 : decode cX11_thinks 17 = .ok (.iload_n 1, 1) := by decide +kernel
theorem dX11_thinks_18 : decode cX11_thinks 18 = .ok (.iaload, 1) := by decide +kernel
theorem dX11_thinks_19 : decode cX11_thinks 19 = .ok (.iastore, 1) := by decide +kernel
theorem dX11_thinks_20 : decode cX11_thinks 20 = .ok (.iinc 1 1, 3) := by decide +kernel
theorem dX11_thinks_23 : decode cX11_thinks 23 = .ok (.goto (-21), 3) := by decide +kernel
theorem dX11_thinks_26 : decode cX11_thinks 26 = .ok (.return_, 1) := by decide +kernel
theorem dX11_furnaceAfter_0 : decode cX11_furnaceAfter 0 = .ok (.aload_n 0, 1) := by decide +kernel
theorem dX11_furnaceAfter_1 : decode cX11_furnaceAfter 1 = .ok (.iload_n 1, 1) := by decide +kernel
theorem dX11_furnaceAfter_2 : decode cX11_furnaceAfter 2 = .ok (.iconst 0, 1) := by decide +kernel
theorem dX11_furnaceAfter_3 : decode cX11_furnaceAfter 3 = .ok (.sipush 200, 3) := by decide +kernel
theorem dX11_furnaceAfter_6 : decode cX11_furnaceAfter 6 = .ok (.invokestatic 64, 3) := by decide +kernel
theorem dX11_furnaceAfter_9 : decode cX11_furnaceAfter 9 = .ok (.ifCond .eq 7, 3) := by decide +kernel
theorem dX11_furnaceAfter_12 : decode cX11_furnaceAfter 12 = .ok (.iconst 0, 1) := by decide +kernel
theorem dX11_furnaceAfter_13 : decode cX11_furnaceAfter 13 = .ok (.goto 4, 3) := by decide +kernel
theorem dX11_furnaceAfter_16 : decode cX11_furnaceAfter 16 = .ok (.iconst 1, 1) := by decide +kernel
theorem dX11_furnaceAfter_17 : decode cX11_furnaceAfter 17 = .ok (.putfield 50, 3) := by decide +kernel
theorem dX11_furnaceAfter_20 : decode cX11_furnaceAfter 20 = .ok (.aload_n 0, 1) := by decide +kernel
theorem dX11_furnaceAfter_21 : decode cX11_furnaceAfter 21 = .ok (.getfield 50, 3) := by decide +kernel
theorem dX11_furnaceAfter_24 : decode cX11_furnaceAfter 24 = .ok (.ifCond .eq 5, 3) := by decide +kernel
theorem dX11_furnaceAfter_27 : decode cX11_furnaceAfter 27 = .ok (.iconst 0, 1) := by decide +kernel
theorem dX11_furnaceAfter_28 : decode cX11_furnaceAfter 28 = .ok (.ireturn, 1) := by decide +kernel
theorem dX11_furnaceAfter_29 : decode cX11_furnaceAfter 29 = .ok (.aload_n 0, 1) := by decide +kernel
theorem dX11_furnaceAfter_30 : decode cX11_furnaceAfter 30 = .ok (.invokevirtual 160, 3) := by decide +kernel
theorem dX11_furnaceAfter_33 : decode cX11_furnaceAfter 33 = .ok (.iconst 0, 1) := by decide +kernel
theorem dX11_furnaceAfter_34 : decode cX11_furnaceAfter 34 = .ok (.istore_n 2, 1) := by decide +kernel
theorem dX11_furnaceAfter_35 : decode cX11_furnaceAfter 35 = .ok (.iload_n 2, 1) := by decide +kernel
theorem dX11_furnaceAfter_36 : decode cX11_furnaceAfter 36 = .ok (.iload_n 1, 1) := by decide +kernel
theorem dX11_furnaceAfter_37 : decode cX11_furnaceAfter 37 = .ok (.if_icmp .ge 16, 3) := by decide +kernel
theorem dX11_furnaceAfter_40 : decode cX11_furnaceAfter 40 = .ok (.aload_n 0, 1) := by decide +kernel
theorem dX11_furnaceAfter_41 : decode cX11_furnaceAfter 41 = .ok (.getfield 29, 3) := by decide +kernel
theorem dX11_furnaceAfter_44 : decode cX11_furnaceAfter 44 = .ok (.invokestatic 84, 3) := by decide +kernel
theorem dX11_furnaceAfter_47 : decode cX11_furnaceAfter 47 = .ok (.iinc 2 1, 3) := by decide +kernel
theorem dX11_furnaceAfter_50 : decode cX11_furnaceAfter 50 = .ok (.goto (-15), 3) := by decide +kernel
theorem dX11_furnaceAfter_53 : decode cX11_furnaceAfter 53 = .ok (.aload_n 0, 1) := by decide +kernel
theorem dX11_furnaceAfter_54 : decode cX11_furnaceAfter 54 = .ok (.getfield 29, 3) := by decide +kernel
theorem dX11_furnaceAfter_57 : decode cX11_furnaceAfter 57 = .ok (.iconst 1, 1) := by decide +kernel
theorem dX11_furnaceAfter_58 : decode cX11_furnaceAfter 58 = .ok (.iaload, 1) := by decide +kernel
theorem dX11_furnaceAfter_59 : decode cX11_furnaceAfter 59 = .ok (.ireturn, 1) := by decide +kernel
theorem dX11_pieceCount_0 : decode cX11_pieceCount 0 = .ok (.aload_n 0, 1) := by decide +kernel
theorem dX11_pieceCount_1 : decode cX11_pieceCount 1 = .ok (.iconst 5, 1) := by decide +kernel
theorem dX11_pieceCount_2 : decode cX11_pieceCount 2 = .ok (.invokevirtual 157, 3) := by decide +kernel
theorem dX11_pieceCount_5 : decode cX11_pieceCount 5 = .ok (.ireturn, 1) := by decide +kernel
theorem dX11_exists_0 : decode cX11_exists 0 = .ok (.aload_n 0, 1) := by decide +kernel
theorem dX11_exists_1 : decode cX11_exists 1 = .ok (.iconst 0, 1) := by decide +kernel
theorem dX11_exists_2 : decode cX11_exists 2 = .ok (.putfield 50, 3) := by decide +kernel
theorem dX11_exists_5 : decode cX11_exists 5 = .ok (.aload_n 0, 1) := by decide +kernel
theorem dX11_exists_6 : decode cX11_exists 6 = .ok (.iload_n 1, 1) := by decide +kernel
theorem dX11_exists_7 : decode cX11_exists 7 = .ok (.invokevirtual 108, 3) := by decide +kernel
theorem dX11_exists_10 : decode cX11_exists 10 = .ok (.ifCond .lt 7, 3) := by decide +kernel
theorem dX11_exists_13 : decode cX11_exists 13 = .ok (.iconst 1, 1) := by decide +kernel
theorem dX11_exists_14 : decode cX11_exists 14 = .ok (.goto 4, 3) := by decide +kernel
theorem dX11_exists_17 : decode cX11_exists 17 = .ok (.iconst 0, 1) := by decide +kernel
theorem dX11_exists_18 : decode cX11_exists 18 = .ok (.ireturn, 1) := by decide +kernel
theorem dX11_pieceAt_0 : decode cX11_pieceAt 0 = .ok (.aload_n 0, 1) := by decide +kernel
theorem dX11_pieceAt_1 : decode cX11_pieceAt 1 = .ok (.iload_n 1, 1) := by decide +kernel
theorem dX11_pieceAt_2 : decode cX11_pieceAt 2 = .ok (.iconst 0, 1) := by decide +kernel
theorem dX11_pieceAt_3 : decode cX11_pieceAt 3 = .ok (.aload_n 0, 1) := by decide +kernel
theorem dX11_pieceAt_4 : decode cX11_pieceAt 4 = .ok (.getfield 16, 3) := by decide +kernel
theorem dX11_pieceAt_7 : decode cX11_pieceAt 7 = .ok (.iconst 5, 1) := by decide +kernel
theorem dX11_pieceAt_8 : decode cX11_pieceAt 8 = .ok (.iaload, 1) := by decide +kernel
theorem dX11_pieceAt_9 : decode cX11_pieceAt 9 = .ok (.iconst 1, 1) := by decide +kernel
theorem dX11_pieceAt_10 : decode cX11_pieceAt 10 = .ok (.isub, 1) := by decide +kernel
theorem dX11_pieceAt_11 : decode cX11_pieceAt 11 = .ok (.invokestatic 64, 3) := by decide +kernel
theorem dX11_pieceAt_14 : decode cX11_pieceAt 14 = .ok (.ifCond .eq 7, 3) := by decide +kernel
theorem dX11_pieceAt_17 : decode cX11_pieceAt 17 = .ok (.iconst 0, 1) := by decide +kernel
theorem dX11_pieceAt_18 : decode cX11_pieceAt 18 = .ok (.goto 4, 3) := by decide +kernel
theorem dX11_pieceAt_21 : decode cX11_pieceAt 21 = .ok (.iconst 1, 1) := by decide +kernel
theorem dX11_pieceAt_22 : decode cX11_pieceAt 22 = .ok (.putfield 50, 3) := by decide +kernel
theorem dX11_pieceAt_25 : decode cX11_pieceAt 25 = .ok (.aload_n 0, 1) := by decide +kernel
theorem dX11_pieceAt_26 : decode cX11_pieceAt 26 = .ok (.getfield 50, 3) := by decide +kernel
theorem dX11_pieceAt_29 : decode cX11_pieceAt 29 = .ok (.ifCond .ne 16, 3) := by decide +kernel
theorem dX11_pieceAt_32 : decode cX11_pieceAt 32 = .ok (.aload_n 0, 1) := by decide +kernel
theorem dX11_pieceAt_33 : decode cX11_pieceAt 33 = .ok (.getfield 16, 3) := by decide +kernel
theorem dX11_pieceAt_36 : decode cX11_pieceAt 36 = .ok (.iload_n 1, 1) := by decide +kernel
theorem dX11_pieceAt_37 : decode cX11_pieceAt 37 = .ok (.iconst 0, 1) := by decide +kernel
theorem dX11_pieceAt_38 : decode cX11_pieceAt 38 = .ok (.invokestatic 60, 3) := by decide +kernel
theorem dX11_pieceAt_41 : decode cX11_pieceAt 41 = .ok (.iaload, 1) := by decide +kernel
theorem dX11_pieceAt_42 : decode cX11_pieceAt 42 = .ok (.goto 4, 3) := by decide +kernel
theorem dX11_pieceAt_45 : decode cX11_pieceAt 45 = .ok (.iconst 0, 1) := by decide +kernel
theorem dX11_pieceAt_46 : decode cX11_pieceAt 46 = .ok (.ireturn, 1) := by decide +kernel
theorem dX11_tellsOf_0 : decode cX11_tellsOf 0 = .ok (.aload_n 0, 1) := by decide +kernel
theorem dX11_tellsOf_1 : decode cX11_tellsOf 1 = .ok (.aload_n 0, 1) := by decide +kernel
theorem dX11_tellsOf_2 : decode cX11_tellsOf 2 = .ok (.iload_n 1, 1) := by decide +kernel
theorem dX11_tellsOf_3 : decode cX11_tellsOf 3 = .ok (.invokevirtual 108, 3) := by decide +kernel
theorem dX11_tellsOf_6 : decode cX11_tellsOf 6 = .ok (.ifCond .ge 7, 3) := by decide +kernel
theorem dX11_tellsOf_9 : decode cX11_tellsOf 9 = .ok (.iconst 1, 1) := by decide +kernel
theorem dX11_tellsOf_10 : decode cX11_tellsOf 10 = .ok (.goto 4, 3) := by decide +kernel
theorem dX11_tellsOf_13 : decode cX11_tellsOf 13 = .ok (.iconst 0, 1) := by decide +kernel
theorem dX11_tellsOf_14 : decode cX11_tellsOf 14 = .ok (.putfield 50, 3) := by decide +kernel
theorem dX11_tellsOf_17 : decode cX11_tellsOf 17 = .ok (.aload_n 0, 1) := by decide +kernel
theorem dX11_tellsOf_18 : decode cX11_tellsOf 18 = .ok (.getfield 50, 3) := by decide +kernel
theorem dX11_tellsOf_21 : decode cX11_tellsOf 21 = .ok (.ifCond .ne 20, 3) := by decide +kernel
theorem dX11_tellsOf_24 : decode cX11_tellsOf 24 = .ok (.aload_n 0, 1) := by decide +kernel
theorem dX11_tellsOf_25 : decode cX11_tellsOf 25 = .ok (.getfield 16, 3) := by decide +kernel
theorem dX11_tellsOf_28 : decode cX11_tellsOf 28 = .ok (.aload_n 0, 1) := by decide +kernel
theorem dX11_tellsOf_29 : decode cX11_tellsOf 29 = .ok (.iload_n 1, 1) := by decide +kernel
theorem dX11_tellsOf_30 : decode cX11_tellsOf 30 = .ok (.invokevirtual 108, 3) := by decide +kernel
theorem dX11_tellsOf_33 : decode cX11_tellsOf 33 = .ok (.iload_n 2, 1) := by decide +kernel
theorem dX11_tellsOf_34 : decode cX11_tellsOf 34 = .ok (.invokestatic 60, 3) := by decide +kernel
theorem dX11_tellsOf_37 : decode cX11_tellsOf 37 = .ok (.iaload, 1) := by decide +kernel
theorem dX11_tellsOf_38 : decode cX11_tellsOf 38 = .ok (.goto 4, 3) := by decide +kernel
theorem dX11_tellsOf_41 : decode cX11_tellsOf 41 = .ok (.iconst 0, 1) := by decide +kernel
theorem dX11_tellsOf_42 : decode cX11_tellsOf 42 = .ok (.ireturn, 1) := by decide +kernel
theorem dX11_kind_0 : decode cX11_kind 0 = .ok (.aload_n 0, 1) := by decide +kernel
theorem dX11_kind_1 : decode cX11_kind 1 = .ok (.iload_n 1, 1) := by decide +kernel
theorem dX11_kind_2 : decode cX11_kind 2 = .ok (.iconst 1, 1) := by decide +kernel
theorem dX11_kind_3 : decode cX11_kind 3 = .ok (.invokevirtual 163, 3) := by decide +kernel
theorem dX11_kind_6 : decode cX11_kind 6 = .ok (.istore_n 2, 1) := by decide +kernel
theorem dX11_kind_7 : decode cX11_kind 7 = .ok (.aload_n 0, 1) := by decide +kernel
theorem dX11_kind_8 : decode cX11_kind 8 = .ok (.getfield 50, 3) := by decide +kernel
theorem dX11_kind_11 : decode cX11_kind 11 = .ok (.ifCond .ne 8, 3) := by decide +kernel
theorem dX11_kind_14 : decode cX11_kind 14 = .ok (.iload_n 2, 1) := by decide +kernel
theorem dX11_kind_15 : decode cX11_kind 15 = .ok (.i2c, 1) := by decide +kernel
theorem dX11_kind_16 : decode cX11_kind 16 = .ok (.goto 5, 3) := by decide +kernel
theorem dX11_kind_19 : decode cX11_kind 19 = .ok (.bipush 97, 2) := by decide +kernel
theorem dX11_kind_21 : decode cX11_kind 21 = .ok (.ireturn, 1) := by decide +kernel
theorem dX11_temperature_0 : decode cX11_temperature 0 = .ok (.aload_n 0, 1) := by decide +kernel
theorem dX11_temperature_1 : decode cX11_temperature 1 = .ok (.iload_n 1, 1) := by decide +kernel
theorem dX11_temperature_2 : decode cX11_temperature 2 = .ok (.iconst 2, 1) := by decide +kernel
theorem dX11_temperature_3 : decode cX11_temperature 3 = .ok (.invokevirtual 163, 3) := by decide +kernel
theorem dX11_temperature_6 : decode cX11_temperature 6 = .ok (.ireturn, 1) := by decide +kernel
theorem dX11_stages_0 : decode cX11_stages 0 = .ok (.aload_n 0, 1) := by decide +kernel
theorem dX11_stages_1 : decode cX11_stages 1 = .ok (.iload_n 1, 1) := by decide +kernel
theorem dX11_stages_2 : decode cX11_stages 2 = .ok (.iconst 3, 1) := by decide +kernel
theorem dX11_stages_3 : decode cX11_stages 3 = .ok (.invokevirtual 163, 3) := by decide +kernel
theorem dX11_stages_6 : decode cX11_stages 6 = .ok (.ireturn, 1) := by decide +kernel
theorem dX11_hardness_0 : decode cX11_hardness 0 = .ok (.aload_n 0, 1) := by decide +kernel
theorem dX11_hardness_1 : decode cX11_hardness 1 = .ok (.iload_n 1, 1) := by decide +kernel
theorem dX11_hardness_2 : decode cX11_hardness 2 = .ok (.iconst 4, 1) := by decide +kernel
theorem dX11_hardness_3 : decode cX11_hardness 3 = .ok (.invokevirtual 163, 3) := by decide +kernel
theorem dX11_hardness_6 : decode cX11_hardness 6 = .ok (.ireturn, 1) := by decide +kernel
theorem dX11_isInFurnace_0 : decode cX11_isInFurnace 0 = .ok (.aload_n 0, 1) := by decide +kernel
theorem dX11_isInFurnace_1 : decode cX11_isInFurnace 1 = .ok (.iload_n 1, 1) := by decide +kernel
theorem dX11_isInFurnace_2 : decode cX11_isInFurnace 2 = .ok (.iconst 5, 1) := by decide +kernel
theorem dX11_isInFurnace_3 : decode cX11_isInFurnace 3 = .ok (.invokevirtual 163, 3) := by decide +kernel
theorem dX11_isInFurnace_6 : decode cX11_isInFurnace 6 = .ok (.iconst 1, 1) := by decide +kernel
theorem dX11_isInFurnace_7 : decode cX11_isInFurnace 7 = .ok (.if_icmp .ne 7, 3) := by decide +kernel
theorem dX11_isInFurnace_10 : decode cX11_isInFurnace 10 = .ok (.iconst 1, 1) := by decide +kernel
theorem dX11_isInFurnace_11 : decode cX11_isInFurnace 11 = .ok (.goto 4, 3) := by decide +kernel
theorem dX11_isInFurnace_14 : decode cX11_isInFurnace 14 = .ok (.iconst 0, 1) := by decide +kernel
theorem dX11_isInFurnace_15 : decode cX11_isInFurnace 15 = .ok (.ireturn, 1) := by decide +kernel
theorem dX11_isQuenched_0 : decode cX11_isQuenched 0 = .ok (.aload_n 0, 1) := by decide +kernel
theorem dX11_isQuenched_1 : decode cX11_isQuenched 1 = .ok (.iload_n 1, 1) := by decide +kernel
theorem dX11_isQuenched_2 : decode cX11_isQuenched 2 = .ok (.bipush 6, 2) := by decide +kernel
theorem dX11_isQuenched_4 : decode cX11_isQuenched 4 = .ok (.invokevirtual 163, 3) := by decide +kernel
theorem dX11_isQuenched_7 : decode cX11_isQuenched 7 = .ok (.iconst 1, 1) := by decide +kernel
theorem dX11_isQuenched_8 : decode cX11_isQuenched 8 = .ok (.if_icmp .ne 7, 3) := by decide +kernel
theorem dX11_isQuenched_11 : decode cX11_isQuenched 11 = .ok (.iconst 1, 1) := by decide +kernel
theorem dX11_isQuenched_12 : decode cX11_isQuenched 12 = .ok (.goto 4, 3) := by decide +kernel
theorem dX11_isQuenched_15 : decode cX11_isQuenched 15 = .ok (.iconst 0, 1) := by decide +kernel
theorem dX11_isQuenched_16 : decode cX11_isQuenched 16 = .ok (.ireturn, 1) := by decide +kernel
theorem dX11_hasPassed_0 : decode cX11_hasPassed 0 = .ok (.aload_n 0, 1) := by decide +kernel
theorem dX11_hasPassed_1 : decode cX11_hasPassed 1 = .ok (.iload_n 1, 1) := by decide +kernel
theorem dX11_hasPassed_2 : decode cX11_hasPassed 2 = .ok (.bipush 7, 2) := by decide +kernel
theorem dX11_hasPassed_4 : decode cX11_hasPassed 4 = .ok (.invokevirtual 163, 3) := by decide +kernel
theorem dX11_hasPassed_7 : decode cX11_hasPassed 7 = .ok (.iconst 1, 1) := by decide +kernel
theorem dX11_hasPassed_8 : decode cX11_hasPassed 8 = .ok (.if_icmp .ne 7, 3) := by decide +kernel
theorem dX11_hasPassed_11 : decode cX11_hasPassed 11 = .ok (.iconst 1, 1) := by decide +kernel
theorem dX11_hasPassed_12 : decode cX11_hasPassed 12 = .ok (.goto 4, 3) := by decide +kernel
theorem dX11_hasPassed_15 : decode cX11_hasPassed 15 = .ok (.iconst 0, 1) := by decide +kernel
theorem dX11_hasPassed_16 : decode cX11_hasPassed 16 = .ok (.ireturn, 1) := by decide +kernel
theorem dX11_stroke_0 : decode cX11_stroke 0 = .ok (.aload_n 0, 1) := by decide +kernel
