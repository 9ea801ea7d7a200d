theorem dX2_init_0 : decode cX2_init 0 = .ok (.aload_n 0, 1) := by decide +kernel
theorem dX2_init_1 : decode cX2_init 1 = .ok (.invokespecial 3, 3) := by decide +kernel
theorem dX2_init_4 : decode cX2_init 4 = .ok (.aload_n 0, 1) := by decide +kernel
theorem dX2_init_5 : decode cX2_init 5 = .ok (.new 9, 3) := by decide +kernel
theorem dX2_init_8 : decode cX2_init 8 = .ok (.dup, 1) := by decide +kernel
theorem dX2_init_9 : decode cX2_init 9 = .ok (.invokespecial 11, 3) := by decide +kernel
theorem dX2_init_12 : decode cX2_init 12 = .ok (.putfield 12, 3) := by decide +kernel
theorem dX2_init_15 : decode cX2_init 15 = .ok (.aload_n 0, 1) := by decide +kernel
theorem dX2_init_16 : decode cX2_init 16 = .ok (.new 18, 3) := by decide +kernel
theorem dX2_init_19 : decode cX2_init 19 = .ok (.dup, 1) := by decide +kernel
theorem dX2_init_20 : decode cX2_init 20 = .ok (.invokespecial 20, 3) := by decide +kernel
theorem dX2_init_23 : decode cX2_init 23 = .ok (.putfield 21, 3) := by decide +kernel
theorem dX2_init_26 : decode cX2_init 26 = .ok (.aload_n 0, 1) := by decide +kernel
theorem dX2_init_27 : decode cX2_init 27 = .ok (.new 25, 3) := by decide +kernel
theorem dX2_init_30 : decode cX2_init 30 = .ok (.dup, 1) := by decide +kernel
theorem dX2_init_31 : decode cX2_init 31 = .ok (.invokespecial 27, 3) := by decide +kernel
theorem dX2_init_34 : decode cX2_init 34 = .ok (.putfield 28, 3) := by decide +kernel
theorem dX2_init_37 : decode cX2_init 37 = .ok (.return_, 1) := by decide +kernel
theorem dX2_furnaceIn_0 : decode cX2_furnaceIn 0 = .ok (.aload_n 0, 1) := by decide +kernel
theorem dX2_furnaceIn_1 : decode cX2_furnaceIn 1 = .ok (.getfield 21, 3) := by decide +kernel
theorem dX2_furnaceIn_4 : decode cX2_furnaceIn 4 = .ok (.aload_n 1, 1) := by decide +kernel
theorem dX2_furnaceIn_5 : decode cX2_furnaceIn 5 = .ok (.getfield 32, 3) := by decide +kernel
theorem dX2_furnaceIn_8 : decode cX2_furnaceIn 8 = .ok (.invokevirtual 35, 3) := by decide +kernel
theorem dX2_furnaceIn_11 : decode cX2_furnaceIn 11 = .ok (.iconst 0, 1) := by decide +kernel
theorem dX2_furnaceIn_12 : decode cX2_furnaceIn 12 = .ok (.istore_n 3, 1) := by decide +kernel
theorem dX2_furnaceIn_13 : decode cX2_furnaceIn 13 = .ok (.iload_n 3, 1) := by decide +kernel
theorem dX2_furnaceIn_14 : decode cX2_furnaceIn 14 = .ok (.iload_n 2, 1) := by decide +kernel
theorem dX2_furnaceIn_15 : decode cX2_furnaceIn 15 = .ok (.if_icmp .ge 16, 3) := by decide +kernel
theorem dX2_furnaceIn_18 : decode cX2_furnaceIn 18 = .ok (.aload_n 0, 1) := by decide +kernel
theorem dX2_furnaceIn_19 : decode cX2_furnaceIn 19 = .ok (.getfield 21, 3) := by decide +kernel
theorem dX2_furnaceIn_22 : decode cX2_furnaceIn 22 = .ok (.invokevirtual 39, 3) := by decide +kernel
theorem dX2_furnaceIn_25 : decode cX2_furnaceIn 25 = .ok (.iinc 3 1, 3) := by decide +kernel
theorem dX2_furnaceIn_28 : decode cX2_furnaceIn 28 = .ok (.goto (-15), 3) := by decide +kernel
theorem dX2_furnaceIn_31 : decode cX2_furnaceIn 31 = .ok (.aload_n 0, 1) := by decide +kernel
theorem dX2_furnaceIn_32 : decode cX2_furnaceIn 32 = .ok (.getfield 21, 3) := by decide +kernel
theorem dX2_furnaceIn_35 : decode cX2_furnaceIn 35 = .ok (.getfield 42, 3) := by decide +kernel
theorem dX2_furnaceIn_38 : decode cX2_furnaceIn 38 = .ok (.ireturn, 1) := by decide +kernel
theorem dX2_minutesOnCopy_0 : decode cX2_minutesOnCopy 0 = .ok (.aload_n 0, 1) := by decide +kernel
theorem dX2_minutesOnCopy_1 : decode cX2_minutesOnCopy 1 = .ok (.getfield 12, 3) := by decide +kernel
theorem dX2_minutesOnCopy_4 : decode cX2_minutesOnCopy 4 = .ok (.aload_n 1, 1) := by decide +kernel
theorem dX2_minutesOnCopy_5 : decode cX2_minutesOnCopy 5 = .ok (.invokevirtual 46, 3) := by decide +kernel
theorem dX2_minutesOnCopy_8 : decode cX2_minutesOnCopy 8 = .ok (.aload_n 0, 1) := by decide +kernel
theorem dX2_minutesOnCopy_9 : decode cX2_minutesOnCopy 9 = .ok (.getfield 12, 3) := by decide +kernel
theorem dX2_minutesOnCopy_12 : decode cX2_minutesOnCopy 12 = .ok (.iload_n 2, 1) := by decide +kernel
theorem dX2_minutesOnCopy_13 : decode cX2_minutesOnCopy 13 = .ok (.invokevirtual 49, 3) := by decide +kernel
theorem dX2_minutesOnCopy_16 : decode cX2_minutesOnCopy 16 = .ok (.astore 4, 2) := by decide +kernel
theorem dX2_minutesOnCopy_18 : decode cX2_minutesOnCopy 18 = .ok (.aload 4, 2) := by decide +kernel
theorem dX2_minutesOnCopy_20 : decode cX2_minutesOnCopy 20 = .ok (.ifnonnull 5, 3) := by decide +kernel
theorem dX2_minutesOnCopy_23 : decode cX2_minutesOnCopy 23 = .ok (.iconst (-1), 1) := by decide +kernel
theorem dX2_minutesOnCopy_24 : decode cX2_minutesOnCopy 24 = .ok (.ireturn, 1) := by decide +kernel
theorem dX2_minutesOnCopy_25 : decode cX2_minutesOnCopy 25 = .ok (.iconst 0, 1) := by decide +kernel
theorem dX2_minutesOnCopy_26 : decode cX2_minutesOnCopy 26 = .ok (.istore 5, 2) := by decide +kernel
theorem dX2_minutesOnCopy_28 : decode cX2_minutesOnCopy 28 = .ok (.iload 5, 2) := by decide +kernel
theorem dX2_minutesOnCopy_30 : decode cX2_minutesOnCopy 30 = .ok (.sipush 200, 3) := by decide +kernel
theorem dX2_minutesOnCopy_33 : decode cX2_minutesOnCopy 33 = .ok (.if_icmp .gt 28, 3) := by decide +kernel
theorem dX2_minutesOnCopy_36 : decode cX2_minutesOnCopy 36 = .ok (.aload 4, 2) := by decide +kernel
theorem dX2_minutesOnCopy_38 : decode cX2_minutesOnCopy 38 = .ok (.getfield 53, 3) := by decide +kernel
theorem dX2_minutesOnCopy_41 : decode cX2_minutesOnCopy 41 = .ok (.iload_n 3, 1) := by decide +kernel
theorem dX2_minutesOnCopy_42 : decode cX2_minutesOnCopy 42 = .ok (.if_icmp .gt 6, 3) := by decide +kernel
theorem dX2_minutesOnCopy_45 : decode cX2_minutesOnCopy 45 = .ok (.iload 5, 2) := by decide +kernel
theorem dX2_minutesOnCopy_47 : decode cX2_minutesOnCopy 47 = .ok (.ireturn, 1) := by decide +kernel
theorem dX2_minutesOnCopy_48 : decode cX2_minutesOnCopy 48 = .ok (.aload_n 0, 1) := by decide +kernel
theorem dX2_minutesOnCopy_49 : decode cX2_minutesOnCopy 49 = .ok (.getfield 12, 3) := by decide +kernel
theorem dX2_minutesOnCopy_52 : decode cX2_minutesOnCopy 52 = .ok (.invokevirtual 54, 3) := by decide +kernel
theorem dX2_minutesOnCopy_55 : decode cX2_minutesOnCopy 55 = .ok (.iinc 5 1, 3) := by decide +kernel
theorem dX2_minutesOnCopy_58 : decode cX2_minutesOnCopy 58 = .ok (.goto (-30), 3) := by decide +kernel
theorem dX2_minutesOnCopy_61 : decode cX2_minutesOnCopy 61 = .ok (.iconst (-1), 1) := by decide +kernel
theorem dX2_minutesOnCopy_62 : decode cX2_minutesOnCopy 62 = .ok (.ireturn, 1) := by decide +kernel
theorem dX2_minutesAlone_0 : decode cX2_minutesAlone 0 = .ok (.aload_n 1, 1) := by decide +kernel
theorem dX2_minutesAlone_1 : decode cX2_minutesAlone 1 = .ok (.iload_n 2, 1) := by decide +kernel
theorem dX2_minutesAlone_2 : decode cX2_minutesAlone 2 = .ok (.invokevirtual 49, 3) := by decide +kernel
theorem dX2_minutesAlone_5 : decode cX2_minutesAlone 5 = .ok (.astore 4, 2) := by decide +kernel
theorem dX2_minutesAlone_7 : decode cX2_minutesAlone 7 = .ok (.aload 4, 2) := by decide +kernel
theorem dX2_minutesAlone_9 : decode cX2_minutesAlone 9 = .ok (.ifnonnull 5, 3) := by decide +kernel
theorem dX2_minutesAlone_12 : decode cX2_minutesAlone 12 = .ok (.iconst (-1), 1) := by decide +kernel
theorem dX2_minutesAlone_13 : decode cX2_minutesAlone 13 = .ok (.ireturn, 1) := by decide +kernel
theorem dX2_minutesAlone_14 : decode cX2_minutesAlone 14 = .ok (.aload_n 0, 1) := by decide +kernel
theorem dX2_minutesAlone_15 : decode cX2_minutesAlone 15 = .ok (.getfield 21, 3) := by decide +kernel
theorem dX2_minutesAlone_18 : decode cX2_minutesAlone 18 = .ok (.aload_n 1, 1) := by decide +kernel
theorem dX2_minutesAlone_19 : decode cX2_minutesAlone 19 = .ok (.getfield 32, 3) := by decide +kernel
theorem dX2_minutesAlone_22 : decode cX2_minutesAlone 22 = .ok (.invokevirtual 35, 3) := by decide +kernel
theorem dX2_minutesAlone_25 : decode cX2_minutesAlone 25 = .ok (.aload_n 0, 1) := by decide +kernel
theorem dX2_minutesAlone_26 : decode cX2_minutesAlone 26 = .ok (.getfield 28, 3) := by decide +kernel
theorem dX2_minutesAlone_29 : decode cX2_minutesAlone 29 = .ok (.aload 4, 2) := by decide +kernel
theorem dX2_minutesAlone_31 : decode cX2_minutesAlone 31 = .ok (.invokevirtual 55, 3) := by decide +kernel
theorem dX2_minutesAlone_34 : decode cX2_minutesAlone 34 = .ok (.iconst 0, 1) := by decide +kernel
theorem dX2_minutesAlone_35 : decode cX2_minutesAlone 35 = .ok (.istore 5, 2) := by decide +kernel
theorem dX2_minutesAlone_37 : decode cX2_minutesAlone 37 = .ok (.iload 5, 2) := by decide +kernel
theorem dX2_minutesAlone_39 : decode cX2_minutesAlone 39 = .ok (.sipush 200, 3) := by decide +kernel
theorem dX2_minutesAlone_42 : decode cX2_minutesAlone 42 = .ok (.if_icmp .gt 44, 3) := by decide +kernel
theorem dX2_minutesAlone_45 : decode cX2_minutesAlone 45 = .ok (.aload_n 0, 1) := by decide +kernel
theorem dX2_minutesAlone_46 : decode cX2_minutesAlone 46 = .ok (.getfield 28, 3) := by decide +kernel
theorem dX2_minutesAlone_49 : decode cX2_minutesAlone 49 = .ok (.getfield 53, 3) := by decide +kernel
theorem dX2_minutesAlone_52 : decode cX2_minutesAlone 52 = .ok (.iload_n 3, 1) := by decide +kernel
theorem dX2_minutesAlone_53 : decode cX2_minutesAlone 53 = .ok (.if_icmp .gt 6, 3) := by decide +kernel
theorem dX2_minutesAlone_56 : decode cX2_minutesAlone 56 = .ok (.iload 5, 2) := by decide +kernel
theorem dX2_minutesAlone_58 : decode cX2_minutesAlone 58 = .ok (.ireturn, 1) := by decide +kernel
theorem dX2_minutesAlone_59 : decode cX2_minutesAlone 59 = .ok (.aload_n 0, 1) := by decide +kernel
theorem dX2_minutesAlone_60 : decode cX2_minutesAlone 60 = .ok (.getfield 21, 3) := by decide +kernel
theorem dX2_minutesAlone_63 : decode cX2_minutesAlone 63 = .ok (.invokevirtual 39, 3) := by decide +kernel
theorem dX2_minutesAlone_66 : decode cX2_minutesAlone 66 = .ok (.aload_n 0, 1) := by decide +kernel
theorem dX2_minutesAlone_67 : decode cX2_minutesAlone 67 = .ok (.getfield 28, 3) := by decide +kernel
theorem dX2_minutesAlone_70 : decode cX2_minutesAlone 70 = .ok (.aload_n 0, 1) := by decide +kernel
theorem dX2_minutesAlone_71 : decode cX2_minutesAlone 71 = .ok (.getfield 21, 3) := by decide +kernel
theorem dX2_minutesAlone_74 : decode cX2_minutesAlone 74 = .ok (.getfield 42, 3) := by decide +kernel
theorem dX2_minutesAlone_77 : decode cX2_minutesAlone 77 = .ok (.invokevirtual 58, 3) := by decide +kernel
theorem dX2_minutesAlone_80 : decode cX2_minutesAlone 80 = .ok (.iinc 5 1, 3) := by decide +kernel
theorem dX2_minutesAlone_83 : decode cX2_minutesAlone 83 = .ok (.goto (-46), 3) := by decide +kernel
theorem dX2_minutesAlone_86 : decode cX2_minutesAlone 86 = .ok (.iconst (-1), 1) := by decide +kernel
theorem dX2_minutesAlone_87 : decode cX2_minutesAlone 87 = .ok (.ireturn, 1) := by decide +kernel
theorem dX2_bothWaysAgree_0 : decode cX2_bothWaysAgree 0 = .ok (.iconst 0, 1) := by decide +kernel
theorem dX2_bothWaysAgree_1 : decode cX2_bothWaysAgree 1 = .ok (.istore_n 2, 1) := by decide +kernel
theorem dX2_bothWaysAgree_2 : decode cX2_bothWaysAgree 2 = .ok (.iload_n 2, 1) := by decide +kernel
theorem dX2_bothWaysAgree_3 : decode cX2_bothWaysAgree 3 = .ok (.aload_n 1, 1) := by decide +kernel
theorem dX2_bothWaysAgree_4 : decode cX2_bothWaysAgree 4 = .ok (.getfield 62, 3) := by decide +kernel
theorem dX2_bothWaysAgree_7 : decode cX2_bothWaysAgree 7 = .ok (.if_icmp .ge 40, 3) := by decide +kernel
theorem dX2_bothWaysAgree_10 : decode cX2_bothWaysAgree 10 = .ok (.aload_n 1, 1) := by decide +kernel
theorem dX2_bothWaysAgree_11 : decode cX2_bothWaysAgree 11 = .ok (.getfield 65, 3) := by decide +kernel
theorem dX2_bothWaysAgree_14 : decode cX2_bothWaysAgree 14 = .ok (.iload_n 2, 1) := by decide +kernel
theorem dX2_bothWaysAgree_15 : decode cX2_bothWaysAgree 15 = .ok (.aaload, 1) := by decide +kernel
theorem dX2_bothWaysAgree_16 : decode cX2_bothWaysAgree 16 = .ok (.getfield 69, 3) := by decide +kernel
theorem dX2_bothWaysAgree_19 : decode cX2_bothWaysAgree 19 = .ok (.istore_n 3, 1) := by decide +kernel
theorem dX2_bothWaysAgree_20 : decode cX2_bothWaysAgree 20 = .ok (.aload_n 0, 1) := by decide +kernel
theorem dX2_bothWaysAgree_21 : decode cX2_bothWaysAgree 21 = .ok (.aload_n 1, 1) := by decide +kernel
theorem dX2_bothWaysAgree_22 : decode cX2_bothWaysAgree 22 = .ok (.iload_n 3, 1) := by decide +kernel
theorem dX2_bothWaysAgree_23 : decode cX2_bothWaysAgree 23 = .ok (.bipush 20, 2) := by decide +kernel
theorem dX2_bothWaysAgree_25 : decode cX2_bothWaysAgree 25 = .ok (.invokevirtual 72, 3) := by decide +kernel
theorem dX2_bothWaysAgree_28 : decode cX2_bothWaysAgree 28 = .ok (.aload_n 0, 1) := by decide +kernel
theorem dX2_bothWaysAgree_29 : decode cX2_bothWaysAgree 29 = .ok (.aload_n 1, 1) := by decide +kernel
theorem dX2_bothWaysAgree_30 : decode cX2_bothWaysAgree 30 = .ok (.iload_n 3, 1) := by decide +kernel
theorem dX2_bothWaysAgree_31 : decode cX2_bothWaysAgree 31 = .ok (.bipush 20, 2) := by decide +kernel
theorem dX2_bothWaysAgree_33 : decode cX2_bothWaysAgree 33 = .ok (.invokevirtual 76, 3) := by decide +kernel
theorem dX2_bothWaysAgree_36 : decode cX2_bothWaysAgree 36 = .ok (.if_icmp .eq 5, 3) := by decide +kernel
theorem dX2_bothWaysAgree_39 : decode cX2_bothWaysAgree 39 = .ok (.iconst 0, 1) := by decide +kernel
theorem dX2_bothWaysAgree_40 : decode cX2_bothWaysAgree 40 = .ok (.ireturn, 1) := by decide +kernel
theorem dX2_bothWaysAgree_41 : decode cX2_bothWaysAgree 41 = .ok (.iinc 2 1, 3) := by decide +kernel
theorem dX2_bothWaysAgree_44 : decode cX2_bothWaysAgree 44 = .ok (.goto (-42), 3) := by decide +kernel
theorem dX2_bothWaysAgree_47 : decode cX2_bothWaysAgree 47 = .ok (.iconst 1, 1) := by decide +kernel
theorem dX2_bothWaysAgree_48 : decode cX2_bothWaysAgree 48 = .ok (.ireturn, 1) := by decide +kernel
theorem dX3_init_0 : decode cX3_init 0 = .ok (.aload_n 0, 1) := by decide +kernel
theorem dX3_init_1 : decode cX3_init 1 = .ok (.invokespecial 3, 3) := by decide +kernel
theorem dX3_init_4 : decode cX3_init 4 = .ok (.aload_n 0, 1) := by decide +kernel
theorem dX3_init_5 : decode cX3_init 5 = .ok (.new 9, 3) := by decide +kernel
theorem dX3_init_8 : decode cX3_init 8 = .ok (.dup, 1) := by decide +kernel
theorem dX3_init_9 : decode cX3_init 9 = .ok (.invokespecial 11, 3) := by decide +kernel
theorem dX3_init_12 : decode cX3_init 12 = .ok (.putfield 12, 3) := by decide +kernel
theorem dX3_init_15 : decode cX3_init 15 = .ok (.aload_n 0, 1) := by decide +kernel
theorem dX3_init_16 : decode cX3_init 16 = .ok (.bipush 8, 2) := by decide +kernel
theorem dX3_init_18 : decode cX3_init 18 = .ok (.anewarray 18, 3) := by decide +kernel
theorem dX3_init_21 : decode cX3_init 21 = .ok (.putfield 20, 3) := by decide +kernel
theorem dX3_init_24 : decode cX3_init 24 = .ok (.aload_n 0, 1) := by decide +kernel
theorem dX3_init_25 : decode cX3_init 25 = .ok (.iconst 4, 1) := by decide +kernel
theorem dX3_init_26 : decode cX3_init 26 = .ok (.anewarray 24, 3) := by decide +kernel
theorem dX3_init_29 : decode cX3_init 29 = .ok (.putfield 26, 3) := by decide +kernel
theorem dX3_init_32 : decode cX3_init 32 = .ok (.aload_n 0, 1) := by decide +kernel
theorem dX3_init_33 : decode cX3_init 33 = .ok (.iconst 0, 1) := by decide +kernel
theorem dX3_init_34 : decode cX3_init 34 = .ok (.putfield 30, 3) := by decide +kernel
theorem dX3_init_37 : decode cX3_init 37 = .ok (.aload_n 0, 1) := by decide +kernel
theorem dX3_init_38 : decode cX3_init 38 = .ok (.iconst 0, 1) := by decide +kernel
theorem dX3_init_39 : decode cX3_init 39 = .ok (.putfield 34, 3) := by decide +kernel
theorem dX3_init_42 : decode cX3_init 42 = .ok (.aload_n 0, 1) := by decide +kernel
theorem dX3_init_43 : decode cX3_init 43 = .ok (.iconst 0, 1) := by decide +kernel
theorem dX3_init_44 : decode cX3_init 44 = .ok (.putfield 37, 3) := by decide +kernel
theorem dX3_init_47 : decode cX3_init 47 = .ok (.aload_n 0, 1) := by decide +kernel
theorem dX3_init_48 : decode cX3_init 48 = .ok (.iconst 0, 1) := by decide +kernel
theorem dX3_init_49 : decode cX3_init 49 = .ok (.putfield 40, 3) := by decide +kernel
theorem dX3_init_52 : decode cX3_init 52 = .ok (.aload_n 0, 1) := by decide +kernel
theorem dX3_init_53 : decode cX3_init 53 = .ok (.iconst 0, 1) := by decide +kernel
theorem dX3_init_54 : decode cX3_init 54 = .ok (.putfield 43, 3) := by decide +kernel
theorem dX3_init_57 : decode cX3_init 57 = .ok (.aload_n 0, 1) := by decide +kernel
theorem dX3_init_58 : decode cX3_init 58 = .ok (.iconst 0, 1) := by decide +kernel
theorem dX3_init_59 : decode cX3_init 59 = .ok (.putfield 46, 3) := by decide +kernel
theorem dX3_init_62 : decode cX3_init 62 = .ok (.aload_n 0, 1) := by decide +kernel
theorem dX3_init_63 : decode cX3_init 63 = .ok (.iconst 0, 1) := by decide +kernel
theorem dX3_init_64 : decode cX3_init 64 = .ok (.putfield 49, 3) := by decide +kernel
theorem dX3_init_67 : decode cX3_init 67 = .ok (.aload_n 0, 1) := by decide +kernel
theorem dX3_init_68 : decode cX3_init 68 = .ok (.iconst 0, 1) := by decide +kernel
theorem dX3_init_69 : decode cX3_init 69 = .ok (.putfield 52, 3) := by decide +kernel
theorem dX3_init_72 : decode cX3_init 72 = .ok (.aload_n 0, 1) := by decide +kernel
theorem dX3_init_73 : decode cX3_init 73 = .ok (.lconst 0, 1) := by decide +kernel
theorem dX3_init_74 : decode cX3_init 74 = .ok (.putfield 55, 3) := by decide +kernel
theorem dX3_init_77 : decode cX3_init 77 = .ok (.iconst 0, 1) := by decide +kernel
theorem dX3_init_78 : decode cX3_init 78 = .ok (.istore_n 1, 1) := by decide +kernel
theorem dX3_init_79 : decode cX3_init 79 = .ok (.iload_n 1, 1) := by decide +kernel
theorem dX3_init_80 : decode cX3_init 80 = .ok (.aload_n 0, 1) := by decide +kernel
theorem dX3_init_81 : decode cX3_init 81 = .ok (.getfield 20, 3) := by decide +kernel
theorem dX3_init_84 : decode cX3_init 84 = .ok (.arraylength, 1) := by decide +kernel
theorem dX3_init_85 : decode cX3_init 85 = .ok (.if_icmp .ge 22, 3) := by decide +kernel
theorem dX3_init_88 : decode cX3_init 88 = .ok (.aload_n 0, 1) := by decide +kernel
theorem dX3_init_89 : decode cX3_init 89 = .ok (.getfield 20, 3) := by decide +kernel
theorem dX3_init_92 : decode cX3_init 92 = .ok (.iload_n 1, 1) := by decide +kernel
theorem dX3_init_93 : decode cX3_init 93 = .ok (.new 18, 3) := by decide +kernel
theorem dX3_init_96 : decode cX3_init 96 = .ok (.dup, 1) := by decide +kernel
theorem dX3_init_97 : decode cX3_init 97 = .ok (.invokespecial 59, 3) := by decide +kernel
theorem dX3_init_100 : decode cX3_init 100 = .ok (.aastore, 1) := by decide +kernel
theorem dX3_init_101 : decode cX3_init 101 = .ok (.iinc 1 1, 3) := by decide +kernel
theorem dX3_init_104 : decode cX3_init 104 = .ok (.goto (-25), 3) := by decide +kernel
theorem dX3_init_107 : decode cX3_init 107 = .ok (.iconst 0, 1) := by decide +kernel
theorem dX3_init_108 : decode cX3_init 108 = .ok (.istore_n 1, 1) := by decide +kernel
theorem dX3_init_109 : decode cX3_init 109 = .ok (.iload_n 1, 1) := by decide +kernel
theorem dX3_init_110 : decode cX3_init 110 = .ok (.aload_n 0, 1) := by decide +kernel
theorem dX3_init_111 : decode cX3_init 111 = .ok (.getfield 26, 3) := by decide +kernel
theorem dX3_init_114 : decode cX3_init 114 = .ok (.arraylength, 1) := by decide +kernel
theorem dX3_init_115 : decode cX3_init 115 = .ok (.if_icmp .ge 22, 3) := by decide +kernel
theorem dX3_init_118 : decode cX3_init 118 = .ok (.aload_n 0, 1) := by decide +kernel
theorem dX3_init_119 : decode cX3_init 119 = .ok (.getfield 26, 3) := by decide +kernel
theorem dX3_init_122 : decode cX3_init 122 = .ok (.iload_n 1, 1) := by decide +kernel
theorem dX3_init_123 : decode cX3_init 123 = .ok (.new 24, 3) := by decide +kernel
theorem dX3_init_126 : decode cX3_init 126 = .ok (.dup, 1) := by decide +kernel
theorem dX3_init_127 : decode cX3_init 127 = .ok (.invokespecial 60, 3) := by decide +kernel
theorem dX3_init_130 : decode cX3_init 130 = .ok (.aastore, 1) := by decide +kernel
theorem dX3_init_131 : decode cX3_init 131 = .ok (.iinc 1 1, 3) := by decide +kernel
theorem dX3_init_134 : decode cX3_init 134 = .ok (.goto (-25), 3) := by decide +kernel
theorem dX3_init_137 : decode cX3_init 137 = .ok (.return_, 1) := by decide +kernel
theorem dX3_copyFrom_0 : decode cX3_copyFrom 0 = .ok (.aload_n 0, 1) := by decide +kernel
theorem dX3_copyFrom_1 : decode cX3_copyFrom 1 = .ok (.getfield 12, 3) := by decide +kernel
theorem dX3_copyFrom_4 : decode cX3_copyFrom 4 = .ok (.aload_n 1, 1) := by decide +kernel
theorem dX3_copyFrom_5 : decode cX3_copyFrom 5 = .ok (.getfield 12, 3) := by decide +kernel
theorem dX3_copyFrom_8 : decode cX3_copyFrom 8 = .ok (.invokevirtual 61, 3) := by decide +kernel
theorem dX3_copyFrom_11 : decode cX3_copyFrom 11 = .ok (.iconst 0, 1) := by decide +kernel
theorem dX3_copyFrom_12 : decode cX3_copyFrom 12 = .ok (.istore_n 2, 1) := by decide +kernel
theorem dX3_copyFrom_13 : decode cX3_copyFrom 13 = .ok (.iload_n 2, 1) := by decide +kernel
theorem dX3_copyFrom_14 : decode cX3_copyFrom 14 = .ok (.bipush 8, 2) := by decide +kernel
theorem dX3_copyFrom_16 : decode cX3_copyFrom 16 = .ok (.if_icmp .ge 24, 3) := by decide +kernel
theorem dX3_copyFrom_19 : decode cX3_copyFrom 19 = .ok (.aload_n 0, 1) := by decide +kernel
theorem dX3_copyFrom_20 : decode cX3_copyFrom 20 = .ok (.getfield 20, 3) := by decide +kernel
theorem dX3_copyFrom_23 : decode cX3_copyFrom 23 = .ok (.iload_n 2, 1) := by decide +kernel
theorem dX3_copyFrom_24 : decode cX3_copyFrom 24 = .ok (.aaload, 1) := by decide +kernel
theorem dX3_copyFrom_25 : decode cX3_copyFrom 25 = .ok (.aload_n 1, 1) := by decide +kernel
theorem dX3_copyFrom_26 : decode cX3_copyFrom 26 = .ok (.getfield 20, 3) := by decide +kernel
theorem dX3_copyFrom_29 : decode cX3_copyFrom 29 = .ok (.iload_n 2, 1) := by decide +kernel
theorem dX3_copyFrom_30 : decode cX3_copyFrom 30 = .ok (.aaload, 1) := by decide +kernel
theorem dX3_copyFrom_31 : decode cX3_copyFrom 31 = .ok (.invokevirtual 65, 3) := by decide +kernel
theorem dX3_copyFrom_34 : decode cX3_copyFrom 34 = .ok (.iinc 2 1, 3) := by decide +kernel
theorem dX3_copyFrom_37 : decode cX3_copyFrom 37 = .ok (.goto (-24), 3) := by decide +kernel
theorem dX3_copyFrom_40 : decode cX3_copyFrom 40 = .ok (.iconst 0, 1) := by decide +kernel
theorem dX3_copyFrom_41 : decode cX3_copyFrom 41 = .ok (.istore_n 2, 1) := by decide +kernel
theorem dX3_copyFrom_42 : decode cX3_copyFrom 42 = .ok (.iload_n 2, 1) := by decide +kernel
theorem dX3_copyFrom_43 : decode cX3_copyFrom 43 = .ok (.iconst 4, 1) := by decide +kernel
theorem dX3_copyFrom_44 : decode cX3_copyFrom 44 = .ok (.if_icmp .ge 24, 3) := by decide +kernel
theorem dX3_copyFrom_47 : decode cX3_copyFrom 47 = .ok (.aload_n 0, 1) := by decide +kernel
theorem dX3_copyFrom_48 : decode cX3_copyFrom 48 = .ok (.getfield 26, 3) := by decide +kernel
theorem dX3_copyFrom_51 : decode cX3_copyFrom 51 = .ok (.iload_n 2, 1) := by decide +kernel
theorem dX3_copyFrom_52 : decode cX3_copyFrom 52 = .ok (.aaload, 1) := by decide +kernel
theorem dX3_copyFrom_53 : decode cX3_copyFrom 53 = .ok (.aload_n 1, 1) := by decide +kernel
theorem dX3_copyFrom_54 : decode cX3_copyFrom 54 = .ok (.getfield 26, 3) := by decide +kernel
theorem dX3_copyFrom_57 : decode cX3_copyFrom 57 = .ok (.iload_n 2, 1) := by decide +kernel
theorem dX3_copyFrom_58 : decode cX3_copyFrom 58 = .ok (.aaload, 1) := by decide +kernel
theorem dX3_copyFrom_59 : decode cX3_copyFrom 59 = .ok (.invokevirtual 68, 3) := by decide +kernel
theorem dX3_copyFrom_62 : decode cX3_copyFrom 62 = .ok (.iinc 2 1, 3) := by decide +kernel
theorem dX3_copyFrom_65 : decode cX3_copyFrom 65 = .ok (.goto (-23), 3) := by decide +kernel
theorem dX3_copyFrom_68 : decode cX3_copyFrom 68 = .ok (.aload_n 0, 1) := by decide +kernel
theorem dX3_copyFrom_69 : decode cX3_copyFrom 69 = .ok (.aload_n 1, 1) := by decide +kernel
theorem dX3_copyFrom_70 : decode cX3_copyFrom 70 = .ok (.getfield 30, 3) := by decide +kernel
theorem dX3_copyFrom_73 : decode cX3_copyFrom 73 = .ok (.putfield 30, 3) := by decide +kernel
theorem dX3_copyFrom_76 : decode cX3_copyFrom 76 = .ok (.aload_n 0, 1) := by decide +kernel
theorem dX3_copyFrom_77 : decode cX3_copyFrom 77 = .ok (.aload_n 1, 1) := by decide +kernel
theorem dX3_copyFrom_78 : decode cX3_copyFrom 78 = .ok (.getfield 34, 3) := by decide +kernel
theorem dX3_copyFrom_81 : decode cX3_copyFrom 81 = .ok (.putfield 34, 3) := by decide +kernel
theorem dX3_copyFrom_84 : decode cX3_copyFrom 84 = .ok (.aload_n 0, 1) := by decide +kernel
theorem dX3_copyFrom_85 : decode cX3_copyFrom 85 = .ok (.aload_n 1, 1) := by decide +kernel
theorem dX3_copyFrom_86 : decode cX3_copyFrom 86 = .ok (.getfield 37, 3) := by decide +kernel
theorem dX3_copyFrom_89 : decode cX3_copyFrom 89 = .ok (.putfield 37, 3) := by decide +kernel
theorem dX3_copyFrom_92 : decode cX3_copyFrom 92 = .ok (.aload_n 0, 1) := by decide +kernel
theorem dX3_copyFrom_93 : decode cX3_copyFrom 93 = .ok (.aload_n 1, 1) := by decide +kernel
theorem dX3_copyFrom_94 : decode cX3_copyFrom 94 = .ok (.getfield 40, 3) := by decide +kernel
theorem dX3_copyFrom_97 : decode cX3_copyFrom 97 = .ok (.putfield 40, 3) := by decide +kernel
theorem dX3_copyFrom_100 : decode cX3_copyFrom 100 = .ok (.aload_n 0, 1) := by decide +kernel
theorem dX3_copyFrom_101 : decode cX3_copyFrom 101 = .ok (.aload_n 1, 1) := by decide +kernel
theorem dX3_copyFrom_102 : decode cX3_copyFrom 102 = .ok (.getfield 43, 3) := by decide +kernel
theorem dX3_copyFrom_105 : decode cX3_copyFrom 105 = .ok (.putfield 43, 3) := by decide +kernel
theorem dX3_copyFrom_108 : decode cX3_copyFrom 108 = .ok (.aload_n 0, 1) := by decide +kernel
theorem dX3_copyFrom_109 : decode cX3_copyFrom 109 = .ok (.aload_n 1, 1) := by decide +kernel
theorem dX3_copyFrom_110 : decode cX3_copyFrom 110 = .ok (.getfield 46, 3) := by decide +kernel
theorem dX3_copyFrom_113 : decode cX3_copyFrom 113 = .ok (.putfield 46, 3) := by decide +kernel
theorem dX3_copyFrom_116 : decode cX3_copyFrom 116 = .ok (.aload_n 0, 1) := by decide +kernel
theorem dX3_copyFrom_117 : decode cX3_copyFrom 117 = .ok (.aload_n 1, 1) := by decide +kernel
theorem dX3_copyFrom_118 : decode cX3_copyFrom 118 = .ok (.getfield 49, 3) := by decide +kernel
theorem dX3_copyFrom_121 : decode cX3_copyFrom 121 = .ok (.putfield 49, 3) := by decide +kernel
theorem dX3_copyFrom_124 : decode cX3_copyFrom 124 = .ok (.aload_n 0, 1) := by decide +kernel
theorem dX3_copyFrom_125 : decode cX3_copyFrom 125 = .ok (.aload_n 1, 1) := by decide +kernel
theorem dX3_copyFrom_126 : decode cX3_copyFrom 126 = .ok (.getfield 52, 3) := by decide +kernel
theorem dX3_copyFrom_129 : decode cX3_copyFrom 129 = .ok (.putfield 52, 3) := by decide +kernel
theorem dX3_copyFrom_132 : decode cX3_copyFrom 132 = .ok (.aload_n 0, 1) := by decide +kernel
theorem dX3_copyFrom_133 : decode cX3_copyFrom 133 = .ok (.aload_n 1, 1) := by decide +kernel
theorem dX3_copyFrom_134 : decode cX3_copyFrom 134 = .ok (.getfield 55, 3) := by decide +kernel
theorem dX3_copyFrom_137 : decode cX3_copyFrom 137 = .ok (.putfield 55, 3) := by decide +kernel
theorem dX3_copyFrom_140 : decode cX3_copyFrom 140 = .ok (.return_, 1) := by decide +kernel
theorem dX3_pieceIn_0 : decode cX3_pieceIn 0 = .ok (.iload_n 1, 1) := by decide +kernel
theorem dX3_pieceIn_1 : decode cX3_pieceIn 1 = .ok (.ifCond .lt 11, 3) := by decide +kernel
theorem dX3_pieceIn_4 : decode cX3_pieceIn 4 = .ok (.iload_n 1, 1) := by decide +kernel
theorem dX3_pieceIn_5 : decode cX3_pieceIn 5 = .ok (.aload_n 0, 1) := by decide +kernel
theorem dX3_pieceIn_6 : decode cX3_pieceIn 6 = .ok (.getfield 30, 3) := by decide +kernel
theorem dX3_pieceIn_9 : decode cX3_pieceIn 9 = .ok (.if_icmp .lt 5, 3) := by decide +kernel
theorem dX3_pieceIn_12 : decode cX3_pieceIn 12 = .ok (.aconst_null, 1) := by decide +kernel
theorem dX3_pieceIn_13 : decode cX3_pieceIn 13 = .ok (.areturn, 1) := by decide +kernel
theorem dX3_pieceIn_14 : decode cX3_pieceIn 14 = .ok (.aload_n 0, 1) := by decide +kernel
theorem dX3_pieceIn_15 : decode cX3_pieceIn 15 = .ok (.getfield 20, 3) := by decide +kernel
theorem dX3_pieceIn_18 : decode cX3_pieceIn 18 = .ok (.iload_n 1, 1) := by decide +kernel
theorem dX3_pieceIn_19 : decode cX3_pieceIn 19 = .ok (.aaload, 1) := by decide +kernel
theorem dX3_pieceIn_20 : decode cX3_pieceIn 20 = .ok (.areturn, 1) := by decide +kernel
theorem dX3_hammerIn_0 : decode cX3_hammerIn 0 = .ok (.iload_n 1, 1) := by decide +kernel
theorem dX3_hammerIn_1 : decode cX3_hammerIn 1 = .ok (.ifCond .lt 11, 3) := by decide +kernel
theorem dX3_hammerIn_4 : decode cX3_hammerIn 4 = .ok (.iload_n 1, 1) := by decide +kernel
theorem dX3_hammerIn_5 : decode cX3_hammerIn 5 = .ok (.aload_n 0, 1) := by decide +kernel
theorem dX3_hammerIn_6 : decode cX3_hammerIn 6 = .ok (.getfield 34, 3) := by decide +kernel
theorem dX3_hammerIn_9 : decode cX3_hammerIn 9 = .ok (.if_icmp .lt 5, 3) := by decide +kernel
theorem dX3_hammerIn_12 : decode cX3_hammerIn 12 = .ok (.aconst_null, 1) := by decide +kernel
theorem dX3_hammerIn_13 : decode cX3_hammerIn 13 = .ok (.areturn, 1) := by decide +kernel
theorem dX3_hammerIn_14 : decode cX3_hammerIn 14 = .ok (.aload_n 0, 1) := by decide +kernel
theorem dX3_hammerIn_15 : decode cX3_hammerIn 15 = .ok (.getfield 26, 3) := by decide +kernel
theorem dX3_hammerIn_18 : decode cX3_hammerIn 18 = .ok (.iload_n 1, 1) := by decide +kernel
theorem dX3_hammerIn_19 : decode cX3_hammerIn 19 = .ok (.aaload, 1) := by decide +kernel
theorem dX3_hammerIn_20 : decode cX3_hammerIn 20 = .ok (.areturn, 1) := by decide +kernel
theorem dX3_find_0 : decode cX3_find 0 = .ok (.iconst 0, 1) := by decide +kernel
theorem dX3_find_1 : decode cX3_find 1 = .ok (.istore_n 2, 1) := by decide +kernel
theorem dX3_find_2 : decode cX3_find 2 = .ok (.iload_n 2, 1) := by decide +kernel
theorem dX3_find_3 : decode cX3_find 3 = .ok (.aload_n 0, 1) := by decide +kernel
theorem dX3_find_4 : decode cX3_find 4 = .ok (.getfield 30, 3) := by decide +kernel
theorem dX3_find_7 : decode cX3_find 7 = .ok (.if_icmp .ge 29, 3) := by decide +kernel
theorem dX3_find_10 : decode cX3_find 10 = .ok (.aload_n 0, 1) := by decide +kernel
theorem dX3_find_11 : decode cX3_find 11 = .ok (.getfield 20, 3) := by decide +kernel
theorem dX3_find_14 : decode cX3_find 14 = .ok (.iload_n 2, 1) := by decide +kernel
theorem dX3_find_15 : decode cX3_find 15 = .ok (.aaload, 1) := by decide +kernel
theorem dX3_find_16 : decode cX3_find 16 = .ok (.getfield 71, 3) := by decide +kernel
theorem dX3_find_19 : decode cX3_find 19 = .ok (.iload_n 1, 1) := by decide +kernel
theorem dX3_find_20 : decode cX3_find 20 = .ok (.if_icmp .ne 10, 3) := by decide +kernel
theorem dX3_find_23 : decode cX3_find 23 = .ok (.aload_n 0, 1) := by decide +kernel
theorem dX3_find_24 : decode cX3_find 24 = .ok (.getfield 20, 3) := by decide +kernel
theorem dX3_find_27 : decode cX3_find 27 = .ok (.iload_n 2, 1) := by decide +kernel
theorem dX3_find_28 : decode cX3_find 28 = .ok (.aaload, 1) := by decide +kernel
theorem dX3_find_29 : decode cX3_find 29 = .ok (.areturn, 1) := by decide +kernel
theorem dX3_find_30 : decode cX3_find 30 = .ok (.iinc 2 1, 3) := by decide +kernel
theorem dX3_find_33 : decode cX3_find 33 = .ok (.goto (-31), 3) := by decide +kernel
theorem dX3_find_36 : decode cX3_find 36 = .ok (.aconst_null, 1) := by decide +kernel
theorem dX3_find_37 : decode cX3_find 37 = .ok (.areturn, 1) := by decide +kernel
theorem dX3_storeCoal_0 : decode cX3_storeCoal 0 = .ok (.iload_n 1, 1) := by decide +kernel
theorem dX3_storeCoal_1 : decode cX3_storeCoal 1 = .ok (.iconst 1, 1) := by decide +kernel
theorem dX3_storeCoal_2 : decode cX3_storeCoal 2 = .ok (.if_icmp .lt 9, 3) := by decide +kernel
theorem dX3_storeCoal_5 : decode cX3_storeCoal 5 = .ok (.iload_n 1, 1) := by decide +kernel
theorem dX3_storeCoal_6 : decode cX3_storeCoal 6 = .ok (.bipush 50, 2) := by decide +kernel
theorem dX3_storeCoal_8 : decode cX3_storeCoal 8 = .ok (.if_icmp .le 6, 3) := by decide +kernel
theorem dX3_storeCoal_11 : decode cX3_storeCoal 11 = .ok (.bipush (-3), 2) := by decide +kernel
theorem dX3_storeCoal_13 : decode cX3_storeCoal 13 = .ok (.ireturn, 1) := by decide +kernel
theorem dX3_storeCoal_14 : decode cX3_storeCoal 14 = .ok (.aload_n 0, 1) := by decide +kernel
theorem dX3_storeCoal_15 : decode cX3_storeCoal 15 = .ok (.getfield 12, 3) := by decide +kernel
theorem dX3_storeCoal_18 : decode cX3_storeCoal 18 = .ok (.getfield 74, 3) := by decide +kernel
theorem dX3_storeCoal_21 : decode cX3_storeCoal 21 = .ok (.iload_n 1, 1) := by decide +kernel
theorem dX3_storeCoal_22 : decode cX3_storeCoal 22 = .ok (.iadd, 1) := by decide +kernel
theorem dX3_storeCoal_23 : decode cX3_storeCoal 23 = .ok (.bipush 99, 2) := by decide +kernel
theorem dX3_storeCoal_25 : decode cX3_storeCoal 25 = .ok (.if_icmp .le 6, 3) := by decide +kernel
theorem dX3_storeCoal_28 : decode cX3_storeCoal 28 = .ok (.bipush (-4), 2) := by decide +kernel
theorem dX3_storeCoal_30 : decode cX3_storeCoal 30 = .ok (.ireturn, 1) := by decide +kernel
theorem dX3_storeCoal_31 : decode cX3_storeCoal 31 = .ok (.aload_n 0, 1) := by decide +kernel
theorem dX3_storeCoal_32 : decode cX3_storeCoal 32 = .ok (.getfield 12, 3) := by decide +kernel
theorem dX3_storeCoal_35 : decode cX3_storeCoal 35 = .ok (.dup, 1) := by decide +kernel
theorem dX3_storeCoal_36 : decode cX3_storeCoal 36 = .ok (.getfield 74, 3) := by decide +kernel
theorem dX3_storeCoal_39 : decode cX3_storeCoal 39 = .ok (.iload_n 1, 1) := by decide +kernel
theorem dX3_storeCoal_40 : decode cX3_storeCoal 40 = .ok (.iadd, 1) := by decide +kernel
theorem dX3_storeCoal_41 : decode cX3_storeCoal 41 = .ok (.putfield 74, 3) := by decide +kernel
theorem dX3_storeCoal_44 : decode cX3_storeCoal 44 = .ok (.aload_n 0, 1) := by decide +kernel
theorem dX3_storeCoal_45 : decode cX3_storeCoal 45 = .ok (.dup, 1) := by decide +kernel
theorem dX3_storeCoal_46 : decode cX3_storeCoal 46 = .ok (.getfield 55, 3) := by decide +kernel
theorem dX3_storeCoal_49 : decode cX3_storeCoal 49 = .ok (.iload_n 1, 1) := by decide +kernel
theorem dX3_storeCoal_50 : decode cX3_storeCoal 50 = .ok (.i2l, 1) := by decide +kernel
theorem dX3_storeCoal_51 : decode cX3_storeCoal 51 = .ok (.ladd, 1) := by decide +kernel
theorem dX3_storeCoal_52 : decode cX3_storeCoal 52 = .ok (.putfield 55, 3) := by decide +kernel
theorem dX3_storeCoal_55 : decode cX3_storeCoal 55 = .ok (.aload_n 0, 1) := by decide +kernel
theorem dX3_storeCoal_56 : decode cX3_storeCoal 56 = .ok (.getfield 12, 3) := by decide +kernel
theorem dX3_storeCoal_59 : decode cX3_storeCoal 59 = .ok (.getfield 74, 3) := by decide +kernel
theorem dX3_storeCoal_62 : decode cX3_storeCoal 62 = .ok (.ireturn, 1) := by decide +kernel
theorem dX3_changeLevel_0 : decode cX3_changeLevel 0 = .ok (.iload_n 1, 1) := by decide +kernel
theorem dX3_changeLevel_1 : decode cX3_changeLevel 1 = .ok (.ifCond .lt 8, 3) := by decide +kernel
theorem dX3_changeLevel_4 : decode cX3_changeLevel 4 = .ok (.iload_n 1, 1) := by decide +kernel
theorem dX3_changeLevel_5 : decode cX3_changeLevel 5 = .ok (.iconst 5, 1) := by decide +kernel
theorem dX3_changeLevel_6 : decode cX3_changeLevel 6 = .ok (.if_icmp .le 6, 3) := by decide +kernel
theorem dX3_changeLevel_9 : decode cX3_changeLevel 9 = .ok (.bipush (-3), 2) := by decide +kernel
theorem dX3_changeLevel_11 : decode cX3_changeLevel 11 = .ok (.ireturn, 1) := by decide +kernel
theorem dX3_changeLevel_12 : decode cX3_changeLevel 12 = .ok (.aload_n 0, 1) := by decide +kernel
theorem dX3_changeLevel_13 : decode cX3_changeLevel 13 = .ok (.getfield 12, 3) := by decide +kernel
theorem dX3_changeLevel_16 : decode cX3_changeLevel 16 = .ok (.getfield 77, 3) := by decide +kernel
theorem dX3_changeLevel_19 : decode cX3_changeLevel 19 = .ok (.istore_n 2, 1) := by decide +kernel
theorem dX3_changeLevel_20 : decode cX3_changeLevel 20 = .ok (.aload_n 0, 1) := by decide +kernel
theorem dX3_changeLevel_21 : decode cX3_changeLevel 21 = .ok (.getfield 12, 3) := by decide +kernel
theorem dX3_changeLevel_24 : decode cX3_changeLevel 24 = .ok (.iload_n 1, 1) := by decide +kernel
theorem dX3_changeLevel_25 : decode cX3_changeLevel 25 = .ok (.putfield 77, 3) := by decide +kernel
theorem dX3_changeLevel_28 : decode cX3_changeLevel 28 = .ok (.iload_n 2, 1) := by decide +kernel
theorem dX3_changeLevel_29 : decode cX3_changeLevel 29 = .ok (.ireturn, 1) := by decide +kernel
theorem dX3_passMinutes_0 : decode cX3_passMinutes 0 = .ok (.iload_n 1, 1) := by decide +kernel
theorem dX3_passMinutes_1 : decode cX3_passMinutes 1 = .ok (.iconst 1, 1) := by decide +kernel
theorem dX3_passMinutes_2 : decode cX3_passMinutes 2 = .ok (.if_icmp .lt 9, 3) := by decide +kernel
theorem dX3_passMinutes_5 : decode cX3_passMinutes 5 = .ok (.iload_n 1, 1) := by decide +kernel
theorem dX3_passMinutes_6 : decode cX3_passMinutes 6 = .ok (.bipush 60, 2) := by decide +kernel
theorem dX3_passMinutes_8 : decode cX3_passMinutes 8 = .ok (.if_icmp .le 6, 3) := by decide +kernel
theorem dX3_passMinutes_11 : decode cX3_passMinutes 11 = .ok (.bipush (-3), 2) := by decide +kernel
theorem dX3_passMinutes_13 : decode cX3_passMinutes 13 = .ok (.ireturn, 1) := by decide +kernel
theorem dX3_passMinutes_14 : decode cX3_passMinutes 14 = .ok (.iconst 0, 1) := by decide +kernel
theorem dX3_passMinutes_15 : decode cX3_passMinutes 15 = .ok (.istore_n 2, 1) := by decide +kernel
theorem dX3_passMinutes_16 : decode cX3_passMinutes 16 = .ok (.iload_n 2, 1) := by decide +kernel
theorem dX3_passMinutes_17 : decode cX3_passMinutes 17 = .ok (.iload_n 1, 1) := by decide +kernel
theorem dX3_passMinutes_18 : decode cX3_passMinutes 18 = .ok (.if_icmp .ge 13, 3) := by decide +kernel
theorem dX3_passMinutes_21 : decode cX3_passMinutes 21 = .ok (.aload_n 0, 1) := by decide +kernel
theorem dX3_passMinutes_22 : decode cX3_passMinutes 22 = .ok (.invokevirtual 80, 3) := by decide +kernel
theorem dX3_passMinutes_25 : decode cX3_passMinutes 25 = .ok (.iinc 2 1, 3) := by decide +kernel
theorem dX3_passMinutes_28 : decode cX3_passMinutes 28 = .ok (.goto (-12), 3) := by decide +kernel
theorem dX3_passMinutes_31 : decode cX3_passMinutes 31 = .ok (.aload_n 0, 1) := by decide +kernel
theorem dX3_passMinutes_32 : decode cX3_passMinutes 32 = .ok (.getfield 12, 3) := by decide +kernel
theorem dX3_passMinutes_35 : decode cX3_passMinutes 35 = .ok (.getfield 83, 3) := by decide +kernel
theorem dX3_passMinutes_38 : decode cX3_passMinutes 38 = .ok (.ireturn, 1) := by decide +kernel
theorem dX3_passMinute_0 : decode cX3_passMinute 0 = .ok (.aload_n 0, 1) := by decide +kernel
theorem dX3_passMinute_1 : decode cX3_passMinute 1 = .ok (.dup, 1) := by decide +kernel
theorem dX3_passMinute_2 : decode cX3_passMinute 2 = .ok (.getfield 40, 3) := by decide +kernel
theorem dX3_passMinute_5 : decode cX3_passMinute 5 = .ok (.iconst 1, 1) := by decide +kernel
theorem dX3_passMinute_6 : decode cX3_passMinute 6 = .ok (.iadd, 1) := by decide +kernel
theorem dX3_passMinute_7 : decode cX3_passMinute 7 = .ok (.putfield 40, 3) := by decide +kernel
theorem dX3_passMinute_10 : decode cX3_passMinute 10 = .ok (.aload_n 0, 1) := by decide +kernel
theorem dX3_passMinute_11 : decode cX3_passMinute 11 = .ok (.getfield 12, 3) := by decide +kernel
theorem dX3_passMinute_14 : decode cX3_passMinute 14 = .ok (.invokevirtual 86, 3) := by decide +kernel
theorem dX3_passMinute_17 : decode cX3_passMinute 17 = .ok (.iconst 0, 1) := by decide +kernel
theorem dX3_passMinute_18 : decode cX3_passMinute 18 = .ok (.istore_n 1, 1) := by decide +kernel
theorem dX3_passMinute_19 : decode cX3_passMinute 19 = .ok (.iload_n 1, 1) := by decide +kernel
theorem dX3_passMinute_20 : decode cX3_passMinute 20 = .ok (.aload_n 0, 1) := by decide +kernel
theorem dX3_passMinute_21 : decode cX3_passMinute 21 = .ok (.getfield 30, 3) := by decide +kernel
theorem dX3_passMinute_24 : decode cX3_passMinute 24 = .ok (.if_icmp .ge 25, 3) := by decide +kernel
theorem dX3_passMinute_27 : decode cX3_passMinute 27 = .ok (.aload_n 0, 1) := by decide +kernel
theorem dX3_passMinute_28 : decode cX3_passMinute 28 = .ok (.getfield 20, 3) := by decide +kernel
theorem dX3_passMinute_31 : decode cX3_passMinute 31 = .ok (.iload_n 1, 1) := by decide +kernel
theorem dX3_passMinute_32 : decode cX3_passMinute 32 = .ok (.aaload, 1) := by decide +kernel
theorem dX3_passMinute_33 : decode cX3_passMinute 33 = .ok (.aload_n 0, 1) := by decide +kernel
theorem dX3_passMinute_34 : decode cX3_passMinute 34 = .ok (.getfield 12, 3) := by decide +kernel
theorem dX3_passMinute_37 : decode cX3_passMinute 37 = .ok (.getfield 83, 3) := by decide +kernel
theorem dX3_passMinute_40 : decode cX3_passMinute 40 = .ok (.invokevirtual 87, 3) := by decide +kernel
theorem dX3_passMinute_43 : decode cX3_passMinute 43 = .ok (.iinc 1 1, 3) := by decide +kernel
theorem dX3_passMinute_46 : decode cX3_passMinute 46 = .ok (.goto (-27), 3) := by decide +kernel
theorem dX3_passMinute_49 : decode cX3_passMinute 49 = .ok (.iconst 0, 1) := by decide +kernel
theorem dX3_passMinute_50 : decode cX3_passMinute 50 = .ok (.istore_n 1, 1) := by decide +kernel
theorem dX3_passMinute_51 : decode cX3_passMinute 51 = .ok (.iload_n 1, 1) := by decide +kernel
theorem dX3_passMinute_52 : decode cX3_passMinute 52 = .ok (.aload_n 0, 1) := by decide +kernel
theorem dX3_passMinute_53 : decode cX3_passMinute 53 = .ok (.getfield 30, 3) := by decide +kernel
theorem dX3_passMinute_56 : decode cX3_passMinute 56 = .ok (.if_icmp .ge 18, 3) := by decide +kernel
theorem dX3_passMinute_59 : decode cX3_passMinute 59 = .ok (.aload_n 0, 1) := by decide +kernel
theorem dX3_passMinute_60 : decode cX3_passMinute 60 = .ok (.getfield 20, 3) := by decide +kernel
theorem dX3_passMinute_63 : decode cX3_passMinute 63 = .ok (.iload_n 1, 1) := by decide +kernel
theorem dX3_passMinute_64 : decode cX3_passMinute 64 = .ok (.aaload, 1) := by decide +kernel
theorem dX3_passMinute_65 : decode cX3_passMinute 65 = .ok (.invokevirtual 91, 3) := by decide +kernel
theorem dX3_passMinute_68 : decode cX3_passMinute 68 = .ok (.iinc 1 1, 3) := by decide +kernel
theorem dX3_passMinute_71 : decode cX3_passMinute 71 = .ok (.goto (-20), 3) := by decide +kernel
theorem dX3_passMinute_74 : decode cX3_passMinute 74 = .ok (.return_, 1) := by decide +kernel
theorem dX3_newPiece_0 : decode cX3_newPiece 0 = .ok (.iload_n 1, 1) := by decide +kernel
theorem dX3_newPiece_1 : decode cX3_newPiece 1 = .ok (.bipush 98, 2) := by decide +kernel
theorem dX3_newPiece_3 : decode cX3_newPiece 3 = .ok (.if_icmp .eq 18, 3) := by decide +kernel
theorem dX3_newPiece_6 : decode cX3_newPiece 6 = .ok (.iload_n 1, 1) := by decide +kernel
theorem dX3_newPiece_7 : decode cX3_newPiece 7 = .ok (.bipush 110, 2) := by decide +kernel
theorem dX3_newPiece_9 : decode cX3_newPiece 9 = .ok (.if_icmp .eq 12, 3) := by decide +kernel
theorem dX3_newPiece_12 : decode cX3_newPiece 12 = .ok (.iload_n 1, 1) := by decide +kernel
theorem dX3_newPiece_13 : decode cX3_newPiece 13 = .ok (.bipush 119, 2) := by decide +kernel
theorem dX3_newPiece_15 : decode cX3_newPiece 15 = .ok (.if_icmp .eq 6, 3) := by decide +kernel
theorem dX3_newPiece_18 : decode cX3_newPiece 18 = .ok (.bipush (-3), 2) := by decide +kernel
theorem dX3_newPiece_20 : decode cX3_newPiece 20 = .ok (.ireturn, 1) := by decide +kernel
theorem dX3_newPiece_21 : decode cX3_newPiece 21 = .ok (.aload_n 0, 1) := by decide +kernel
theorem dX3_newPiece_22 : decode cX3_newPiece 22 = .ok (.getfield 30, 3) := by decide +kernel
theorem dX3_newPiece_25 : decode cX3_newPiece 25 = .ok (.bipush 8, 2) := by decide +kernel
theorem dX3_newPiece_27 : decode cX3_newPiece 27 = .ok (.if_icmp .lt 6, 3) := by decide +kernel
theorem dX3_newPiece_30 : decode cX3_newPiece 30 = .ok (.bipush (-4), 2) := by decide +kernel
theorem dX3_newPiece_32 : decode cX3_newPiece 32 = .ok (.ireturn, 1) := by decide +kernel
theorem dX3_newPiece_33 : decode cX3_newPiece 33 = .ok (.aload_n 0, 1) := by decide +kernel
theorem dX3_newPiece_34 : decode cX3_newPiece 34 = .ok (.dup, 1) := by decide +kernel
theorem dX3_newPiece_35 : decode cX3_newPiece 35 = .ok (.getfield 37, 3) := by decide +kernel
theorem dX3_newPiece_38 : decode cX3_newPiece 38 = .ok (.iconst 1, 1) := by decide +kernel
theorem dX3_newPiece_39 : decode cX3_newPiece 39 = .ok (.iadd, 1) := by decide +kernel
theorem dX3_newPiece_40 : decode cX3_newPiece 40 = .ok (.putfield 37, 3) := by decide +kernel
theorem dX3_newPiece_43 : decode cX3_newPiece 43 = .ok (.aload_n 0, 1) := by decide +kernel
theorem dX3_newPiece_44 : decode cX3_newPiece 44 = .ok (.getfield 20, 3) := by decide +kernel
theorem dX3_newPiece_47 : decode cX3_newPiece 47 = .ok (.aload_n 0, 1) := by decide +kernel
theorem dX3_newPiece_48 : decode cX3_newPiece 48 = .ok (.getfield 30, 3) := by decide +kernel
theorem dX3_newPiece_51 : decode cX3_newPiece 51 = .ok (.aaload, 1) := by decide +kernel
theorem dX3_newPiece_52 : decode cX3_newPiece 52 = .ok (.aload_n 0, 1) := by decide +kernel
theorem dX3_newPiece_53 : decode cX3_newPiece 53 = .ok (.getfield 37, 3) := by decide +kernel
theorem dX3_newPiece_56 : decode cX3_newPiece 56 = .ok (.iload_n 1, 1) := by decide +kernel
theorem dX3_newPiece_57 : decode cX3_newPiece 57 = .ok (.invokevirtual 94, 3) := by decide +kernel
theorem dX3_newPiece_60 : decode cX3_newPiece 60 = .ok (.aload_n 0, 1) := by decide +kernel
theorem dX3_newPiece_61 : decode cX3_newPiece 61 = .ok (.dup, 1) := by decide +kernel
theorem dX3_newPiece_62 : decode cX3_newPiece 62 = .ok (.getfield 30, 3) := by decide +kernel
theorem dX3_newPiece_65 : decode cX3_newPiece 65 = .ok (.iconst 1, 1) := by decide +kernel
theorem dX3_newPiece_66 : decode cX3_newPiece 66 = .ok (.iadd, 1) := by decide +kernel
theorem dX3_newPiece_67 : decode cX3_newPiece 67 = .ok (.putfield 30, 3) := by decide +kernel
theorem dX3_newPiece_70 : decode cX3_newPiece 70 = .ok (.aload_n 0, 1) := by decide +kernel
theorem dX3_newPiece_71 : decode cX3_newPiece 71 = .ok (.getfield 37, 3) := by decide +kernel
theorem dX3_newPiece_74 : decode cX3_newPiece 74 = .ok (.ireturn, 1) := by decide +kernel
theorem dX3_newHammer_0 : decode cX3_newHammer 0 = .ok (.iload_n 1, 1) := by decide +kernel
theorem dX3_newHammer_1 : decode cX3_newHammer 1 = .ok (.iconst 1, 1) := by decide +kernel
theorem dX3_newHammer_2 : decode cX3_newHammer 2 = .ok (.if_icmp .lt 9, 3) := by decide +kernel
theorem dX3_newHammer_5 : decode cX3_newHammer 5 = .ok (.iload_n 1, 1) := by decide +kernel
theorem dX3_newHammer_6 : decode cX3_newHammer 6 = .ok (.bipush 9, 2) := by decide +kernel
theorem dX3_newHammer_8 : decode cX3_newHammer 8 = .ok (.if_icmp .le 6, 3) := by decide +kernel
theorem dX3_newHammer_11 : decode cX3_newHammer 11 = .ok (.bipush (-3), 2) := by decide +kernel
theorem dX3_newHammer_13 : decode cX3_newHammer 13 = .ok (.ireturn, 1) := by decide +kernel
theorem dX3_newHammer_14 : decode cX3_newHammer 14 = .ok (.aload_n 0, 1) := by decide +kernel
theorem dX3_newHammer_15 : decode cX3_newHammer 15 = .ok (.getfield 34, 3) := by decide +kernel
theorem dX3_newHammer_18 : decode cX3_newHammer 18 = .ok (.iconst 4, 1) := by decide +kernel
theorem dX3_newHammer_19 : decode cX3_newHammer 19 = .ok (.if_icmp .lt 6, 3) := by decide +kernel
theorem dX3_newHammer_22 : decode cX3_newHammer 22 = .ok (.bipush (-4), 2) := by decide +kernel
theorem dX3_newHammer_24 : decode cX3_newHammer 24 = .ok (.ireturn, 1) := by decide +kernel
theorem dX3_newHammer_25 : decode cX3_newHammer 25 = .ok (.aload_n 0, 1) := by decide +kernel
theorem dX3_newHammer_26 : decode cX3_newHammer 26 = .ok (.getfield 26, 3) := by decide +kernel
theorem dX3_newHammer_29 : decode cX3_newHammer 29 = .ok (.aload_n 0, 1) := by decide +kernel
theorem dX3_newHammer_30 : decode cX3_newHammer 30 = .ok (.getfield 34, 3) := by decide +kernel
theorem dX3_newHammer_33 : decode cX3_newHammer 33 = .ok (.aaload, 1) := by decide +kernel
theorem dX3_newHammer_34 : decode cX3_newHammer 34 = .ok (.iload_n 1, 1) := by decide +kernel
theorem dX3_newHammer_35 : decode cX3_newHammer 35 = .ok (.invokevirtual 98, 3) := by decide +kernel
theorem dX3_newHammer_38 : decode cX3_newHammer 38 = .ok (.aload_n 0, 1) := by decide +kernel
theorem dX3_newHammer_39 : decode cX3_newHammer 39 = .ok (.dup, 1) := by decide +kernel
theorem dX3_newHammer_40 : decode cX3_newHammer 40 = .ok (.getfield 34, 3) := by decide +kernel
theorem dX3_newHammer_43 : decode cX3_newHammer 43 = .ok (.iconst 1, 1) := by decide +kernel
theorem dX3_newHammer_44 : decode cX3_newHammer 44 = .ok (.iadd, 1) := by decide +kernel
theorem dX3_newHammer_45 : decode cX3_newHammer 45 = .ok (.putfield 34, 3) := by decide +kernel
theorem dX3_newHammer_48 : decode cX3_newHammer 48 = .ok (.aload_n 0, 1) := by decide +kernel
theorem dX3_newHammer_49 : decode cX3_newHammer 49 = .ok (.getfield 34, 3) := by decide +kernel
theorem dX3_newHammer_52 : decode cX3_newHammer 52 = .ok (.iconst 1, 1) := by decide +kernel
theorem dX3_newHammer_53 : decode cX3_newHammer 53 = .ok (.isub, 1) := by decide +kernel
theorem dX3_newHammer_54 : decode cX3_newHammer 54 = .ok (.ireturn, 1) := by decide +kernel
theorem dX3_intoFurnace_0 : decode cX3_intoFurnace 0 = .ok (.aload_n 0, 1) := by decide +kernel
theorem dX3_intoFurnace_1 : decode cX3_intoFurnace 1 = .ok (.iload_n 1, 1) := by decide +kernel
theorem dX3_intoFurnace_2 : decode cX3_intoFurnace 2 = .ok (.invokevirtual 100, 3) := by decide +kernel
theorem dX3_intoFurnace_5 : decode cX3_intoFurnace 5 = .ok (.astore_n 2, 1) := by decide +kernel
theorem dX3_intoFurnace_6 : decode cX3_intoFurnace 6 = .ok (.aload_n 2, 1) := by decide +kernel
theorem dX3_intoFurnace_7 : decode cX3_intoFurnace 7 = .ok (.ifnonnull 5, 3) := by decide +kernel
theorem dX3_intoFurnace_10 : decode cX3_intoFurnace 10 = .ok (.iconst (-1), 1) := by decide +kernel
theorem dX3_intoFurnace_11 : decode cX3_intoFurnace 11 = .ok (.ireturn, 1) := by decide +kernel
theorem dX3_intoFurnace_12 : decode cX3_intoFurnace 12 = .ok (.aload_n 2, 1) := by decide +kernel
theorem dX3_intoFurnace_13 : decode cX3_intoFurnace 13 = .ok (.getfield 104, 3) := by decide +kernel
theorem dX3_intoFurnace_16 : decode cX3_intoFurnace 16 = .ok (.ifCond .ne 11, 3) := by decide +kernel
theorem dX3_intoFurnace_19 : decode cX3_intoFurnace 19 = .ok (.aload_n 0, 1) := by decide +kernel
theorem dX3_intoFurnace_20 : decode cX3_intoFurnace 20 = .ok (.invokevirtual 108, 3) := by decide +kernel
theorem dX3_intoFurnace_23 : decode cX3_intoFurnace 23 = .ok (.iconst 3, 1) := by decide +kernel
theorem dX3_intoFurnace_24 : decode cX3_intoFurnace 24 = .ok (.if_icmp .lt 6, 3) := by decide +kernel
theorem dX3_intoFurnace_27 : decode cX3_intoFurnace 27 = .ok (.bipush (-4), 2) := by decide +kernel
theorem dX3_intoFurnace_29 : decode cX3_intoFurnace 29 = .ok (.ireturn, 1) := by decide +kernel
theorem dX3_intoFurnace_30 : decode cX3_intoFurnace 30 = .ok (.aload_n 2, 1) := by decide +kernel
theorem dX3_intoFurnace_31 : decode cX3_intoFurnace 31 = .ok (.iconst 1, 1) := by decide +kernel
theorem dX3_intoFurnace_32 : decode cX3_intoFurnace 32 = .ok (.putfield 104, 3) := by decide +kernel
theorem dX3_intoFurnace_35 : decode cX3_intoFurnace 35 = .ok (.aload_n 0, 1) := by decide +kernel
theorem dX3_intoFurnace_36 : decode cX3_intoFurnace 36 = .ok (.invokevirtual 108, 3) := by decide +kernel
theorem dX3_intoFurnace_39 : decode cX3_intoFurnace 39 = .ok (.ireturn, 1) := by decide +kernel
theorem dX3_ontoBench_0 : decode cX3_ontoBench 0 = .ok (.aload_n 0, 1) := by decide +kernel
theorem dX3_ontoBench_1 : decode cX3_ontoBench 1 = .ok (.iload_n 1, 1) := by decide +kernel
theorem dX3_ontoBench_2 : decode cX3_ontoBench 2 = .ok (.invokevirtual 100, 3) := by decide +kernel
theorem dX3_ontoBench_5 : decode cX3_ontoBench 5 = .ok (.astore_n 2, 1) := by decide +kernel
theorem dX3_ontoBench_6 : decode cX3_ontoBench 6 = .ok (.aload_n 2, 1) := by decide +kernel
theorem dX3_ontoBench_7 : decode cX3_ontoBench 7 = .ok (.ifnonnull 5, 3) := by decide +kernel
theorem dX3_ontoBench_10 : decode cX3_ontoBench 10 = .ok (.iconst (-1), 1) := by decide +kernel
theorem dX3_ontoBench_11 : decode cX3_ontoBench 11 = .ok (.ireturn, 1) := by decide +kernel
theorem dX3_ontoBench_12 : decode cX3_ontoBench 12 = .ok (.aload_n 2, 1) := by decide +kernel
theorem dX3_ontoBench_13 : decode cX3_ontoBench 13 = .ok (.getfield 104, 3) := by decide +kernel
theorem dX3_ontoBench_16 : decode cX3_ontoBench 16 = .ok (.ifCond .ne 6, 3) := by decide +kernel
theorem dX3_ontoBench_19 : decode cX3_ontoBench 19 = .ok (.bipush (-4), 2) := by decide +kernel
theorem dX3_ontoBench_21 : decode cX3_ontoBench 21 = .ok (.ireturn, 1) := by decide +kernel
theorem dX3_ontoBench_22 : decode cX3_ontoBench 22 = .ok (.aload_n 2, 1) := by decide +kernel
theorem dX3_ontoBench_23 : decode cX3_ontoBench 23 = .ok (.iconst 0, 1) := by decide +kernel
theorem dX3_ontoBench_24 : decode cX3_ontoBench 24 = .ok (.putfield 104, 3) := by decide +kernel
theorem dX3_ontoBench_27 : decode cX3_ontoBench 27 = .ok (.aload_n 2, 1) := by decide +kernel
theorem dX3_ontoBench_28 : decode cX3_ontoBench 28 = .ok (.getfield 112, 3) := by decide +kernel
theorem dX3_ontoBench_31 : decode cX3_ontoBench 31 = .ok (.ireturn, 1) := by decide +kernel
theorem dX3_strike_0 : decode cX3_strike 0 = .ok (.aload_n 0, 1) := by decide +kernel
theorem dX3_strike_1 : decode cX3_strike 1 = .ok (.iload_n 1, 1) := by decide +kernel
theorem dX3_strike_2 : decode cX3_strike 2 = .ok (.invokevirtual 100, 3) := by decide +kernel
theorem dX3_strike_5 : decode cX3_strike 5 = .ok (.astore_n 3, 1) := by decide +kernel
theorem dX3_strike_6 : decode cX3_strike 6 = .ok (.aload_n 3, 1) := by decide +kernel
theorem dX3_strike_7 : decode cX3_strike 7 = .ok (.ifnonnull 5, 3) := by decide +kernel
theorem dX3_strike_10 : decode cX3_strike 10 = .ok (.iconst (-1), 1) := by decide +kernel
theorem dX3_strike_11 : decode cX3_strike 11 = .ok (.ireturn, 1) := by decide +kernel
theorem dX3_strike_12 : decode cX3_strike 12 = .ok (.aload_n 0, 1) := by decide +kernel
theorem dX3_strike_13 : decode cX3_strike 13 = .ok (.iload_n 2, 1) := by decide +kernel
theorem dX3_strike_14 : decode cX3_strike 14 = .ok (.invokevirtual 113, 3) := by decide +kernel
theorem dX3_strike_17 : decode cX3_strike 17 = .ok (.astore 4, 2) := by decide +kernel
theorem dX3_strike_19 : decode cX3_strike 19 = .ok (.aload 4, 2) := by decide +kernel
theorem dX3_strike_21 : decode cX3_strike 21 = .ok (.ifnonnull 6, 3) := by decide +kernel
theorem dX3_strike_24 : decode cX3_strike 24 = .ok (.bipush (-2), 2) := by decide +kernel
theorem dX3_strike_26 : decode cX3_strike 26 = .ok (.ireturn, 1) := by decide +kernel
theorem dX3_strike_27 : decode cX3_strike 27 = .ok (.aload_n 3, 1) := by decide +kernel
theorem dX3_strike_28 : decode cX3_strike 28 = .ok (.getfield 104, 3) := by decide +kernel
theorem dX3_strike_31 : decode cX3_strike 31 = .ok (.ifCond .ne 27, 3) := by decide +kernel
theorem dX3_strike_34 : decode cX3_strike 34 = .ok (.aload_n 3, 1) := by decide +kernel
theorem dX3_strike_35 : decode cX3_strike 35 = .ok (.getfield 117, 3) := by decide +kernel
theorem dX3_strike_38 : decode cX3_strike 38 = .ok (.ifCond .ne 20, 3) := by decide +kernel
theorem dX3_strike_41 : decode cX3_strike 41 = .ok (.aload_n 3, 1) := by decide +kernel
theorem dX3_strike_42 : decode cX3_strike 42 = .ok (.getfield 120, 3) := by decide +kernel
theorem dX3_strike_45 : decode cX3_strike 45 = .ok (.bipush 10, 2) := by decide +kernel
theorem dX3_strike_47 : decode cX3_strike 47 = .ok (.if_icmp .ge 11, 3) := by decide +kernel
theorem dX3_strike_50 : decode cX3_strike 50 = .ok (.aload 4, 2) := by decide +kernel
theorem dX3_strike_52 : decode cX3_strike 52 = .ok (.invokevirtual 123, 3) := by decide +kernel
theorem dX3_strike_55 : decode cX3_strike 55 = .ok (.ifCond .eq 6, 3) := by decide +kernel
theorem dX3_strike_58 : decode cX3_strike 58 = .ok (.bipush (-4), 2) := by decide +kernel
theorem dX3_strike_60 : decode cX3_strike 60 = .ok (.ireturn, 1) := by decide +kernel
theorem dX3_strike_61 : decode cX3_strike 61 = .ok (.aload_n 3, 1) := by decide +kernel
theorem dX3_strike_62 : decode cX3_strike 62 = .ok (.getfield 112, 3) := by decide +kernel
theorem dX3_strike_65 : decode cX3_strike 65 = .ok (.sipush 600, 3) := by decide +kernel
theorem dX3_strike_68 : decode cX3_strike 68 = .ok (.if_icmp .lt 13, 3) := by decide +kernel
theorem dX3_strike_71 : decode cX3_strike 71 = .ok (.aload_n 3, 1) := by decide +kernel
theorem dX3_strike_72 : decode cX3_strike 72 = .ok (.getfield 112, 3) := by decide +kernel
theorem dX3_strike_75 : decode cX3_strike 75 = .ok (.sipush 1100, 3) := by decide +kernel
theorem dX3_strike_78 : decode cX3_strike 78 = .ok (.if_icmp .le 6, 3) := by decide +kernel
theorem dX3_strike_81 : decode cX3_strike 81 = .ok (.bipush (-5), 2) := by decide +kernel
theorem dX3_strike_83 : decode cX3_strike 83 = .ok (.ireturn, 1) := by decide +kernel
theorem dX3_strike_84 : decode cX3_strike 84 = .ok (.aload_n 3, 1) := by decide +kernel
theorem dX3_strike_85 : decode cX3_strike 85 = .ok (.dup, 1) := by decide +kernel
theorem dX3_strike_86 : decode cX3_strike 86 = .ok (.getfield 120, 3) := by decide +kernel
theorem dX3_strike_89 : decode cX3_strike 89 = .ok (.aload_n 3, 1) := by decide +kernel
theorem dX3_strike_90 : decode cX3_strike 90 = .ok (.aload 4, 2) := by decide +kernel
theorem dX3_strike_92 : decode cX3_strike 92 = .ok (.getfield 127, 3) := by decide +kernel
theorem dX3_strike_95 : decode cX3_strike 95 = .ok (.invokevirtual 130, 3) := by decide +kernel
theorem dX3_strike_98 : decode cX3_strike 98 = .ok (.iadd, 1) := by decide +kernel
theorem dX3_strike_99 : decode cX3_strike 99 = .ok (.putfield 120, 3) := by decide +kernel
theorem dX3_strike_102 : decode cX3_strike 102 = .ok (.aload_n 3, 1) := by decide +kernel
theorem dX3_strike_103 : decode cX3_strike 103 = .ok (.iconst 2, 1) := by decide +kernel
theorem dX3_strike_104 : decode cX3_strike 104 = .ok (.invokevirtual 134, 3) := by decide +kernel
theorem dX3_strike_107 : decode cX3_strike 107 = .ok (.aload 4, 2) := by decide +kernel
theorem dX3_strike_109 : decode cX3_strike 109 = .ok (.dup, 1) := by decide +kernel
theorem dX3_strike_110 : decode cX3_strike 110 = .ok (.getfield 137, 3) := by decide +kernel
theorem dX3_strike_113 : decode cX3_strike 113 = .ok (.iconst 1, 1) := by decide +kernel
theorem dX3_strike_114 : decode cX3_strike 114 = .ok (.iadd, 1) := by decide +kernel
theorem dX3_strike_115 : decode cX3_strike 115 = .ok (.putfield 137, 3) := by decide +kernel
theorem dX3_strike_118 : decode cX3_strike 118 = .ok (.aload_n 0, 1) := by decide +kernel
theorem dX3_strike_119 : decode cX3_strike 119 = .ok (.dup, 1) := by decide +kernel
theorem dX3_strike_120 : decode cX3_strike 120 = .ok (.getfield 43, 3) := by decide +kernel
theorem dX3_strike_123 : decode cX3_strike 123 = .ok (.iconst 1, 1) := by decide +kernel
theorem dX3_strike_124 : decode cX3_strike 124 = .ok (.iadd, 1) := by decide +kernel
theorem dX3_strike_125 : decode cX3_strike 125 = .ok (.putfield 43, 3) := by decide +kernel
theorem dX3_strike_128 : decode cX3_strike 128 = .ok (.aload_n 3, 1) := by decide +kernel
theorem dX3_strike_129 : decode cX3_strike 129 = .ok (.getfield 120, 3) := by decide +kernel
theorem dX3_strike_132 : decode cX3_strike 132 = .ok (.ireturn, 1) := by decide +kernel
theorem dX3_chill_0 : decode cX3_chill 0 = .ok (.aload_n 0, 1) := by decide +kernel
theorem dX3_chill_1 : decode cX3_chill 1 = .ok (.iload_n 1, 1) := by decide +kernel
theorem dX3_chill_2 : decode cX3_chill 2 = .ok (.invokevirtual 100, 3) := by decide +kernel
theorem dX3_chill_5 : decode cX3_chill 5 = .ok (.astore_n 2, 1) := by decide +kernel
theorem dX3_chill_6 : decode cX3_chill 6 = .ok (.aload_n 2, 1) := by decide +kernel
theorem dX3_chill_7 : decode cX3_chill 7 = .ok (.ifnonnull 5, 3) := by decide +kernel
theorem dX3_chill_10 : decode cX3_chill 10 = .ok (.iconst (-1), 1) := by decide +kernel
theorem dX3_chill_11 : decode cX3_chill 11 = .ok (.ireturn, 1) := by decide +kernel
theorem dX3_chill_12 : decode cX3_chill 12 = .ok (.aload_n 2, 1) := by decide +kernel
theorem dX3_chill_13 : decode cX3_chill 13 = .ok (.getfield 104, 3) := by decide +kernel
theorem dX3_chill_16 : decode cX3_chill 16 = .ok (.ifCond .ne 10, 3) := by decide +kernel
theorem dX3_chill_19 : decode cX3_chill 19 = .ok (.aload_n 2, 1) := by decide +kernel
theorem dX3_chill_20 : decode cX3_chill 20 = .ok (.getfield 117, 3) := by decide +kernel
theorem dX3_chill_23 : decode cX3_chill 23 = .ok (.ifCond .eq 6, 3) := by decide +kernel
theorem dX3_chill_26 : decode cX3_chill 26 = .ok (.bipush (-4), 2) := by decide +kernel
theorem dX3_chill_28 : decode cX3_chill 28 = .ok (.ireturn, 1) := by decide +kernel
theorem dX3_chill_29 : decode cX3_chill 29 = .ok (.aload_n 2, 1) := by decide +kernel
theorem dX3_chill_30 : decode cX3_chill 30 = .ok (.getfield 112, 3) := by decide +kernel
theorem dX3_chill_33 : decode cX3_chill 33 = .ok (.sipush 700, 3) := by decide +kernel
theorem dX3_chill_36 : decode cX3_chill 36 = .ok (.if_icmp .ge 6, 3) := by decide +kernel
theorem dX3_chill_39 : decode cX3_chill 39 = .ok (.bipush (-5), 2) := by decide +kernel
theorem dX3_chill_41 : decode cX3_chill 41 = .ok (.ireturn, 1) := by decide +kernel
theorem dX3_chill_42 : decode cX3_chill 42 = .ok (.aload_n 2, 1) := by decide +kernel
theorem dX3_chill_43 : decode cX3_chill 43 = .ok (.aload_n 2, 1) := by decide +kernel
theorem dX3_chill_44 : decode cX3_chill 44 = .ok (.getfield 112, 3) := by decide +kernel
theorem dX3_chill_47 : decode cX3_chill 47 = .ok (.sipush 600, 3) := by decide +kernel
theorem dX3_chill_50 : decode cX3_chill 50 = .ok (.isub, 1) := by decide +kernel
theorem dX3_chill_51 : decode cX3_chill 51 = .ok (.bipush 8, 2) := by decide +kernel
theorem dX3_chill_53 : decode cX3_chill 53 = .ok (.idiv, 1) := by decide +kernel
theorem dX3_chill_54 : decode cX3_chill 54 = .ok (.invokevirtual 134, 3) := by decide +kernel
theorem dX3_chill_57 : decode cX3_chill 57 = .ok (.aload_n 2, 1) := by decide +kernel
theorem dX3_chill_58 : decode cX3_chill 58 = .ok (.bipush 20, 2) := by decide +kernel
theorem dX3_chill_60 : decode cX3_chill 60 = .ok (.putfield 112, 3) := by decide +kernel
theorem dX3_chill_63 : decode cX3_chill 63 = .ok (.aload_n 2, 1) := by decide +kernel
theorem dX3_chill_64 : decode cX3_chill 64 = .ok (.iconst 1, 1) := by decide +kernel
theorem dX3_chill_65 : decode cX3_chill 65 = .ok (.putfield 117, 3) := by decide +kernel
theorem dX3_chill_68 : decode cX3_chill 68 = .ok (.aload_n 2, 1) := by decide +kernel
theorem dX3_chill_69 : decode cX3_chill 69 = .ok (.getfield 140, 3) := by decide +kernel
theorem dX3_chill_72 : decode cX3_chill 72 = .ok (.ireturn, 1) := by decide +kernel
theorem dX3_examine_0 : decode cX3_examine 0 = .ok (.aload_n 0, 1) := by decide +kernel
theorem dX3_examine_1 : decode cX3_examine 1 = .ok (.iload_n 1, 1) := by decide +kernel
theorem dX3_examine_2 : decode cX3_examine 2 = .ok (.invokevirtual 100, 3) := by decide +kernel
theorem dX3_examine_5 : decode cX3_examine 5 = .ok (.astore_n 2, 1) := by decide +kernel
theorem dX3_examine_6 : decode cX3_examine 6 = .ok (.aload_n 2, 1) := by decide +kernel
theorem dX3_examine_7 : decode cX3_examine 7 = .ok (.ifnonnull 5, 3) := by decide +kernel
theorem dX3_examine_10 : decode cX3_examine 10 = .ok (.iconst (-1), 1) := by decide +kernel
theorem dX3_examine_11 : decode cX3_examine 11 = .ok (.ireturn, 1) := by decide +kernel
theorem dX3_examine_12 : decode cX3_examine 12 = .ok (.aload_n 2, 1) := by decide +kernel
theorem dX3_examine_13 : decode cX3_examine 13 = .ok (.getfield 104, 3) := by decide +kernel
theorem dX3_examine_16 : decode cX3_examine 16 = .ok (.ifCond .ne 20, 3) := by decide +kernel
theorem dX3_examine_19 : decode cX3_examine 19 = .ok (.aload_n 2, 1) := by decide +kernel
theorem dX3_examine_20 : decode cX3_examine 20 = .ok (.getfield 117, 3) := by decide +kernel
theorem dX3_examine_23 : decode cX3_examine 23 = .ok (.ifCond .eq 13, 3) := by decide +kernel
theorem dX3_examine_26 : decode cX3_examine 26 = .ok (.aload_n 2, 1) := by decide +kernel
theorem dX3_examine_27 : decode cX3_examine 27 = .ok (.getfield 143, 3) := by decide +kernel
theorem dX3_examine_30 : decode cX3_examine 30 = .ok (.getstatic 147, 3) := by decide +kernel
theorem dX3_examine_33 : decode cX3_examine 33 = .ok (.if_acmp .eq 6, 3) := by decide +kernel
theorem dX3_examine_36 : decode cX3_examine 36 = .ok (.bipush (-4), 2) := by decide +kernel
theorem dX3_examine_38 : decode cX3_examine 38 = .ok (.ireturn, 1) := by decide +kernel
theorem dX3_examine_39 : decode cX3_examine 39 = .ok (.aload_n 2, 1) := by decide +kernel
theorem dX3_examine_40 : decode cX3_examine 40 = .ok (.getfield 112, 3) := by decide +kernel
theorem dX3_examine_43 : decode cX3_examine 43 = .ok (.bipush 60, 2) := by decide +kernel
theorem dX3_examine_45 : decode cX3_examine 45 = .ok (.if_icmp .le 6, 3) := by decide +kernel
theorem dX3_examine_48 : decode cX3_examine 48 = .ok (.bipush (-5), 2) := by decide +kernel
theorem dX3_examine_50 : decode cX3_examine 50 = .ok (.ireturn, 1) := by decide +kernel
theorem dX3_examine_51 : decode cX3_examine 51 = .ok (.aload_n 0, 1) := by decide +kernel
theorem dX3_examine_52 : decode cX3_examine 52 = .ok (.dup, 1) := by decide +kernel
theorem dX3_examine_53 : decode cX3_examine 53 = .ok (.getfield 49, 3) := by decide +kernel
theorem dX3_examine_56 : decode cX3_examine 56 = .ok (.iconst 1, 1) := by decide +kernel
theorem dX3_examine_57 : decode cX3_examine 57 = .ok (.iadd, 1) := by decide +kernel
theorem dX3_examine_58 : decode cX3_examine 58 = .ok (.putfield 49, 3) := by decide +kernel
theorem dX3_examine_61 : decode cX3_examine 61 = .ok (.aload_n 2, 1) := by decide +kernel
theorem dX3_examine_62 : decode cX3_examine 62 = .ok (.invokevirtual 152, 3) := by decide +kernel
theorem dX3_examine_65 : decode cX3_examine 65 = .ok (.ifCond .ne 12, 3) := by decide +kernel
theorem dX3_examine_68 : decode cX3_examine 68 = .ok (.aload_n 2, 1) := by decide +kernel
theorem dX3_examine_69 : decode cX3_examine 69 = .ok (.getstatic 155, 3) := by decide +kernel
theorem dX3_examine_72 : decode cX3_examine 72 = .ok (.putfield 143, 3) := by decide +kernel
theorem dX3_examine_75 : decode cX3_examine 75 = .ok (.iconst 0, 1) := by decide +kernel
theorem dX3_examine_76 : decode cX3_examine 76 = .ok (.ireturn, 1) := by decide +kernel
theorem dX3_examine_77 : decode cX3_examine 77 = .ok (.aload_n 2, 1) := by decide +kernel
theorem dX3_examine_78 : decode cX3_examine 78 = .ok (.getstatic 158, 3) := by decide +kernel
theorem dX3_examine_81 : decode cX3_examine 81 = .ok (.putfield 143, 3) := by decide +kernel
theorem dX3_examine_84 : decode cX3_examine 84 = .ok (.aload_n 0, 1) := by decide +kernel
theorem dX3_examine_85 : decode cX3_examine 85 = .ok (.dup, 1) := by decide +kernel
theorem dX3_examine_86 : decode cX3_examine 86 = .ok (.getfield 52, 3) := by decide +kernel
theorem dX3_examine_89 : decode cX3_examine 89 = .ok (.iconst 1, 1) := by decide +kernel
theorem dX3_examine_90 : decode cX3_examine 90 = .ok (.iadd, 1) := by decide +kernel
theorem dX3_examine_91 : decode cX3_examine 91 = .ok (.putfield 52, 3) := by decide +kernel
theorem dX3_examine_94 : decode cX3_examine 94 = .ok (.iconst 1, 1) := by decide +kernel
theorem dX3_examine_95 : decode cX3_examine 95 = .ok (.ireturn, 1) := by decide +kernel
theorem dX3_join_0 : decode cX3_join 0 = .ok (.aload_n 0, 1) := by decide +kernel
theorem dX3_join_1 : decode cX3_join 1 = .ok (.iload_n 1, 1) := by decide +kernel
theorem dX3_join_2 : decode cX3_join 2 = .ok (.invokevirtual 100, 3) := by decide +kernel
theorem dX3_join_5 : decode cX3_join 5 = .ok (.astore 5, 2) := by decide +kernel
theorem dX3_join_7 : decode cX3_join 7 = .ok (.aload_n 0, 1) := by decide +kernel
theorem dX3_join_8 : decode cX3_join 8 = .ok (.iload_n 2, 1) := by decide +kernel
theorem dX3_join_9 : decode cX3_join 9 = .ok (.invokevirtual 100, 3) := by decide +kernel
theorem dX3_join_12 : decode cX3_join 12 = .ok (.astore 6, 2) := by decide +kernel
theorem dX3_join_14 : decode cX3_join 14 = .ok (.aload_n 0, 1) := by decide +kernel
theorem dX3_join_15 : decode cX3_join 15 = .ok (.iload_n 3, 1) := by decide +kernel
theorem dX3_join_16 : decode cX3_join 16 = .ok (.invokevirtual 100, 3) := by decide +kernel
theorem dX3_join_19 : decode cX3_join 19 = .ok (.astore 7, 2) := by decide +kernel
theorem dX3_join_21 : decode cX3_join 21 = .ok (.aload_n 0, 1) := by decide +kernel
theorem dX3_join_22 : decode cX3_join 22 = .ok (.iload 4, 2) := by decide +kernel
theorem dX3_join_24 : decode cX3_join 24 = .ok (.invokevirtual 100, 3) := by decide +kernel
theorem dX3_join_27 : decode cX3_join 27 = .ok (.astore 8, 2) := by decide +kernel
theorem dX3_join_29 : decode cX3_join 29 = .ok (.aload 5, 2) := by decide +kernel
theorem dX3_join_31 : decode cX3_join 31 = .ok (.ifnull 18, 3) := by decide +kernel
theorem dX3_join_34 : decode cX3_join 34 = .ok (.aload 6, 2) := by decide +kernel
theorem dX3_join_36 : decode cX3_join 36 = .ok (.ifnull 13, 3) := by decide +kernel
theorem dX3_join_39 : decode cX3_join 39 = .ok (.aload 7, 2) := by decide +kernel
theorem dX3_join_41 : decode cX3_join 41 = .ok (.ifnull 8, 3) := by decide +kernel
theorem dX3_join_44 : decode cX3_join 44 = .ok (.aload 8, 2) := by decide +kernel
theorem dX3_join_46 : decode cX3_join 46 = .ok (.ifnonnull 5, 3) := by decide +kernel
theorem dX3_join_49 : decode cX3_join 49 = .ok (.iconst (-1), 1) := by decide +kernel
theorem dX3_join_50 : decode cX3_join 50 = .ok (.ireturn, 1) := by decide +kernel
theorem dX3_join_51 : decode cX3_join 51 = .ok (.aload 5, 2) := by decide +kernel
theorem dX3_join_53 : decode cX3_join 53 = .ok (.getfield 161, 3) := by decide +kernel
theorem dX3_join_56 : decode cX3_join 56 = .ok (.bipush 98, 2) := by decide +kernel
theorem dX3_join_58 : decode cX3_join 58 = .ok (.if_icmp .ne 40, 3) := by decide +kernel
theorem dX3_join_61 : decode cX3_join 61 = .ok (.aload 6, 2) := by decide +kernel
theorem dX3_join_63 : decode cX3_join 63 = .ok (.getfield 161, 3) := by decide +kernel
theorem dX3_join_66 : decode cX3_join 66 = .ok (.bipush 110, 2) := by decide +kernel
theorem dX3_join_68 : decode cX3_join 68 = .ok (.if_icmp .ne 30, 3) := by decide +kernel
theorem dX3_join_71 : decode cX3_join 71 = .ok (.aload 7, 2) := by decide +kernel
theorem dX3_join_73 : decode cX3_join 73 = .ok (.getfield 161, 3) := by decide +kernel
theorem dX3_join_76 : decode cX3_join 76 = .ok (.bipush 119, 2) := by decide +kernel
theorem dX3_join_78 : decode cX3_join 78 = .ok (.if_icmp .ne 20, 3) := by decide +kernel
theorem dX3_join_81 : decode cX3_join 81 = .ok (.aload 8, 2) := by decide +kernel
theorem dX3_join_83 : decode cX3_join 83 = .ok (.getfield 161, 3) := by decide +kernel
theorem dX3_join_86 : decode cX3_join 86 = .ok (.bipush 119, 2) := by decide +kernel
theorem dX3_join_88 : decode cX3_join 88 = .ok (.if_icmp .ne 10, 3) := by decide +kernel
theorem dX3_join_91 : decode cX3_join 91 = .ok (.aload 7, 2) := by decide +kernel
theorem dX3_join_93 : decode cX3_join 93 = .ok (.aload 8, 2) := by decide +kernel
theorem dX3_join_95 : decode cX3_join 95 = .ok (.if_acmp .ne 6, 3) := by decide +kernel
theorem dX3_join_98 : decode cX3_join 98 = .ok (.bipush (-3), 2) := by decide +kernel
theorem dX3_join_100 : decode cX3_join 100 = .ok (.ireturn, 1) := by decide +kernel
theorem dX3_join_101 : decode cX3_join 101 = .ok (.aload 5, 2) := by decide +kernel
theorem dX3_join_103 : decode cX3_join 103 = .ok (.invokevirtual 165, 3) := by decide +kernel
theorem dX3_join_106 : decode cX3_join 106 = .ok (.ifCond .eq 27, 3) := by decide +kernel
theorem dX3_join_109 : decode cX3_join 109 = .ok (.aload 6, 2) := by decide +kernel
theorem dX3_join_111 : decode cX3_join 111 = .ok (.invokevirtual 165, 3) := by decide +kernel
theorem dX3_join_114 : decode cX3_join 114 = .ok (.ifCond .eq 19, 3) := by decide +kernel
theorem dX3_join_117 : decode cX3_join 117 = .ok (.aload 7, 2) := by decide +kernel
theorem dX3_join_119 : decode cX3_join 119 = .ok (.invokevirtual 165, 3) := by decide +kernel
theorem dX3_join_122 : decode cX3_join 122 = .ok (.ifCond .eq 11, 3) := by decide +kernel
theorem dX3_join_125 : decode cX3_join 125 = .ok (.aload 8, 2) := by decide +kernel
theorem dX3_join_127 : decode cX3_join 127 = .ok (.invokevirtual 165, 3) := by decide +kernel
theorem dX3_join_130 : decode cX3_join 130 = .ok (.ifCond .ne 6, 3) := by decide +kernel
theorem dX3_join_133 : decode cX3_join 133 = .ok (.bipush (-4), 2) := by decide +kernel
theorem dX3_join_135 : decode cX3_join 135 = .ok (.ireturn, 1) := by decide +kernel
theorem dX3_join_136 : decode cX3_join 136 = .ok (.aload_n 0, 1) := by decide +kernel
theorem dX3_join_137 : decode cX3_join 137 = .ok (.iload_n 1, 1) := by decide +kernel
theorem dX3_join_138 : decode cX3_join 138 = .ok (.invokevirtual 168, 3) := by decide +kernel
theorem dX3_join_141 : decode cX3_join 141 = .ok (.aload_n 0, 1) := by decide +kernel
theorem dX3_join_142 : decode cX3_join 142 = .ok (.iload_n 2, 1) := by decide +kernel
theorem dX3_join_143 : decode cX3_join 143 = .ok (.invokevirtual 168, 3) := by decide +kernel
theorem dX3_join_146 : decode cX3_join 146 = .ok (.aload_n 0, 1) := by decide +kernel
theorem dX3_join_147 : decode cX3_join 147 = .ok (.iload_n 3, 1) := by decide +kernel
theorem dX3_join_148 : decode cX3_join 148 = .ok (.invokevirtual 168, 3) := by decide +kernel
theorem dX3_join_151 : decode cX3_join 151 = .ok (.aload_n 0, 1) := by decide +kernel
theorem dX3_join_152 : decode cX3_join 152 = .ok (.iload 4, 2) := by decide +kernel
theorem dX3_join_154 : decode cX3_join 154 = .ok (.invokevirtual 168, 3) := by decide +kernel
theorem dX3_join_157 : decode cX3_join 157 = .ok (.aload_n 0, 1) := by decide +kernel
theorem dX3_join_158 : decode cX3_join 158 = .ok (.dup, 1) := by decide +kernel
theorem dX3_join_159 : decode cX3_join 159 = .ok (.getfield 46, 3) := by decide +kernel
theorem dX3_join_162 : decode cX3_join 162 = .ok (.iconst 1, 1) := by decide +kernel
theorem dX3_join_163 : decode cX3_join 163 = .ok (.iadd, 1) := by decide +kernel
theorem dX3_join_164 : decode cX3_join 164 = .ok (.putfield 46, 3) := by decide +kernel
theorem dX3_join_167 : decode cX3_join 167 = .ok (.aload_n 0, 1) := by decide +kernel
theorem dX3_join_168 : decode cX3_join 168 = .ok (.getfield 46, 3) := by decide +kernel
theorem dX3_join_171 : decode cX3_join 171 = .ok (.ireturn, 1) := by decide +kernel
theorem dX3_throwAway_0 : decode cX3_throwAway 0 = .ok (.aload_n 0, 1) := by decide +kernel
theorem dX3_throwAway_1 : decode cX3_throwAway 1 = .ok (.iload_n 1, 1) := by decide +kernel
theorem dX3_throwAway_2 : decode cX3_throwAway 2 = .ok (.invokevirtual 100, 3) := by decide +kernel
theorem dX3_throwAway_5 : decode cX3_throwAway 5 = .ok (.ifnonnull 5, 3) := by decide +kernel
theorem dX3_throwAway_8 : decode cX3_throwAway 8 = .ok (.iconst (-1), 1) := by decide +kernel
theorem dX3_throwAway_9 : decode cX3_throwAway 9 = .ok (.ireturn, 1) := by decide +kernel
theorem dX3_throwAway_10 : decode cX3_throwAway 10 = .ok (.aload_n 0, 1) := by decide +kernel
theorem dX3_throwAway_11 : decode cX3_throwAway 11 = .ok (.iload_n 1, 1) := by decide +kernel
theorem dX3_throwAway_12 : decode cX3_throwAway 12 = .ok (.invokevirtual 168, 3) := by decide +kernel
theorem dX3_throwAway_15 : decode cX3_throwAway 15 = .ok (.aload_n 0, 1) := by decide +kernel
theorem dX3_throwAway_16 : decode cX3_throwAway 16 = .ok (.getfield 30, 3) := by decide +kernel
theorem dX3_throwAway_19 : decode cX3_throwAway 19 = .ok (.ireturn, 1) := by decide +kernel
theorem dX3_remove_0 : decode cX3_remove 0 = .ok (.iconst 0, 1) := by decide +kernel
theorem dX3_remove_1 : decode cX3_remove 1 = .ok (.istore_n 2, 1) := by decide +kernel
theorem dX3_remove_2 : decode cX3_remove 2 = .ok (.iconst 0, 1) := by decide +kernel
theorem dX3_remove_3 : decode cX3_remove 3 = .ok (.istore_n 3, 1) := by decide +kernel
theorem dX3_remove_4 : decode cX3_remove 4 = .ok (.iload_n 3, 1) := by decide +kernel
theorem dX3_remove_5 : decode cX3_remove 5 = .ok (.aload_n 0, 1) := by decide +kernel
theorem dX3_remove_6 : decode cX3_remove 6 = .ok (.getfield 30, 3) := by decide +kernel
theorem dX3_remove_9 : decode cX3_remove 9 = .ok (.if_icmp .ge 49, 3) := by decide +kernel
theorem dX3_remove_12 : decode cX3_remove 12 = .ok (.aload_n 0, 1) := by decide +kernel
theorem dX3_remove_13 : decode cX3_remove 13 = .ok (.getfield 20, 3) := by decide +kernel
theorem dX3_remove_16 : decode cX3_remove 16 = .ok (.iload_n 3, 1) := by decide +kernel
theorem dX3_remove_17 : decode cX3_remove 17 = .ok (.aaload, 1) := by decide +kernel
theorem dX3_remove_18 : decode cX3_remove 18 = .ok (.astore 4, 2) := by decide +kernel
theorem dX3_remove_20 : decode cX3_remove 20 = .ok (.aload 4, 2) := by decide +kernel
theorem dX3_remove_22 : decode cX3_remove 22 = .ok (.getfield 71, 3) := by decide +kernel
theorem dX3_remove_25 : decode cX3_remove 25 = .ok (.iload_n 1, 1) := by decide +kernel
theorem dX3_remove_26 : decode cX3_remove 26 = .ok (.if_icmp .eq 26, 3) := by decide +kernel
theorem dX3_remove_29 : decode cX3_remove 29 = .ok (.aload_n 0, 1) := by decide +kernel
theorem dX3_remove_30 : decode cX3_remove 30 = .ok (.getfield 20, 3) := by decide +kernel
theorem dX3_remove_33 : decode cX3_remove 33 = .ok (.iload_n 3, 1) := by decide +kernel
theorem dX3_remove_34 : decode cX3_remove 34 = .ok (.aload_n 0, 1) := by decide +kernel
theorem dX3_remove_35 : decode cX3_remove 35 = .ok (.getfield 20, 3) := by decide +kernel
theorem dX3_remove_38 : decode cX3_remove 38 = .ok (.iload_n 2, 1) := by decide +kernel
theorem dX3_remove_39 : decode cX3_remove 39 = .ok (.aaload, 1) := by decide +kernel
theorem dX3_remove_40 : decode cX3_remove 40 = .ok (.aastore, 1) := by decide +kernel
theorem dX3_remove_41 : decode cX3_remove 41 = .ok (.aload_n 0, 1) := by decide +kernel
theorem dX3_remove_42 : decode cX3_remove 42 = .ok (.getfield 20, 3) := by decide +kernel
theorem dX3_remove_45 : decode cX3_remove 45 = .ok (.iload_n 2, 1) := by decide +kernel
theorem dX3_remove_46 : decode cX3_remove 46 = .ok (.aload 4, 2) := by decide +kernel
theorem dX3_remove_48 : decode cX3_remove 48 = .ok (.aastore, 1) := by decide +kernel
theorem dX3_remove_49 : decode cX3_remove 49 = .ok (.iinc 2 1, 3) := by decide +kernel
theorem dX3_remove_52 : decode cX3_remove 52 = .ok (.iinc 3 1, 3) := by decide +kernel
theorem dX3_remove_55 : decode cX3_remove 55 = .ok (.goto (-51), 3) := by decide +kernel
theorem dX3_remove_58 : decode cX3_remove 58 = .ok (.aload_n 0, 1) := by decide +kernel
theorem dX3_remove_59 : decode cX3_remove 59 = .ok (.iload_n 2, 1) := by decide +kernel
theorem dX3_remove_60 : decode cX3_remove 60 = .ok (.putfield 30, 3) := by decide +kernel
theorem dX3_remove_63 : decode cX3_remove 63 = .ok (.return_, 1) := by decide +kernel
theorem dX3_countInFurnace_0 : decode cX3_countInFurnace 0 = .ok (.iconst 0, 1) := by decide +kernel
theorem dX3_countInFurnace_1 : decode cX3_countInFurnace 1 = .ok (.istore_n 1, 1) := by decide +kernel
theorem dX3_countInFurnace_2 : decode cX3_countInFurnace 2 = .ok (.iconst 0, 1) := by decide +kernel
theorem dX3_countInFurnace_3 : decode cX3_countInFurnace 3 = .ok (.istore_n 2, 1) := by decide +kernel
theorem dX3_countInFurnace_4 : decode cX3_countInFurnace 4 = .ok (.iload_n 2, 1) := by decide +kernel
theorem dX3_countInFurnace_5 : decode cX3_countInFurnace 5 = .ok (.aload_n 0, 1) := by decide +kernel
theorem dX3_countInFurnace_6 : decode cX3_countInFurnace 6 = .ok (.getfield 30, 3) := by decide +kernel
theorem dX3_countInFurnace_9 : decode cX3_countInFurnace 9 = .ok (.if_icmp .ge 24, 3) := by decide +kernel
theorem dX3_countInFurnace_12 : decode cX3_countInFurnace 12 = .ok (.aload_n 0, 1) := by decide +kernel
theorem dX3_countInFurnace_13 : decode cX3_countInFurnace 13 = .ok (.getfield 20, 3) := by decide +kernel
theorem dX3_countInFurnace_16 : decode cX3_countInFurnace 16 = .ok (.iload_n 2, 1) := by decide +kernel
theorem dX3_countInFurnace_17 : decode cX3_countInFurnace 17 = .ok (.aaload, 1) := by decide +kernel
theorem dX3_countInFurnace_18 : decode cX3_countInFurnace 18 = .ok (.getfield 104, 3) := by decide +kernel
theorem dX3_countInFurnace_21 : decode cX3_countInFurnace 21 = .ok (.ifCond .eq 6, 3) := by decide +kernel
theorem dX3_countInFurnace_24 : decode cX3_countInFurnace 24 = .ok (.iinc 1 1, 3) := by decide +kernel
theorem dX3_countInFurnace_27 : decode cX3_countInFurnace 27 = .ok (.iinc 2 1, 3) := by decide +kernel
theorem dX3_countInFurnace_30 : decode cX3_countInFurnace 30 = .ok (.goto (-26), 3) := by decide +kernel
theorem dX3_countInFurnace_33 : decode cX3_countInFurnace 33 = .ok (.iload_n 1, 1) := by decide +kernel
theorem dX3_countInFurnace_34 : decode cX3_countInFurnace 34 = .ok (.ireturn, 1) := by decide +kernel
theorem dX3_pieceRanked_0 : decode cX3_pieceRanked 0 = .ok (.iconst 0, 1) := by decide +kernel
theorem dX3_pieceRanked_1 : decode cX3_pieceRanked 1 = .ok (.istore_n 2, 1) := by decide +kernel
theorem dX3_pieceRanked_2 : decode cX3_pieceRanked 2 = .ok (.iload_n 2, 1) := by decide +kernel
theorem dX3_pieceRanked_3 : decode cX3_pieceRanked 3 = .ok (.aload_n 0, 1) := by decide +kernel
theorem dX3_pieceRanked_4 : decode cX3_pieceRanked 4 = .ok (.getfield 30, 3) := by decide +kernel
theorem dX3_pieceRanked_7 : decode cX3_pieceRanked 7 = .ok (.if_icmp .ge 30, 3) := by decide +kernel
theorem dX3_pieceRanked_10 : decode cX3_pieceRanked 10 = .ok (.aload_n 0, 1) := by decide +kernel
theorem dX3_pieceRanked_11 : decode cX3_pieceRanked 11 = .ok (.aload_n 0, 1) := by decide +kernel
theorem dX3_pieceRanked_12 : decode cX3_pieceRanked 12 = .ok (.getfield 20, 3) := by decide +kernel
theorem dX3_pieceRanked_15 : decode cX3_pieceRanked 15 = .ok (.iload_n 2, 1) := by decide +kernel
theorem dX3_pieceRanked_16 : decode cX3_pieceRanked 16 = .ok (.aaload, 1) := by decide +kernel
theorem dX3_pieceRanked_17 : decode cX3_pieceRanked 17 = .ok (.invokevirtual 171, 3) := by decide +kernel
theorem dX3_pieceRanked_20 : decode cX3_pieceRanked 20 = .ok (.iload_n 1, 1) := by decide +kernel
theorem dX3_pieceRanked_21 : decode cX3_pieceRanked 21 = .ok (.if_icmp .ne 10, 3) := by decide +kernel
theorem dX3_pieceRanked_24 : decode cX3_pieceRanked 24 = .ok (.aload_n 0, 1) := by decide +kernel
theorem dX3_pieceRanked_25 : decode cX3_pieceRanked 25 = .ok (.getfield 20, 3) := by decide +kernel
theorem dX3_pieceRanked_28 : decode cX3_pieceRanked 28 = .ok (.iload_n 2, 1) := by decide +kernel
theorem dX3_pieceRanked_29 : decode cX3_pieceRanked 29 = .ok (.aaload, 1) := by decide +kernel
theorem dX3_pieceRanked_30 : decode cX3_pieceRanked 30 = .ok (.areturn, 1) := by decide +kernel
theorem dX3_pieceRanked_31 : decode cX3_pieceRanked 31 = .ok (.iinc 2 1, 3) := by decide +kernel
theorem dX3_pieceRanked_34 : decode cX3_pieceRanked 34 = .ok (.goto (-32), 3) := by decide +kernel
theorem dX3_pieceRanked_37 : decode cX3_pieceRanked 37 = .ok (.aconst_null, 1) := by decide +kernel
theorem dX3_pieceRanked_38 : decode cX3_pieceRanked 38 = .ok (.areturn, 1) := by decide +kernel
theorem dX3_rankOf_0 : decode cX3_rankOf 0 = .ok (.iconst 0, 1) := by decide +kernel
theorem dX3_rankOf_1 : decode cX3_rankOf 1 = .ok (.istore_n 2, 1) := by decide +kernel
theorem dX3_rankOf_2 : decode cX3_rankOf 2 = .ok (.iconst 0, 1) := by decide +kernel
theorem dX3_rankOf_3 : decode cX3_rankOf 3 = .ok (.istore_n 3, 1) := by decide +kernel
theorem dX3_rankOf_4 : decode cX3_rankOf 4 = .ok (.iload_n 3, 1) := by decide +kernel
theorem dX3_rankOf_5 : decode cX3_rankOf 5 = .ok (.aload_n 0, 1) := by decide +kernel
theorem dX3_rankOf_6 : decode cX3_rankOf 6 = .ok (.getfield 30, 3) := by decide +kernel
theorem dX3_rankOf_9 : decode cX3_rankOf 9 = .ok (.if_icmp .ge 25, 3) := by decide +kernel
theorem dX3_rankOf_12 : decode cX3_rankOf 12 = .ok (.aload_n 0, 1) := by decide +kernel
theorem dX3_rankOf_13 : decode cX3_rankOf 13 = .ok (.getfield 20, 3) := by decide +kernel
theorem dX3_rankOf_16 : decode cX3_rankOf 16 = .ok (.iload_n 3, 1) := by decide +kernel
theorem dX3_rankOf_17 : decode cX3_rankOf 17 = .ok (.aaload, 1) := by decide +kernel
theorem dX3_rankOf_18 : decode cX3_rankOf 18 = .ok (.aload_n 1, 1) := by decide +kernel
theorem dX3_rankOf_19 : decode cX3_rankOf 19 = .ok (.invokevirtual 175, 3) := by decide +kernel
theorem dX3_rankOf_22 : decode cX3_rankOf 22 = .ok (.ifCond .eq 6, 3) := by decide +kernel
theorem dX3_rankOf_25 : decode cX3_rankOf 25 = .ok (.iinc 2 1, 3) := by decide +kernel
theorem dX3_rankOf_28 : decode cX3_rankOf 28 = .ok (.iinc 3 1, 3) := by decide +kernel
theorem dX3_rankOf_31 : decode cX3_rankOf 31 = .ok (.goto (-27), 3) := by decide +kernel
theorem dX3_rankOf_34 : decode cX3_rankOf 34 = .ok (.iload_n 2, 1) := by decide +kernel
theorem dX3_rankOf_35 : decode cX3_rankOf 35 = .ok (.ireturn, 1) := by decide +kernel
theorem dX3_bestHammer_0 : decode cX3_bestHammer 0 = .ok (.iconst (-1), 1) := by decide +kernel
theorem dX3_bestHammer_1 : decode cX3_bestHammer 1 = .ok (.istore_n 1, 1) := by decide +kernel
theorem dX3_bestHammer_2 : decode cX3_bestHammer 2 = .ok (.iconst 0, 1) := by decide +kernel
theorem dX3_bestHammer_3 : decode cX3_bestHammer 3 = .ok (.istore_n 2, 1) := by decide +kernel
theorem dX3_bestHammer_4 : decode cX3_bestHammer 4 = .ok (.iload_n 2, 1) := by decide +kernel
theorem dX3_bestHammer_5 : decode cX3_bestHammer 5 = .ok (.aload_n 0, 1) := by decide +kernel
theorem dX3_bestHammer_6 : decode cX3_bestHammer 6 = .ok (.getfield 34, 3) := by decide +kernel
theorem dX3_bestHammer_9 : decode cX3_bestHammer 9 = .ok (.if_icmp .ge 49, 3) := by decide +kernel
theorem dX3_bestHammer_12 : decode cX3_bestHammer 12 = .ok (.aload_n 0, 1) := by decide +kernel
theorem dX3_bestHammer_13 : decode cX3_bestHammer 13 = .ok (.getfield 26, 3) := by decide +kernel
theorem dX3_bestHammer_16 : decode cX3_bestHammer 16 = .ok (.iload_n 2, 1) := by decide +kernel
theorem dX3_bestHammer_17 : decode cX3_bestHammer 17 = .ok (.aaload, 1) := by decide +kernel
theorem dX3_bestHammer_18 : decode cX3_bestHammer 18 = .ok (.invokevirtual 123, 3) := by decide +kernel
theorem dX3_bestHammer_21 : decode cX3_bestHammer 21 = .ok (.ifCond .eq 6, 3) := by decide +kernel
theorem dX3_bestHammer_24 : decode cX3_bestHammer 24 = .ok (.goto 28, 3) := by decide +kernel
theorem dX3_bestHammer_27 : decode cX3_bestHammer 27 = .ok (.iload_n 1, 1) := by decide +kernel
theorem dX3_bestHammer_28 : decode cX3_bestHammer 28 = .ok (.iconst (-1), 1) := by decide +kernel
theorem dX3_bestHammer_29 : decode cX3_bestHammer 29 = .ok (.if_icmp .eq 21, 3) := by decide +kernel
theorem dX3_bestHammer_32 : decode cX3_bestHammer 32 = .ok (.aload_n 0, 1) := by decide +kernel
theorem dX3_bestHammer_33 : decode cX3_bestHammer 33 = .ok (.getfield 26, 3) := by decide +kernel
theorem dX3_bestHammer_36 : decode cX3_bestHammer 36 = .ok (.iload_n 2, 1) := by decide +kernel
theorem dX3_bestHammer_37 : decode cX3_bestHammer 37 = .ok (.aaload, 1) := by decide +kernel
theorem dX3_bestHammer_38 : decode cX3_bestHammer 38 = .ok (.aload_n 0, 1) := by decide +kernel
theorem dX3_bestHammer_39 : decode cX3_bestHammer 39 = .ok (.getfield 26, 3) := by decide +kernel
theorem dX3_bestHammer_42 : decode cX3_bestHammer 42 = .ok (.iload_n 1, 1) := by decide +kernel
theorem dX3_bestHammer_43 : decode cX3_bestHammer 43 = .ok (.aaload, 1) := by decide +kernel
theorem dX3_bestHammer_44 : decode cX3_bestHammer 44 = .ok (.invokevirtual 179, 3) := by decide +kernel
theorem dX3_bestHammer_47 : decode cX3_bestHammer 47 = .ok (.ifCond .eq 5, 3) := by decide +kernel
theorem dX3_bestHammer_50 : decode cX3_bestHammer 50 = .ok (.iload_n 2, 1) := by decide +kernel
theorem dX3_bestHammer_51 : decode cX3_bestHammer 51 = .ok (.istore_n 1, 1) := by decide +kernel
theorem dX3_bestHammer_52 : decode cX3_bestHammer 52 = .ok (.iinc 2 1, 3) := by decide +kernel
theorem dX3_bestHammer_55 : decode cX3_bestHammer 55 = .ok (.goto (-51), 3) := by decide +kernel
theorem dX3_bestHammer_58 : decode cX3_bestHammer 58 = .ok (.iload_n 1, 1) := by decide +kernel
theorem dX3_bestHammer_59 : decode cX3_bestHammer 59 = .ok (.ireturn, 1) := by decide +kernel
theorem dX3_sumOfHardnesses_0 : decode cX3_sumOfHardnesses 0 = .ok (.iconst 0, 1) := by decide +kernel
theorem dX3_sumOfHardnesses_1 : decode cX3_sumOfHardnesses 1 = .ok (.istore_n 1, 1) := by decide +kernel
theorem dX3_sumOfHardnesses_2 : decode cX3_sumOfHardnesses 2 = .ok (.iconst 0, 1) := by decide +kernel
theorem dX3_sumOfHardnesses_3 : decode cX3_sumOfHardnesses 3 = .ok (.istore_n 2, 1) := by decide +kernel
theorem dX3_sumOfHardnesses_4 : decode cX3_sumOfHardnesses 4 = .ok (.iload_n 2, 1) := by decide +kernel
theorem dX3_sumOfHardnesses_5 : decode cX3_sumOfHardnesses 5 = .ok (.aload_n 0, 1) := by decide +kernel
theorem dX3_sumOfHardnesses_6 : decode cX3_sumOfHardnesses 6 = .ok (.getfield 30, 3) := by decide +kernel
theorem dX3_sumOfHardnesses_9 : decode cX3_sumOfHardnesses 9 = .ok (.if_icmp .ge 21, 3) := by decide +kernel
theorem dX3_sumOfHardnesses_12 : decode cX3_sumOfHardnesses 12 = .ok (.iload_n 1, 1) := by decide +kernel
theorem dX3_sumOfHardnesses_13 : decode cX3_sumOfHardnesses 13 = .ok (.aload_n 0, 1) := by decide +kernel
theorem dX3_sumOfHardnesses_14 : decode cX3_sumOfHardnesses 14 = .ok (.getfield 20, 3) := by decide +kernel
theorem dX3_sumOfHardnesses_17 : decode cX3_sumOfHardnesses 17 = .ok (.iload_n 2, 1) := by decide +kernel
theorem dX3_sumOfHardnesses_18 : decode cX3_sumOfHardnesses 18 = .ok (.aaload, 1) := by decide +kernel
theorem dX3_sumOfHardnesses_19 : decode cX3_sumOfHardnesses 19 = .ok (.getfield 140, 3) := by decide +kernel
theorem dX3_sumOfHardnesses_22 : decode cX3_sumOfHardnesses 22 = .ok (.iadd, 1) := by decide +kernel
theorem dX3_sumOfHardnesses_23 : decode cX3_sumOfHardnesses 23 = .ok (.istore_n 1, 1) := by decide +kernel
theorem dX3_sumOfHardnesses_24 : decode cX3_sumOfHardnesses 24 = .ok (.iinc 2 1, 3) := by decide +kernel
theorem dX3_sumOfHardnesses_27 : decode cX3_sumOfHardnesses 27 = .ok (.goto (-23), 3) := by decide +kernel
theorem dX3_sumOfHardnesses_30 : decode cX3_sumOfHardnesses 30 = .ok (.iload_n 1, 1) := by decide +kernel
theorem dX3_sumOfHardnesses_31 : decode cX3_sumOfHardnesses 31 = .ok (.ireturn, 1) := by decide +kernel
theorem dX3_wearsMatchStrokes_0 : decode cX3_wearsMatchStrokes 0 = .ok (.iconst 0, 1) := by decide +kernel
theorem dX3_wearsMatchStrokes_1 : decode cX3_wearsMatchStrokes 1 = .ok (.istore_n 1, 1) := by decide +kernel
theorem dX3_wearsMatchStrokes_2 : decode cX3_wearsMatchStrokes 2 = .ok (.iconst 0, 1) := by decide +kernel
theorem dX3_wearsMatchStrokes_3 : decode cX3_wearsMatchStrokes 3 = .ok (.istore_n 2, 1) := by decide +kernel
theorem dX3_wearsMatchStrokes_4 : decode cX3_wearsMatchStrokes 4 = .ok (.iload_n 2, 1) := by decide +kernel
theorem dX3_wearsMatchStrokes_5 : decode cX3_wearsMatchStrokes 5 = .ok (.aload_n 0, 1) := by decide +kernel
theorem dX3_wearsMatchStrokes_6 : decode cX3_wearsMatchStrokes 6 = .ok (.getfield 34, 3) := by decide +kernel
theorem dX3_wearsMatchStrokes_9 : decode cX3_wearsMatchStrokes 9 = .ok (.if_icmp .ge 21, 3) := by decide +kernel
theorem dX3_wearsMatchStrokes_12 : decode cX3_wearsMatchStrokes 12 = .ok (.iload_n 1, 1) := by decide +kernel
theorem dX3_wearsMatchStrokes_13 : decode cX3_wearsMatchStrokes 13 = .ok (.aload_n 0, 1) := by decide +kernel
theorem dX3_wearsMatchStrokes_14 : decode cX3_wearsMatchStrokes 14 = .ok (.getfield 26, 3) := by decide +kernel
theorem dX3_wearsMatchStrokes_17 : decode cX3_wearsMatchStrokes 17 = .ok (.iload_n 2, 1) := by decide +kernel
theorem dX3_wearsMatchStrokes_18 : decode cX3_wearsMatchStrokes 18 = .ok (.aaload, 1) := by decide +kernel
theorem dX3_wearsMatchStrokes_19 : decode cX3_wearsMatchStrokes 19 = .ok (.getfield 137, 3) := by decide +kernel
theorem dX3_wearsMatchStrokes_22 : decode cX3_wearsMatchStrokes 22 = .ok (.iadd, 1) := by decide +kernel
theorem dX3_wearsMatchStrokes_23 : decode cX3_wearsMatchStrokes 23 = .ok (.istore_n 1, 1) := by decide +kernel
theorem dX3_wearsMatchStrokes_24 : decode cX3_wearsMatchStrokes 24 = .ok (.iinc 2 1, 3) := by decide +kernel
theorem dX3_wearsMatchStrokes_27 : decode cX3_wearsMatchStrokes 27 = .ok (.goto (-23), 3) := by decide +kernel
theorem dX3_wearsMatchStrokes_30 : decode cX3_wearsMatchStrokes 30 = .ok (.iload_n 1, 1) := by decide +kernel
theorem dX3_wearsMatchStrokes_31 : decode cX3_wearsMatchStrokes 31 = .ok (.aload_n 0, 1) := by decide +kernel
theorem dX3_wearsMatchStrokes_32 : decode cX3_wearsMatchStrokes 32 = .ok (.getfield 43, 3) := by decide +kernel
theorem dX3_wearsMatchStrokes_35 : decode cX3_wearsMatchStrokes 35 = .ok (.if_icmp .ne 7, 3) := by decide +kernel
theorem dX3_wearsMatchStrokes_38 : decode cX3_wearsMatchStrokes 38 = .ok (.iconst 1, 1) := by decide +kernel
theorem dX3_wearsMatchStrokes_39 : decode cX3_wearsMatchStrokes 39 = .ok (.goto 4, 3) := by decide +kernel
theorem dX3_wearsMatchStrokes_42 : decode cX3_wearsMatchStrokes 42 = .ok (.iconst 0, 1) := by decide +kernel
theorem dX3_wearsMatchStrokes_43 : decode cX3_wearsMatchStrokes 43 = .ok (.ireturn, 1) := by decide +kernel
theorem dX3_testedAreQuenched_0 : decode cX3_testedAreQuenched 0 = .ok (.iconst 0, 1) := by decide +kernel
theorem dX3_testedAreQuenched_1 : decode cX3_testedAreQuenched 1 = .ok (.istore_n 1, 1) := by decide +kernel
theorem dX3_testedAreQuenched_2 : decode cX3_testedAreQuenched 2 = .ok (.iload_n 1, 1) := by decide +kernel
theorem dX3_testedAreQuenched_3 : decode cX3_testedAreQuenched 3 = .ok (.aload_n 0, 1) := by decide +kernel
theorem dX3_testedAreQuenched_4 : decode cX3_testedAreQuenched 4 = .ok (.getfield 30, 3) := by decide +kernel
theorem dX3_testedAreQuenched_7 : decode cX3_testedAreQuenched 7 = .ok (.if_icmp .ge 38, 3) := by decide +kernel
theorem dX3_testedAreQuenched_10 : decode cX3_testedAreQuenched 10 = .ok (.aload_n 0, 1) := by decide +kernel
theorem dX3_testedAreQuenched_11 : decode cX3_testedAreQuenched 11 = .ok (.getfield 20, 3) := by decide +kernel
theorem dX3_testedAreQuenched_14 : decode cX3_testedAreQuenched 14 = .ok (.iload_n 1, 1) := by decide +kernel
theorem dX3_testedAreQuenched_15 : decode cX3_testedAreQuenched 15 = .ok (.aaload, 1) := by decide +kernel
theorem dX3_testedAreQuenched_16 : decode cX3_testedAreQuenched 16 = .ok (.getfield 143, 3) := by decide +kernel
theorem dX3_testedAreQuenched_19 : decode cX3_testedAreQuenched 19 = .ok (.getstatic 147, 3) := by decide +kernel
theorem dX3_testedAreQuenched_22 : decode cX3_testedAreQuenched 22 = .ok (.if_acmp .eq 17, 3) := by decide +kernel
theorem dX3_testedAreQuenched_25 : decode cX3_testedAreQuenched 25 = .ok (.aload_n 0, 1) := by decide +kernel
theorem dX3_testedAreQuenched_26 : decode cX3_testedAreQuenched 26 = .ok (.getfield 20, 3) := by decide +kernel
theorem dX3_testedAreQuenched_29 : decode cX3_testedAreQuenched 29 = .ok (.iload_n 1, 1) := by decide +kernel
theorem dX3_testedAreQuenched_30 : decode cX3_testedAreQuenched 30 = .ok (.aaload, 1) := by decide +kernel
theorem dX3_testedAreQuenched_31 : decode cX3_testedAreQuenched 31 = .ok (.getfield 117, 3) := by decide +kernel
theorem dX3_testedAreQuenched_34 : decode cX3_testedAreQuenched 34 = .ok (.ifCond .ne 5, 3) := by decide +kernel
theorem dX3_testedAreQuenched_37 : decode cX3_testedAreQuenched 37 = .ok (.iconst 0, 1) := by decide +kernel
theorem dX3_testedAreQuenched_38 : decode cX3_testedAreQuenched 38 = .ok (.ireturn, 1) := by decide +kernel
theorem dX3_testedAreQuenched_39 : decode cX3_testedAreQuenched 39 = .ok (.iinc 1 1, 3) := by decide +kernel
theorem dX3_testedAreQuenched_42 : decode cX3_testedAreQuenched 42 = .ok (.goto (-40), 3) := by decide +kernel
theorem dX3_testedAreQuenched_45 : decode cX3_testedAreQuenched 45 = .ok (.iconst 1, 1) := by decide +kernel
theorem dX3_testedAreQuenched_46 : decode cX3_testedAreQuenched 46 = .ok (.ireturn, 1) := by decide +kernel
theorem dX3_coalMatches_0 : decode cX3_coalMatches 0 = .ok (.aload_n 0, 1) := by decide +kernel
theorem dX3_coalMatches_1 : decode cX3_coalMatches 1 = .ok (.getfield 55, 3) := by decide +kernel
theorem dX3_coalMatches_4 : decode cX3_coalMatches 4 = .ok (.ldc2_w 183, 3) := by decide +kernel
theorem dX3_coalMatches_7 : decode cX3_coalMatches 7 = .ok (.ladd, 1) := by decide +kernel
theorem dX3_coalMatches_8 : decode cX3_coalMatches 8 = .ok (.aload_n 0, 1) := by decide +kernel
theorem dX3_coalMatches_9 : decode cX3_coalMatches 9 = .ok (.getfield 12, 3) := by decide +kernel
theorem dX3_coalMatches_12 : decode cX3_coalMatches 12 = .ok (.getfield 74, 3) := by decide +kernel
theorem dX3_coalMatches_15 : decode cX3_coalMatches 15 = .ok (.i2l, 1) := by decide +kernel
theorem dX3_coalMatches_16 : decode cX3_coalMatches 16 = .ok (.aload_n 0, 1) := by decide +kernel
theorem dX3_coalMatches_17 : decode cX3_coalMatches 17 = .ok (.getfield 12, 3) := by decide +kernel
theorem dX3_coalMatches_20 : decode cX3_coalMatches 20 = .ok (.getfield 185, 3) := by decide +kernel
theorem dX3_coalMatches_23 : decode cX3_coalMatches 23 = .ok (.ladd, 1) := by decide +kernel
theorem dX3_coalMatches_24 : decode cX3_coalMatches 24 = .ok (.lcmp, 1) := by decide +kernel
theorem dX3_coalMatches_25 : decode cX3_coalMatches 25 = .ok (.ifCond .ne 7, 3) := by decide +kernel
theorem dX3_coalMatches_28 : decode cX3_coalMatches 28 = .ok (.iconst 1, 1) := by decide +kernel
theorem dX3_coalMatches_29 : decode cX3_coalMatches 29 = .ok (.goto 4, 3) := by decide +kernel
theorem dX3_coalMatches_32 : decode cX3_coalMatches 32 = .ok (.iconst 0, 1) := by decide +kernel
theorem dX3_coalMatches_33 : decode cX3_coalMatches 33 = .ok (.ireturn, 1) := by decide +kernel
theorem dX3_writeFurnaceTo_0 : decode cX3_writeFurnaceTo 0 = .ok (.aload_n 1, 1) := by decide +kernel
theorem dX3_writeFurnaceTo_1 : decode cX3_writeFurnaceTo 1 = .ok (.aload_n 0, 1) := by decide +kernel
theorem dX3_writeFurnaceTo_2 : decode cX3_writeFurnaceTo 2 = .ok (.getfield 12, 3) := by decide +kernel
theorem dX3_writeFurnaceTo_5 : decode cX3_writeFurnaceTo 5 = .ok (.getfield 83, 3) := by decide +kernel
theorem dX3_writeFurnaceTo_8 : decode cX3_writeFurnaceTo 8 = .ok (.invokevirtual 188, 3) := by decide +kernel
theorem dX3_writeFurnaceTo_11 : decode cX3_writeFurnaceTo 11 = .ok (.bipush 64, 2) := by decide +kernel
theorem dX3_writeFurnaceTo_13 : decode cX3_writeFurnaceTo 13 = .ok (.invokevirtual 194, 3) := by decide +kernel
theorem dX3_writeFurnaceTo_16 : decode cX3_writeFurnaceTo 16 = .ok (.aload_n 0, 1) := by decide +kernel
theorem dX3_writeFurnaceTo_17 : decode cX3_writeFurnaceTo 17 = .ok (.getfield 12, 3) := by decide +kernel
theorem dX3_writeFurnaceTo_20 : decode cX3_writeFurnaceTo 20 = .ok (.getfield 77, 3) := by decide +kernel
theorem dX3_writeFurnaceTo_23 : decode cX3_writeFurnaceTo 23 = .ok (.invokevirtual 188, 3) := by decide +kernel
theorem dX3_writeFurnaceTo_26 : decode cX3_writeFurnaceTo 26 = .ok (.bipush 35, 2) := by decide +kernel
theorem dX3_writeFurnaceTo_28 : decode cX3_writeFurnaceTo 28 = .ok (.invokevirtual 194, 3) := by decide +kernel
theorem dX3_writeFurnaceTo_31 : decode cX3_writeFurnaceTo 31 = .ok (.aload_n 0, 1) := by decide +kernel
theorem dX3_writeFurnaceTo_32 : decode cX3_writeFurnaceTo 32 = .ok (.getfield 12, 3) := by decide +kernel
theorem dX3_writeFurnaceTo_35 : decode cX3_writeFurnaceTo 35 = .ok (.getfield 74, 3) := by decide +kernel
theorem dX3_writeFurnaceTo_38 : decode cX3_writeFurnaceTo 38 = .ok (.invokevirtual 188, 3) := by decide +kernel
theorem dX3_writeFurnaceTo_41 : decode cX3_writeFurnaceTo 41 = .ok (.pop, 1) := by decide +kernel
theorem dX3_writeFurnaceTo_42 : decode cX3_writeFurnaceTo 42 = .ok (.iconst 0, 1) := by decide +kernel
theorem dX3_writeFurnaceTo_43 : decode cX3_writeFurnaceTo 43 = .ok (.istore_n 2, 1) := by decide +kernel
theorem dX3_writeFurnaceTo_44 : decode cX3_writeFurnaceTo 44 = .ok (.iload_n 2, 1) := by decide +kernel
theorem dX3_writeFurnaceTo_45 : decode cX3_writeFurnaceTo 45 = .ok (.aload_n 0, 1) := by decide +kernel
theorem dX3_writeFurnaceTo_46 : decode cX3_writeFurnaceTo 46 = .ok (.getfield 30, 3) := by decide +kernel
theorem dX3_writeFurnaceTo_49 : decode cX3_writeFurnaceTo 49 = .ok (.if_icmp .ge 40, 3) := by decide +kernel
theorem dX3_writeFurnaceTo_52 : decode cX3_writeFurnaceTo 52 = .ok (.aload_n 0, 1) := by decide +kernel
theorem dX3_writeFurnaceTo_53 : decode cX3_writeFurnaceTo 53 = .ok (.getfield 20, 3) := by decide +kernel
theorem dX3_writeFurnaceTo_56 : decode cX3_writeFurnaceTo 56 = .ok (.iload_n 2, 1) := by decide +kernel
theorem dX3_writeFurnaceTo_57 : decode cX3_writeFurnaceTo 57 = .ok (.aaload, 1) := by decide +kernel
theorem dX3_writeFurnaceTo_58 : decode cX3_writeFurnaceTo 58 = .ok (.getfield 104, 3) := by decide +kernel
theorem dX3_writeFurnaceTo_61 : decode cX3_writeFurnaceTo 61 = .ok (.ifCond .eq 22, 3) := by decide +kernel
theorem dX3_writeFurnaceTo_64 : decode cX3_writeFurnaceTo 64 = .ok (.aload_n 1, 1) := by decide +kernel
theorem dX3_writeFurnaceTo_65 : decode cX3_writeFurnaceTo 65 = .ok (.bipush 32, 2) := by decide +kernel
theorem dX3_writeFurnaceTo_67 : decode cX3_writeFurnaceTo 67 = .ok (.invokevirtual 194, 3) := by decide +kernel
theorem dX3_writeFurnaceTo_70 : decode cX3_writeFurnaceTo 70 = .ok (.aload_n 0, 1) := by decide +kernel
theorem dX3_writeFurnaceTo_71 : decode cX3_writeFurnaceTo 71 = .ok (.getfield 20, 3) := by decide +kernel
theorem dX3_writeFurnaceTo_74 : decode cX3_writeFurnaceTo 74 = .ok (.iload_n 2, 1) := by decide +kernel
theorem dX3_writeFurnaceTo_75 : decode cX3_writeFurnaceTo 75 = .ok (.aaload, 1) := by decide +kernel
theorem dX3_writeFurnaceTo_76 : decode cX3_writeFurnaceTo 76 = .ok (.getfield 71, 3) := by decide +kernel
theorem dX3_writeFurnaceTo_79 : decode cX3_writeFurnaceTo 79 = .ok (.invokevirtual 188, 3) := by decide +kernel
theorem dX3_writeFurnaceTo_82 : decode cX3_writeFurnaceTo 82 = .ok (.pop, 1) := by decide +kernel
theorem dX3_writeFurnaceTo_83 : decode cX3_writeFurnaceTo 83 = .ok (.iinc 2 1, 3) := by decide +kernel
theorem dX3_writeFurnaceTo_86 : decode cX3_writeFurnaceTo 86 = .ok (.goto (-42), 3) := by decide +kernel
theorem dX3_writeFurnaceTo_89 : decode cX3_writeFurnaceTo 89 = .ok (.return_, 1) := by decide +kernel
theorem dX4_init_0 : decode cX4_init 0 = .ok (.aload_n 0, 1) := by decide +kernel
theorem dX4_init_1 : decode cX4_init 1 = .ok (.invokespecial 3, 3) := by decide +kernel
theorem dX4_init_4 : decode cX4_init 4 = .ok (.aload_n 0, 1) := by decide +kernel
theorem dX4_init_5 : decode cX4_init 5 = .ok (.bipush 20, 2) := by decide +kernel
theorem dX4_init_7 : decode cX4_init 7 = .ok (.putfield 9, 3) := by decide +kernel
theorem dX4_init_10 : decode cX4_init 10 = .ok (.aload_n 0, 1) := by decide +kernel
theorem dX4_init_11 : decode cX4_init 11 = .ok (.iconst 0, 1) := by decide +kernel
theorem dX4_init_12 : decode cX4_init 12 = .ok (.putfield 15, 3) := by decide +kernel
theorem dX4_init_15 : decode cX4_init 15 = .ok (.aload_n 0, 1) := by decide +kernel
theorem dX4_init_16 : decode cX4_init 16 = .ok (.bipush 20, 2) := by decide +kernel
theorem dX4_init_18 : decode cX4_init 18 = .ok (.putfield 18, 3) := by decide +kernel
theorem dX4_init_21 : decode cX4_init 21 = .ok (.aload_n 0, 1) := by decide +kernel
theorem dX4_init_22 : decode cX4_init 22 = .ok (.lconst 0, 1) := by decide +kernel
theorem dX4_init_23 : decode cX4_init 23 = .ok (.putfield 21, 3) := by decide +kernel
theorem dX4_init_26 : decode cX4_init 26 = .ok (.return_, 1) := by decide +kernel
theorem dX4_copyFrom_0 : decode cX4_copyFrom 0 = .ok (.aload_n 0, 1) := by decide +kernel
theorem dX4_copyFrom_1 : decode cX4_copyFrom 1 = .ok (.aload_n 1, 1) := by decide +kernel
theorem dX4_copyFrom_2 : decode cX4_copyFrom 2 = .ok (.getfield 9, 3) := by decide +kernel
theorem dX4_copyFrom_5 : decode cX4_copyFrom 5 = .ok (.putfield 9, 3) := by decide +kernel
theorem dX4_copyFrom_8 : decode cX4_copyFrom 8 = .ok (.aload_n 0, 1) := by decide +kernel
theorem dX4_copyFrom_9 : decode cX4_copyFrom 9 = .ok (.aload_n 1, 1) := by decide +kernel
theorem dX4_copyFrom_10 : decode cX4_copyFrom 10 = .ok (.getfield 15, 3) := by decide +kernel
theorem dX4_copyFrom_13 : decode cX4_copyFrom 13 = .ok (.putfield 15, 3) := by decide +kernel
theorem dX4_copyFrom_16 : decode cX4_copyFrom 16 = .ok (.aload_n 0, 1) := by decide +kernel
theorem dX4_copyFrom_17 : decode cX4_copyFrom 17 = .ok (.aload_n 1, 1) := by decide +kernel
theorem dX4_copyFrom_18 : decode cX4_copyFrom 18 = .ok (.getfield 18, 3) := by decide +kernel
theorem dX4_copyFrom_21 : decode cX4_copyFrom 21 = .ok (.putfield 18, 3) := by decide +kernel
theorem dX4_copyFrom_24 : decode cX4_copyFrom 24 = .ok (.aload_n 0, 1) := by decide +kernel
theorem dX4_copyFrom_25 : decode cX4_copyFrom 25 = .ok (.aload_n 1, 1) := by decide +kernel
theorem dX4_copyFrom_26 : decode cX4_copyFrom 26 = .ok (.getfield 21, 3) := by decide +kernel
theorem dX4_copyFrom_29 : decode cX4_copyFrom 29 = .ok (.putfield 21, 3) := by decide +kernel
theorem dX4_copyFrom_32 : decode cX4_copyFrom 32 = .ok (.return_, 1) := by decide +kernel
theorem dX4_passMinute_0 : decode cX4_passMinute 0 = .ok (.aload_n 0, 1) := by decide +kernel
theorem dX4_passMinute_1 : decode cX4_passMinute 1 = .ok (.invokevirtual 25, 3) := by decide +kernel
theorem dX4_passMinute_4 : decode cX4_passMinute 4 = .ok (.aload_n 0, 1) := by decide +kernel
theorem dX4_passMinute_5 : decode cX4_passMinute 5 = .ok (.dup, 1) := by decide +kernel
theorem dX4_passMinute_6 : decode cX4_passMinute 6 = .ok (.getfield 9, 3) := by decide +kernel
theorem dX4_passMinute_9 : decode cX4_passMinute 9 = .ok (.aload_n 0, 1) := by decide +kernel
theorem dX4_passMinute_10 : decode cX4_passMinute 10 = .ok (.getfield 9, 3) := by decide +kernel
theorem dX4_passMinute_13 : decode cX4_passMinute 13 = .ok (.bipush 20, 2) := by decide +kernel
theorem dX4_passMinute_15 : decode cX4_passMinute 15 = .ok (.isub, 1) := by decide +kernel
theorem dX4_passMinute_16 : decode cX4_passMinute 16 = .ok (.bipush 20, 2) := by decide +kernel
theorem dX4_passMinute_18 : decode cX4_passMinute 18 = .ok (.idiv, 1) := by decide +kernel
theorem dX4_passMinute_19 : decode cX4_passMinute 19 = .ok (.isub, 1) := by decide +kernel
theorem dX4_passMinute_20 : decode cX4_passMinute 20 = .ok (.putfield 9, 3) := by decide +kernel
theorem dX4_passMinute_23 : decode cX4_passMinute 23 = .ok (.return_, 1) := by decide +kernel
theorem dX4_burn_0 : decode cX4_burn 0 = .ok (.aload_n 0, 1) := by decide +kernel
theorem dX4_burn_1 : decode cX4_burn 1 = .ok (.getfield 18, 3) := by decide +kernel
theorem dX4_burn_4 : decode cX4_burn 4 = .ok (.aload_n 0, 1) := by decide +kernel
theorem dX4_burn_5 : decode cX4_burn 5 = .ok (.getfield 15, 3) := by decide +kernel
theorem dX4_burn_8 : decode cX4_burn 8 = .ok (.if_icmp .ge 9, 3) := by decide +kernel
theorem dX4_burn_11 : decode cX4_burn 11 = .ok (.aload_n 0, 1) := by decide +kernel
theorem dX4_burn_12 : decode cX4_burn 12 = .ok (.iconst 0, 1) := by decide +kernel
theorem dX4_burn_13 : decode cX4_burn 13 = .ok (.putfield 15, 3) := by decide +kernel
theorem dX4_burn_16 : decode cX4_burn 16 = .ok (.return_, 1) := by decide +kernel
theorem dX4_burn_17 : decode cX4_burn 17 = .ok (.aload_n 0, 1) := by decide +kernel
theorem dX4_burn_18 : decode cX4_burn 18 = .ok (.dup, 1) := by decide +kernel
theorem dX4_burn_19 : decode cX4_burn 19 = .ok (.getfield 18, 3) := by decide +kernel
theorem dX4_burn_22 : decode cX4_burn 22 = .ok (.aload_n 0, 1) := by decide +kernel
theorem dX4_burn_23 : decode cX4_burn 23 = .ok (.getfield 15, 3) := by decide +kernel
theorem dX4_burn_26 : decode cX4_burn 26 = .ok (.isub, 1) := by decide +kernel
theorem dX4_burn_27 : decode cX4_burn 27 = .ok (.putfield 18, 3) := by decide +kernel
theorem dX4_burn_30 : decode cX4_burn 30 = .ok (.aload_n 0, 1) := by decide +kernel
theorem dX4_burn_31 : decode cX4_burn 31 = .ok (.dup, 1) := by decide +kernel
theorem dX4_burn_32 : decode cX4_burn 32 = .ok (.getfield 21, 3) := by decide +kernel
theorem dX4_burn_35 : decode cX4_burn 35 = .ok (.aload_n 0, 1) := by decide +kernel
theorem dX4_burn_36 : decode cX4_burn 36 = .ok (.getfield 15, 3) := by decide +kernel
theorem dX4_burn_39 : decode cX4_burn 39 = .ok (.i2l, 1) := by decide +kernel
theorem dX4_burn_40 : decode cX4_burn 40 = .ok (.ladd, 1) := by decide +kernel
theorem dX4_burn_41 : decode cX4_burn 41 = .ok (.putfield 21, 3) := by decide +kernel
theorem dX4_burn_44 : decode cX4_burn 44 = .ok (.aload_n 0, 1) := by decide +kernel
theorem dX4_burn_45 : decode cX4_burn 45 = .ok (.sipush 1200, 3) := by decide +kernel
theorem dX4_burn_48 : decode cX4_burn 48 = .ok (.aload_n 0, 1) := by decide +kernel
theorem dX4_burn_49 : decode cX4_burn 49 = .ok (.getfield 9, 3) := by decide +kernel
theorem dX4_burn_52 : decode cX4_burn 52 = .ok (.bipush 20, 2) := by decide +kernel
theorem dX4_burn_54 : decode cX4_burn 54 = .ok (.aload_n 0, 1) := by decide +kernel
theorem dX4_burn_55 : decode cX4_burn 55 = .ok (.getfield 15, 3) := by decide +kernel
theorem dX4_burn_58 : decode cX4_burn 58 = .ok (.imul, 1) := by decide +kernel
theorem dX4_burn_59 : decode cX4_burn 59 = .ok (.iadd, 1) := by decide +kernel
theorem dX4_burn_60 : decode cX4_burn 60 = .ok (.invokestatic 28, 3) := by decide +kernel
theorem dX4_burn_63 : decode cX4_burn 63 = .ok (.putfield 9, 3) := by decide +kernel
theorem dX4_burn_66 : decode cX4_burn 66 = .ok (.return_, 1) := by decide +kernel
theorem dX5_init_0 : decode cX5_init 0 = .ok (.aload_n 0, 1) := by decide +kernel
theorem dX5_init_1 : decode cX5_init 1 = .ok (.invokespecial 3, 3) := by decide +kernel
theorem dX5_init_4 : decode cX5_init 4 = .ok (.aload_n 0, 1) := by decide +kernel
theorem dX5_init_5 : decode cX5_init 5 = .ok (.iconst 1, 1) := by decide +kernel
theorem dX5_init_6 : decode cX5_init 6 = .ok (.putfield 9, 3) := by decide +kernel
theorem dX5_init_9 : decode cX5_init 9 = .ok (.aload_n 0, 1) := by decide +kernel
theorem dX5_init_10 : decode cX5_init 10 = .ok (.iconst 0, 1) := by decide +kernel
theorem dX5_init_11 : decode cX5_init 11 = .ok (.putfield 15, 3) := by decide +kernel
theorem dX5_init_14 : decode cX5_init 14 = .ok (.return_, 1) := by decide +kernel
theorem dX5_begin_0 : decode cX5_begin 0 = .ok (.aload_n 0, 1) := by decide +kernel
theorem dX5_begin_1 : decode cX5_begin 1 = .ok (.iload_n 1, 1) := by decide +kernel
theorem dX5_begin_2 : decode cX5_begin 2 = .ok (.putfield 9, 3) := by decide +kernel
theorem dX5_begin_5 : decode cX5_begin 5 = .ok (.aload_n 0, 1) := by decide +kernel
theorem dX5_begin_6 : decode cX5_begin 6 = .ok (.iconst 0, 1) := by decide +kernel
theorem dX5_begin_7 : decode cX5_begin 7 = .ok (.putfield 15, 3) := by decide +kernel
theorem dX5_begin_10 : decode cX5_begin 10 = .ok (.return_, 1) := by decide +kernel
theorem dX5_copyFrom_0 : decode cX5_copyFrom 0 = .ok (.aload_n 0, 1) := by decide +kernel
theorem dX5_copyFrom_1 : decode cX5_copyFrom 1 = .ok (.aload_n 1, 1) := by decide +kernel
theorem dX5_copyFrom_2 : decode cX5_copyFrom 2 = .ok (.getfield 9, 3) := by decide +kernel
theorem dX5_copyFrom_5 : decode cX5_copyFrom 5 = .ok (.putfield 9, 3) := by decide +kernel
theorem dX5_copyFrom_8 : decode cX5_copyFrom 8 = .ok (.aload_n 0, 1) := by decide +kernel
theorem dX5_copyFrom_9 : decode cX5_copyFrom 9 = .ok (.aload_n 1, 1) := by decide +kernel
theorem dX5_copyFrom_10 : decode cX5_copyFrom 10 = .ok (.getfield 15, 3) := by decide +kernel
theorem dX5_copyFrom_13 : decode cX5_copyFrom 13 = .ok (.putfield 15, 3) := by decide +kernel
theorem dX5_copyFrom_16 : decode cX5_copyFrom 16 = .ok (.return_, 1) := by decide +kernel
theorem dX5_isWornOut_0 : decode cX5_isWornOut 0 = .ok (.aload_n 0, 1) := by decide +kernel
theorem dX5_isWornOut_1 : decode cX5_isWornOut 1 = .ok (.getfield 15, 3) := by decide +kernel
theorem dX5_isWornOut_4 : decode cX5_isWornOut 4 = .ok (.bipush 20, 2) := by decide +kernel
theorem dX5_isWornOut_6 : decode cX5_isWornOut 6 = .ok (.if_icmp .lt 7, 3) := by decide +kernel
theorem dX5_isWornOut_9 : decode cX5_isWornOut 9 = .ok (.iconst 1, 1) := by decide +kernel
theorem dX5_isWornOut_10 : decode cX5_isWornOut 10 = .ok (.goto 4, 3) := by decide +kernel
theorem dX5_isWornOut_13 : decode cX5_isWornOut 13 = .ok (.iconst 0, 1) := by decide +kernel
theorem dX5_isWornOut_14 : decode cX5_isWornOut 14 = .ok (.ireturn, 1) := by decide +kernel
theorem dX5_isBetterThan_0 : decode cX5_isBetterThan 0 = .ok (.aload_n 0, 1) := by decide +kernel
theorem dX5_isBetterThan_1 : decode cX5_isBetterThan 1 = .ok (.getfield 9, 3) := by decide +kernel
theorem dX5_isBetterThan_4 : decode cX5_isBetterThan 4 = .ok (.aload_n 1, 1) := by decide +kernel
theorem dX5_isBetterThan_5 : decode cX5_isBetterThan 5 = .ok (.getfield 9, 3) := by decide +kernel
theorem dX5_isBetterThan_8 : decode cX5_isBetterThan 8 = .ok (.if_icmp .eq 20, 3) := by decide +kernel
theorem dX5_isBetterThan_11 : decode cX5_isBetterThan 11 = .ok (.aload_n 0, 1) := by decide +kernel
theorem dX5_isBetterThan_12 : decode cX5_isBetterThan 12 = .ok (.getfield 9, 3) := by decide +kernel
theorem dX5_isBetterThan_15 : decode cX5_isBetterThan 15 = .ok (.aload_n 1, 1) := by decide +kernel
theorem dX5_isBetterThan_16 : decode cX5_isBetterThan 16 = .ok (.getfield 9, 3) := by decide +kernel
theorem dX5_isBetterThan_19 : decode cX5_isBetterThan 19 = .ok (.if_icmp .le 7, 3) := by decide +kernel
theorem dX5_isBetterThan_22 : decode cX5_isBetterThan 22 = .ok (.iconst 1, 1) := by decide +kernel
theorem dX5_isBetterThan_23 : decode cX5_isBetterThan 23 = .ok (.goto 4, 3) := by decide +kernel
theorem dX5_isBetterThan_26 : decode cX5_isBetterThan 26 = .ok (.iconst 0, 1) := by decide +kernel
theorem dX5_isBetterThan_27 : decode cX5_isBetterThan 27 = .ok (.ireturn, 1) := by decide +kernel
theorem dX5_isBetterThan_28 : decode cX5_isBetterThan 28 = .ok (.aload_n 0, 1) := by decide +kernel
theorem dX5_isBetterThan_29 : decode cX5_isBetterThan 29 = .ok (.getfield 15, 3) := by decide +kernel
theorem dX5_isBetterThan_32 : decode cX5_isBetterThan 32 = .ok (.aload_n 1, 1) := by decide +kernel
theorem dX5_isBetterThan_33 : decode cX5_isBetterThan 33 = .ok (.getfield 15, 3) := by decide +kernel
theorem dX5_isBetterThan_36 : decode cX5_isBetterThan 36 = .ok (.if_icmp .ge 7, 3) := by decide +kernel
theorem dX5_isBetterThan_39 : decode cX5_isBetterThan 39 = .ok (.iconst 1, 1) := by decide +kernel
theorem dX5_isBetterThan_40 : decode cX5_isBetterThan 40 = .ok (.goto 4, 3) := by decide +kernel
theorem dX5_isBetterThan_43 : decode cX5_isBetterThan 43 = .ok (.iconst 0, 1) := by decide +kernel
theorem dX5_isBetterThan_44 : decode cX5_isBetterThan 44 = .ok (.ireturn, 1) := by decide +kernel
theorem dX6_init_0 : decode cX6_init 0 = .ok (.aload_n 0, 1) := by decide +kernel
theorem dX6_init_1 : decode cX6_init 1 = .ok (.invokespecial 3, 3) := by decide +kernel
theorem dX6_init_4 : decode cX6_init 4 = .ok (.aload_n 0, 1) := by decide +kernel
theorem dX6_init_5 : decode cX6_init 5 = .ok (.bipush 9, 2) := by decide +kernel
theorem dX6_init_7 : decode cX6_init 7 = .ok (.anewarray 9, 3) := by decide +kernel
theorem dX6_init_10 : decode cX6_init 10 = .ok (.putfield 11, 3) := by decide +kernel
theorem dX6_init_13 : decode cX6_init 13 = .ok (.aload_n 0, 1) := by decide +kernel
theorem dX6_init_14 : decode cX6_init 14 = .ok (.iconst 0, 1) := by decide +kernel
theorem dX6_init_15 : decode cX6_init 15 = .ok (.putfield 17, 3) := by decide +kernel
theorem dX6_init_18 : decode cX6_init 18 = .ok (.aload_n 0, 1) := by decide +kernel
theorem dX6_init_19 : decode cX6_init 19 = .ok (.iconst 0, 1) := by decide +kernel
theorem dX6_init_20 : decode cX6_init 20 = .ok (.putfield 21, 3) := by decide +kernel
theorem dX6_init_23 : decode cX6_init 23 = .ok (.iconst 0, 1) := by decide +kernel
theorem dX6_init_24 : decode cX6_init 24 = .ok (.istore_n 1, 1) := by decide +kernel
theorem dX6_init_25 : decode cX6_init 25 = .ok (.iload_n 1, 1) := by decide +kernel
theorem dX6_init_26 : decode cX6_init 26 = .ok (.aload_n 0, 1) := by decide +kernel
theorem dX6_init_27 : decode cX6_init 27 = .ok (.getfield 11, 3) := by decide +kernel
theorem dX6_init_30 : decode cX6_init 30 = .ok (.arraylength, 1) := by decide +kernel
theorem dX6_init_31 : decode cX6_init 31 = .ok (.if_icmp .ge 22, 3) := by decide +kernel
theorem dX6_init_34 : decode cX6_init 34 = .ok (.aload_n 0, 1) := by decide +kernel
theorem dX6_init_35 : decode cX6_init 35 = .ok (.getfield 11, 3) := by decide +kernel
theorem dX6_init_38 : decode cX6_init 38 = .ok (.iload_n 1, 1) := by decide +kernel
theorem dX6_init_39 : decode cX6_init 39 = .ok (.new 9, 3) := by decide +kernel
theorem dX6_init_42 : decode cX6_init 42 = .ok (.dup, 1) := by decide +kernel
theorem dX6_init_43 : decode cX6_init 43 = .ok (.invokespecial 24, 3) := by decide +kernel
theorem dX6_init_46 : decode cX6_init 46 = .ok (.aastore, 1) := by decide +kernel
theorem dX6_init_47 : decode cX6_init 47 = .ok (.iinc 1 1, 3) := by decide +kernel
theorem dX6_init_50 : decode cX6_init 50 = .ok (.goto (-25), 3) := by decide +kernel
theorem dX6_init_53 : decode cX6_init 53 = .ok (.return_, 1) := by decide +kernel
theorem dX6_prepare_0 : decode cX6_prepare 0 = .ok (.aload_n 0, 1) := by decide +kernel
theorem dX6_prepare_1 : decode cX6_prepare 1 = .ok (.getfield 11, 3) := by decide +kernel
theorem dX6_prepare_4 : decode cX6_prepare 4 = .ok (.aload_n 0, 1) := by decide +kernel
theorem dX6_prepare_5 : decode cX6_prepare 5 = .ok (.getfield 17, 3) := by decide +kernel
theorem dX6_prepare_8 : decode cX6_prepare 8 = .ok (.aaload, 1) := by decide +kernel
theorem dX6_prepare_9 : decode cX6_prepare 9 = .ok (.aload_n 1, 1) := by decide +kernel
theorem dX6_prepare_10 : decode cX6_prepare 10 = .ok (.invokevirtual 25, 3) := by decide +kernel
theorem dX6_prepare_13 : decode cX6_prepare 13 = .ok (.return_, 1) := by decide +kernel
theorem dX6_commit_0 : decode cX6_commit 0 = .ok (.aload_n 0, 1) := by decide +kernel
theorem dX6_commit_1 : decode cX6_commit 1 = .ok (.aload_n 0, 1) := by decide +kernel
theorem dX6_commit_2 : decode cX6_commit 2 = .ok (.getfield 17, 3) := by decide +kernel
theorem dX6_commit_5 : decode cX6_commit 5 = .ok (.iconst 1, 1) := by decide +kernel
theorem dX6_commit_6 : decode cX6_commit 6 = .ok (.iadd, 1) := by decide +kernel
theorem dX6_commit_7 : decode cX6_commit 7 = .ok (.bipush 9, 2) := by decide +kernel
theorem dX6_commit_9 : decode cX6_commit 9 = .ok (.if_icmp .ge 12, 3) := by decide +kernel
theorem dX6_commit_12 : decode cX6_commit 12 = .ok (.aload_n 0, 1) := by decide +kernel
theorem dX6_commit_13 : decode cX6_commit 13 = .ok (.getfield 17, 3) := by decide +kernel
theorem dX6_commit_16 : decode cX6_commit 16 = .ok (.iconst 1, 1) := by decide +kernel
theorem dX6_commit_17 : decode cX6_commit 17 = .ok (.iadd, 1) := by decide +kernel
theorem dX6_commit_18 : decode cX6_commit 18 = .ok (.goto 4, 3) := by decide +kernel
theorem dX6_commit_21 : decode cX6_commit 21 = .ok (.iconst 0, 1) := by decide +kernel
theorem dX6_commit_22 : decode cX6_commit 22 = .ok (.putfield 17, 3) := by decide +kernel
theorem dX6_commit_25 : decode cX6_commit 25 = .ok (.aload_n 0, 1) := by decide +kernel
theorem dX6_commit_26 : decode cX6_commit 26 = .ok (.bipush 8, 2) := by decide +kernel
theorem dX6_commit_28 : decode cX6_commit 28 = .ok (.aload_n 0, 1) := by decide +kernel
theorem dX6_commit_29 : decode cX6_commit 29 = .ok (.getfield 21, 3) := by decide +kernel
theorem dX6_commit_32 : decode cX6_commit 32 = .ok (.iconst 1, 1) := by decide +kernel
theorem dX6_commit_33 : decode cX6_commit 33 = .ok (.iadd, 1) := by decide +kernel
theorem dX6_commit_34 : decode cX6_commit 34 = .ok (.invokestatic 29, 3) := by decide +kernel
theorem dX6_commit_37 : decode cX6_commit 37 = .ok (.putfield 21, 3) := by decide +kernel
theorem dX6_commit_40 : decode cX6_commit 40 = .ok (.return_, 1) := by decide +kernel
theorem dX6_takeBack_0 : decode cX6_takeBack 0 = .ok (.aload_n 0, 1) := by decide +kernel
theorem dX6_takeBack_1 : decode cX6_takeBack 1 = .ok (.aload_n 0, 1) := by decide +kernel
theorem dX6_takeBack_2 : decode cX6_takeBack 2 = .ok (.getfield 17, 3) := by decide +kernel
theorem dX6_takeBack_5 : decode cX6_takeBack 5 = .ok (.ifCond .le 12, 3) := by decide +kernel
theorem dX6_takeBack_8 : decode cX6_takeBack 8 = .ok (.aload_n 0, 1) := by decide +kernel
theorem dX6_takeBack_9 : decode cX6_takeBack 9 = .ok (.getfield 17, 3) := by decide +kernel
theorem dX6_takeBack_12 : decode cX6_takeBack 12 = .ok (.iconst 1, 1) := by decide +kernel
theorem dX6_takeBack_13 : decode cX6_takeBack 13 = .ok (.isub, 1) := by decide +kernel
theorem dX6_takeBack_14 : decode cX6_takeBack 14 = .ok (.goto 5, 3) := by decide +kernel
theorem dX6_takeBack_17 : decode cX6_takeBack 17 = .ok (.bipush 8, 2) := by decide +kernel
theorem dX6_takeBack_19 : decode cX6_takeBack 19 = .ok (.putfield 17, 3) := by decide +kernel
theorem dX6_takeBack_22 : decode cX6_takeBack 22 = .ok (.aload_n 0, 1) := by decide +kernel
theorem dX6_takeBack_23 : decode cX6_takeBack 23 = .ok (.iconst 0, 1) := by decide +kernel
theorem dX6_takeBack_24 : decode cX6_takeBack 24 = .ok (.aload_n 0, 1) := by decide +kernel
theorem dX6_takeBack_25 : decode cX6_takeBack 25 = .ok (.getfield 21, 3) := by decide +kernel
theorem dX6_takeBack_28 : decode cX6_takeBack 28 = .ok (.iconst 1, 1) := by decide +kernel
theorem dX6_takeBack_29 : decode cX6_takeBack 29 = .ok (.isub, 1) := by decide +kernel
theorem dX6_takeBack_30 : decode cX6_takeBack 30 = .ok (.invokestatic 35, 3) := by decide +kernel
theorem dX6_takeBack_33 : decode cX6_takeBack 33 = .ok (.putfield 21, 3) := by decide +kernel
theorem dX6_takeBack_36 : decode cX6_takeBack 36 = .ok (.aload_n 1, 1) := by decide +kernel
theorem dX6_takeBack_37 : decode cX6_takeBack 37 = .ok (.aload_n 0, 1) := by decide +kernel
theorem dX6_takeBack_38 : decode cX6_takeBack 38 = .ok (.getfield 11, 3) := by decide +kernel
theorem dX6_takeBack_41 : decode cX6_takeBack 41 = .ok (.aload_n 0, 1) := by decide +kernel
theorem dX6_takeBack_42 : decode cX6_takeBack 42 = .ok (.getfield 17, 3) := by decide +kernel
theorem dX6_takeBack_45 : decode cX6_takeBack 45 = .ok (.aaload, 1) := by decide +kernel
theorem dX6_takeBack_46 : decode cX6_takeBack 46 = .ok (.invokevirtual 25, 3) := by decide +kernel
theorem dX6_takeBack_49 : decode cX6_takeBack 49 = .ok (.return_, 1) := by decide +kernel
theorem dX6_forget_0 : decode cX6_forget 0 = .ok (.aload_n 0, 1) := by decide +kernel
theorem dX6_forget_1 : decode cX6_forget 1 = .ok (.iconst 0, 1) := by decide +kernel
theorem dX6_forget_2 : decode cX6_forget 2 = .ok (.putfield 21, 3) := by decide +kernel
theorem dX6_forget_5 : decode cX6_forget 5 = .ok (.return_, 1) := by decide +kernel
theorem dX7_init_0 : decode cX7_init 0 = .ok (.aload_n 0, 1) := by decide +kernel
theorem dX7_init_1 : decode cX7_init 1 = .ok (.invokespecial 3, 3) := by decide +kernel
theorem dX7_init_4 : decode cX7_init 4 = .ok (.aload_n 0, 1) := by decide +kernel
theorem dX7_init_5 : decode cX7_init 5 = .ok (.iconst 0, 1) := by decide +kernel
theorem dX7_init_6 : decode cX7_init 6 = .ok (.putfield 9, 3) := by decide +kernel
theorem dX7_init_9 : decode cX7_init 9 = .ok (.aload_n 0, 1) := by decide +kernel
theorem dX7_init_10 : decode cX7_init 10 = .ok (.bipush 98, 2) := by decide +kernel
theorem dX7_init_12 : decode cX7_init 12 = .ok (.putfield 15, 3) := by decide +kernel
theorem dX7_init_15 : decode cX7_init 15 = .ok (.aload_n 0, 1) := by decide +kernel
theorem dX7_init_16 : decode cX7_init 16 = .ok (.bipush 20, 2) := by decide +kernel
theorem dX7_init_18 : decode cX7_init 18 = .ok (.putfield 19, 3) := by decide +kernel
theorem dX7_init_21 : decode cX7_init 21 = .ok (.aload_n 0, 1) := by decide +kernel
theorem dX7_init_22 : decode cX7_init 22 = .ok (.iconst 0, 1) := by decide +kernel
theorem dX7_init_23 : decode cX7_init 23 = .ok (.putfield 22, 3) := by decide +kernel
theorem dX7_init_26 : decode cX7_init 26 = .ok (.aload_n 0, 1) := by decide +kernel
theorem dX7_init_27 : decode cX7_init 27 = .ok (.bipush 10, 2) := by decide +kernel
theorem dX7_init_29 : decode cX7_init 29 = .ok (.putfield 25, 3) := by decide +kernel
theorem dX7_init_32 : decode cX7_init 32 = .ok (.aload_n 0, 1) := by decide +kernel
theorem dX7_init_33 : decode cX7_init 33 = .ok (.iconst 0, 1) := by decide +kernel
theorem dX7_init_34 : decode cX7_init 34 = .ok (.putfield 28, 3) := by decide +kernel
theorem dX7_init_37 : decode cX7_init 37 = .ok (.aload_n 0, 1) := by decide +kernel
theorem dX7_init_38 : decode cX7_init 38 = .ok (.iconst 0, 1) := by decide +kernel
theorem dX7_init_39 : decode cX7_init 39 = .ok (.putfield 32, 3) := by decide +kernel
theorem dX7_init_42 : decode cX7_init 42 = .ok (.aload_n 0, 1) := by decide +kernel
theorem dX7_init_43 : decode cX7_init 43 = .ok (.getstatic 35, 3) := by decide +kernel
theorem dX7_init_46 : decode cX7_init 46 = .ok (.putfield 41, 3) := by decide +kernel
theorem dX7_init_49 : decode cX7_init 49 = .ok (.return_, 1) := by decide +kernel
theorem dX7_begin_0 : decode cX7_begin 0 = .ok (.aload_n 0, 1) := by decide +kernel
theorem dX7_begin_1 : decode cX7_begin 1 = .ok (.iload_n 1, 1) := by decide +kernel
theorem dX7_begin_2 : decode cX7_begin 2 = .ok (.putfield 9, 3) := by decide +kernel
theorem dX7_begin_5 : decode cX7_begin 5 = .ok (.aload_n 0, 1) := by decide +kernel
theorem dX7_begin_6 : decode cX7_begin 6 = .ok (.iload_n 2, 1) := by decide +kernel
theorem dX7_begin_7 : decode cX7_begin 7 = .ok (.putfield 15, 3) := by decide +kernel
theorem dX7_begin_10 : decode cX7_begin 10 = .ok (.aload_n 0, 1) := by decide +kernel
theorem dX7_begin_11 : decode cX7_begin 11 = .ok (.bipush 20, 2) := by decide +kernel
theorem dX7_begin_13 : decode cX7_begin 13 = .ok (.putfield 19, 3) := by decide +kernel
theorem dX7_begin_16 : decode cX7_begin 16 = .ok (.aload_n 0, 1) := by decide +kernel
theorem dX7_begin_17 : decode cX7_begin 17 = .ok (.iconst 0, 1) := by decide +kernel
theorem dX7_begin_18 : decode cX7_begin 18 = .ok (.putfield 22, 3) := by decide +kernel
theorem dX7_begin_21 : decode cX7_begin 21 = .ok (.aload_n 0, 1) := by decide +kernel
theorem dX7_begin_22 : decode cX7_begin 22 = .ok (.bipush 10, 2) := by decide +kernel
theorem dX7_begin_24 : decode cX7_begin 24 = .ok (.putfield 25, 3) := by decide +kernel
theorem dX7_begin_27 : decode cX7_begin 27 = .ok (.aload_n 0, 1) := by decide +kernel
theorem dX7_begin_28 : decode cX7_begin 28 = .ok (.iconst 0, 1) := by decide +kernel
theorem dX7_begin_29 : decode cX7_begin 29 = .ok (.putfield 28, 3) := by decide +kernel
theorem dX7_begin_32 : decode cX7_begin 32 = .ok (.aload_n 0, 1) := by decide +kernel
theorem dX7_begin_33 : decode cX7_begin 33 = .ok (.iconst 0, 1) := by decide +kernel
theorem dX7_begin_34 : decode cX7_begin 34 = .ok (.putfield 32, 3) := by decide +kernel
theorem dX7_begin_37 : decode cX7_begin 37 = .ok (.aload_n 0, 1) := by decide +kernel
theorem dX7_begin_38 : decode cX7_begin 38 = .ok (.getstatic 35, 3) := by decide +kernel
theorem dX7_begin_41 : decode cX7_begin 41 = .ok (.putfield 41, 3) := by decide +kernel
theorem dX7_begin_44 : decode cX7_begin 44 = .ok (.return_, 1) := by decide +kernel
theorem dX7_copyFrom_0 : decode cX7_copyFrom 0 = .ok (.aload_n 0, 1) := by decide +kernel
theorem dX7_copyFrom_1 : decode cX7_copyFrom 1 = .ok (.aload_n 1, 1) := by decide +kernel
theorem dX7_copyFrom_2 : decode cX7_copyFrom 2 = .ok (.getfield 9, 3) := by decide +kernel
theorem dX7_copyFrom_5 : decode cX7_copyFrom 5 = .ok (.putfield 9, 3) := by decide +kernel
theorem dX7_copyFrom_8 : decode cX7_copyFrom 8 = .ok (.aload_n 0, 1) := by decide +kernel
theorem dX7_copyFrom_9 : decode cX7_copyFrom 9 = .ok (.aload_n 1, 1) := by decide +kernel
theorem dX7_copyFrom_10 : decode cX7_copyFrom 10 = .ok (.getfield 15, 3) := by decide +kernel
theorem dX7_copyFrom_13 : decode cX7_copyFrom 13 = .ok (.putfield 15, 3) := by decide +kernel
theorem dX7_copyFrom_16 : decode cX7_copyFrom 16 = .ok (.aload_n 0, 1) := by decide +kernel
theorem dX7_copyFrom_17 : decode cX7_copyFrom 17 = .ok (.aload_n 1, 1) := by decide +kernel
theorem dX7_copyFrom_18 : decode cX7_copyFrom 18 = .ok (.getfield 19, 3) := by decide +kernel
theorem dX7_copyFrom_21 : decode cX7_copyFrom 21 = .ok (.putfield 19, 3) := by decide +kernel
theorem dX7_copyFrom_24 : decode cX7_copyFrom 24 = .ok (.aload_n 0, 1) := by decide +kernel
theorem dX7_copyFrom_25 : decode cX7_copyFrom 25 = .ok (.aload_n 1, 1) := by decide +kernel
theorem dX7_copyFrom_26 : decode cX7_copyFrom 26 = .ok (.getfield 22, 3) := by decide +kernel
theorem dX7_copyFrom_29 : decode cX7_copyFrom 29 = .ok (.putfield 22, 3) := by decide +kernel
theorem dX7_copyFrom_32 : decode cX7_copyFrom 32 = .ok (.aload_n 0, 1) := by decide +kernel
theorem dX7_copyFrom_33 : decode cX7_copyFrom 33 = .ok (.aload_n 1, 1) := by decide +kernel
theorem dX7_copyFrom_34 : decode cX7_copyFrom 34 = .ok (.getfield 25, 3) := by decide +kernel
theorem dX7_copyFrom_37 : decode cX7_copyFrom 37 = .ok (.putfield 25, 3) := by decide +kernel
theorem dX7_copyFrom_40 : decode cX7_copyFrom 40 = .ok (.aload_n 0, 1) := by decide +kernel
theorem dX7_copyFrom_41 : decode cX7_copyFrom 41 = .ok (.aload_n 1, 1) := by decide +kernel
theorem dX7_copyFrom_42 : decode cX7_copyFrom 42 = .ok (.getfield 28, 3) := by decide +kernel
theorem dX7_copyFrom_45 : decode cX7_copyFrom 45 = .ok (.putfield 28, 3) := by decide +kernel
theorem dX7_copyFrom_48 : decode cX7_copyFrom 48 = .ok (.aload_n 0, 1) := by decide +kernel
theorem dX7_copyFrom_49 : decode cX7_copyFrom 49 = .ok (.aload_n 1, 1) := by decide +kernel
theorem dX7_copyFrom_50 : decode cX7_copyFrom 50 = .ok (.getfield 32, 3) := by decide +kernel
theorem dX7_copyFrom_53 : decode cX7_copyFrom 53 = .ok (.putfield 32, 3) := by decide +kernel
theorem dX7_copyFrom_56 : decode cX7_copyFrom 56 = .ok (.aload_n 0, 1) := by decide +kernel
theorem dX7_copyFrom_57 : decode cX7_copyFrom 57 = .ok (.aload_n 1, 1) := by decide +kernel
theorem dX7_copyFrom_58 : decode cX7_copyFrom 58 = .ok (.getfield 41, 3) := by decide +kernel
theorem dX7_copyFrom_61 : decode cX7_copyFrom 61 = .ok (.putfield 41, 3) := by decide +kernel
theorem dX7_copyFrom_64 : decode cX7_copyFrom 64 = .ok (.return_, 1) := by decide +kernel
theorem dX7_changeTemperature_0 : decode cX7_changeTemperature 0 = .ok (.aload_n 0, 1) := by decide +kernel
theorem dX7_changeTemperature_1 : decode cX7_changeTemperature 1 = .ok (.getfield 28, 3) := by decide +kernel
theorem dX7_changeTemperature_4 : decode cX7_changeTemperature 4 = .ok (.ifCond .ne 25, 3) := by decide +kernel
theorem dX7_changeTemperature_7 : decode cX7_changeTemperature 7 = .ok (.aload_n 0, 1) := by decide +kernel
theorem dX7_changeTemperature_8 : decode cX7_changeTemperature 8 = .ok (.dup, 1) := by decide +kernel
theorem dX7_changeTemperature_9 : decode cX7_changeTemperature 9 = .ok (.getfield 19, 3) := by decide +kernel
theorem dX7_changeTemperature_12 : decode cX7_changeTemperature 12 = .ok (.aload_n 0, 1) := by decide +kernel
theorem dX7_changeTemperature_13 : decode cX7_changeTemperature 13 = .ok (.getfield 19, 3) := by decide +kernel
theorem dX7_changeTemperature_16 : decode cX7_changeTemperature 16 = .ok (.bipush 20, 2) := by decide +kernel
theorem dX7_changeTemperature_18 : decode cX7_changeTemperature 18 = .ok (.isub, 1) := by decide +kernel
theorem dX7_changeTemperature_19 : decode cX7_changeTemperature 19 = .ok (.bipush 8, 2) := by decide +kernel
theorem dX7_changeTemperature_21 : decode cX7_changeTemperature 21 = .ok (.idiv, 1) := by decide +kernel
theorem dX7_changeTemperature_22 : decode cX7_changeTemperature 22 = .ok (.isub, 1) := by decide +kernel
theorem dX7_changeTemperature_23 : decode cX7_changeTemperature 23 = .ok (.putfield 19, 3) := by decide +kernel
theorem dX7_changeTemperature_26 : decode cX7_changeTemperature 26 = .ok (.goto 48, 3) := by decide +kernel
theorem dX7_changeTemperature_29 : decode cX7_changeTemperature 29 = .ok (.aload_n 0, 1) := by decide +kernel
theorem dX7_changeTemperature_30 : decode cX7_changeTemperature 30 = .ok (.getfield 19, 3) := by decide +kernel
theorem dX7_changeTemperature_33 : decode cX7_changeTemperature 33 = .ok (.iload_n 1, 1) := by decide +kernel
theorem dX7_changeTemperature_34 : decode cX7_changeTemperature 34 = .ok (.if_icmp .ge 23, 3) := by decide +kernel
theorem dX7_changeTemperature_37 : decode cX7_changeTemperature 37 = .ok (.aload_n 0, 1) := by decide +kernel
theorem dX7_changeTemperature_38 : decode cX7_changeTemperature 38 = .ok (.dup, 1) := by decide +kernel
theorem dX7_changeTemperature_39 : decode cX7_changeTemperature 39 = .ok (.getfield 19, 3) := by decide +kernel
theorem dX7_changeTemperature_42 : decode cX7_changeTemperature 42 = .ok (.iload_n 1, 1) := by decide +kernel
theorem dX7_changeTemperature_43 : decode cX7_changeTemperature 43 = .ok (.aload_n 0, 1) := by decide +kernel
theorem dX7_changeTemperature_44 : decode cX7_changeTemperature 44 = .ok (.getfield 19, 3) := by decide +kernel
theorem dX7_changeTemperature_47 : decode cX7_changeTemperature 47 = .ok (.isub, 1) := by decide +kernel
theorem dX7_changeTemperature_48 : decode cX7_changeTemperature 48 = .ok (.iconst 4, 1) := by decide +kernel
theorem dX7_changeTemperature_49 : decode cX7_changeTemperature 49 = .ok (.idiv, 1) := by decide +kernel
theorem dX7_changeTemperature_50 : decode cX7_changeTemperature 50 = .ok (.iadd, 1) := by decide +kernel
theorem dX7_changeTemperature_51 : decode cX7_changeTemperature 51 = .ok (.putfield 19, 3) := by decide +kernel
theorem dX7_changeTemperature_54 : decode cX7_changeTemperature 54 = .ok (.goto 20, 3) := by decide +kernel
theorem dX7_changeTemperature_57 : decode cX7_changeTemperature 57 = .ok (.aload_n 0, 1) := by decide +kernel
theorem dX7_changeTemperature_58 : decode cX7_changeTemperature 58 = .ok (.dup, 1) := by decide +kernel
theorem dX7_changeTemperature_59 : decode cX7_changeTemperature 59 = .ok (.getfield 19, 3) := by decide +kernel
theorem dX7_changeTemperature_62 : decode cX7_changeTemperature 62 = .ok (.aload_n 0, 1) := by decide +kernel
theorem dX7_changeTemperature_63 : decode cX7_changeTemperature 63 = .ok (.getfield 19, 3) := by decide +kernel
theorem dX7_changeTemperature_66 : decode cX7_changeTemperature 66 = .ok (.iload_n 1, 1) := by decide +kernel
theorem dX7_changeTemperature_67 : decode cX7_changeTemperature 67 = .ok (.isub, 1) := by decide +kernel
theorem dX7_changeTemperature_68 : decode cX7_changeTemperature 68 = .ok (.iconst 4, 1) := by decide +kernel
theorem dX7_changeTemperature_69 : decode cX7_changeTemperature 69 = .ok (.idiv, 1) := by decide +kernel
theorem dX7_changeTemperature_70 : decode cX7_changeTemperature 70 = .ok (.isub, 1) := by decide +kernel
theorem dX7_changeTemperature_71 : decode cX7_changeTemperature 71 = .ok (.putfield 19, 3) := by decide +kernel
theorem dX7_changeTemperature_74 : decode cX7_changeTemperature 74 = .ok (.return_, 1) := by decide +kernel
theorem dX7_temper_0 : decode cX7_temper 0 = .ok (.aload_n 0, 1) := by decide +kernel
theorem dX7_temper_1 : decode cX7_temper 1 = .ok (.getfield 32, 3) := by decide +kernel
theorem dX7_temper_4 : decode cX7_temper 4 = .ok (.ifCond .ne 4, 3) := by decide +kernel
theorem dX7_temper_7 : decode cX7_temper 7 = .ok (.return_, 1) := by decide +kernel
theorem dX7_temper_8 : decode cX7_temper 8 = .ok (.aload_n 0, 1) := by decide +kernel
theorem dX7_temper_9 : decode cX7_temper 9 = .ok (.getfield 19, 3) := by decide +kernel
theorem dX7_temper_12 : decode cX7_temper 12 = .ok (.sipush 200, 3) := by decide +kernel
theorem dX7_temper_15 : decode cX7_temper 15 = .ok (.if_icmp .lt 27, 3) := by decide +kernel
theorem dX7_temper_18 : decode cX7_temper 18 = .ok (.aload_n 0, 1) := by decide +kernel
theorem dX7_temper_19 : decode cX7_temper 19 = .ok (.getfield 19, 3) := by decide +kernel
theorem dX7_temper_22 : decode cX7_temper 22 = .ok (.sipush 400, 3) := by decide +kernel
theorem dX7_temper_25 : decode cX7_temper 25 = .ok (.if_icmp .gt 17, 3) := by decide +kernel
theorem dX7_temper_28 : decode cX7_temper 28 = .ok (.aload_n 0, 1) := by decide +kernel
theorem dX7_temper_29 : decode cX7_temper 29 = .ok (.iconst 0, 1) := by decide +kernel
theorem dX7_temper_30 : decode cX7_temper 30 = .ok (.aload_n 0, 1) := by decide +kernel
theorem dX7_temper_31 : decode cX7_temper 31 = .ok (.getfield 25, 3) := by decide +kernel
theorem dX7_temper_34 : decode cX7_temper 34 = .ok (.iconst 1, 1) := by decide +kernel
theorem dX7_temper_35 : decode cX7_temper 35 = .ok (.isub, 1) := by decide +kernel
theorem dX7_temper_36 : decode cX7_temper 36 = .ok (.invokestatic 44, 3) := by decide +kernel
theorem dX7_temper_39 : decode cX7_temper 39 = .ok (.putfield 25, 3) := by decide +kernel
theorem dX7_temper_42 : decode cX7_temper 42 = .ok (.aload_n 0, 1) := by decide +kernel
theorem dX7_temper_43 : decode cX7_temper 43 = .ok (.getfield 19, 3) := by decide +kernel
theorem dX7_temper_46 : decode cX7_temper 46 = .ok (.sipush 700, 3) := by decide +kernel
theorem dX7_temper_49 : decode cX7_temper 49 = .ok (.if_icmp .lt 21, 3) := by decide +kernel
theorem dX7_temper_52 : decode cX7_temper 52 = .ok (.aload_n 0, 1) := by decide +kernel
theorem dX7_temper_53 : decode cX7_temper 53 = .ok (.iconst 0, 1) := by decide +kernel
theorem dX7_temper_54 : decode cX7_temper 54 = .ok (.putfield 32, 3) := by decide +kernel
theorem dX7_temper_57 : decode cX7_temper 57 = .ok (.aload_n 0, 1) := by decide +kernel
theorem dX7_temper_58 : decode cX7_temper 58 = .ok (.getstatic 35, 3) := by decide +kernel
theorem dX7_temper_61 : decode cX7_temper 61 = .ok (.putfield 41, 3) := by decide +kernel
theorem dX7_temper_64 : decode cX7_temper 64 = .ok (.aload_n 0, 1) := by decide +kernel
theorem dX7_temper_65 : decode cX7_temper 65 = .ok (.bipush 10, 2) := by decide +kernel
theorem dX7_temper_67 : decode cX7_temper 67 = .ok (.putfield 25, 3) := by decide +kernel
theorem dX7_temper_70 : decode cX7_temper 70 = .ok (.return_, 1) := by decide +kernel
theorem dX7_stagesGained_0 : decode cX7_stagesGained 0 = .ok (.iconst 0, 1) := by decide +kernel
theorem dX7_stagesGained_1 : decode cX7_stagesGained 1 = .ok (.aload_n 0, 1) := by decide +kernel
theorem dX7_stagesGained_2 : decode cX7_stagesGained 2 = .ok (.getfield 19, 3) := by decide +kernel
theorem dX7_stagesGained_5 : decode cX7_stagesGained 5 = .ok (.sipush 500, 3) := by decide +kernel
theorem dX7_stagesGained_8 : decode cX7_stagesGained 8 = .ok (.isub, 1) := by decide +kernel
theorem dX7_stagesGained_9 : decode cX7_stagesGained 9 = .ok (.invokestatic 44, 3) := by decide +kernel
theorem dX7_stagesGained_12 : decode cX7_stagesGained 12 = .ok (.istore_n 2, 1) := by decide +kernel
theorem dX7_stagesGained_13 : decode cX7_stagesGained 13 = .ok (.iconst 1, 1) := by decide +kernel
theorem dX7_stagesGained_14 : decode cX7_stagesGained 14 = .ok (.iload_n 1, 1) := by decide +kernel
theorem dX7_stagesGained_15 : decode cX7_stagesGained 15 = .ok (.iload_n 2, 1) := by decide +kernel
theorem dX7_stagesGained_16 : decode cX7_stagesGained 16 = .ok (.imul, 1) := by decide +kernel
theorem dX7_stagesGained_17 : decode cX7_stagesGained 17 = .ok (.sipush 1000, 3) := by decide +kernel
theorem dX7_stagesGained_20 : decode cX7_stagesGained 20 = .ok (.idiv, 1) := by decide +kernel
theorem dX7_stagesGained_21 : decode cX7_stagesGained 21 = .ok (.iadd, 1) := by decide +kernel
theorem dX7_stagesGained_22 : decode cX7_stagesGained 22 = .ok (.bipush 10, 2) := by decide +kernel
theorem dX7_stagesGained_24 : decode cX7_stagesGained 24 = .ok (.aload_n 0, 1) := by decide +kernel
theorem dX7_stagesGained_25 : decode cX7_stagesGained 25 = .ok (.getfield 22, 3) := by decide +kernel
theorem dX7_stagesGained_28 : decode cX7_stagesGained 28 = .ok (.isub, 1) := by decide +kernel
theorem dX7_stagesGained_29 : decode cX7_stagesGained 29 = .ok (.invokestatic 50, 3) := by decide +kernel
theorem dX7_stagesGained_32 : decode cX7_stagesGained 32 = .ok (.ireturn, 1) := by decide +kernel
theorem dX7_harden_0 : decode cX7_harden 0 = .ok (.aload_n 0, 1) := by decide +kernel
theorem dX7_harden_1 : decode cX7_harden 1 = .ok (.bipush 99, 2) := by decide +kernel
theorem dX7_harden_3 : decode cX7_harden 3 = .ok (.aload_n 0, 1) := by decide +kernel
theorem dX7_harden_4 : decode cX7_harden 4 = .ok (.getfield 25, 3) := by decide +kernel
theorem dX7_harden_7 : decode cX7_harden 7 = .ok (.iload_n 1, 1) := by decide +kernel
theorem dX7_harden_8 : decode cX7_harden 8 = .ok (.iadd, 1) := by decide +kernel
theorem dX7_harden_9 : decode cX7_harden 9 = .ok (.invokestatic 50, 3) := by decide +kernel
theorem dX7_harden_12 : decode cX7_harden 12 = .ok (.putfield 25, 3) := by decide +kernel
theorem dX7_harden_15 : decode cX7_harden 15 = .ok (.return_, 1) := by decide +kernel
theorem dX7_meetsTest_0 : decode cX7_meetsTest 0 = .ok (.aload_n 0, 1) := by decide +kernel
theorem dX7_meetsTest_1 : decode cX7_meetsTest 1 = .ok (.getfield 22, 3) := by decide +kernel
theorem dX7_meetsTest_4 : decode cX7_meetsTest 4 = .ok (.bipush 10, 2) := by decide +kernel
theorem dX7_meetsTest_6 : decode cX7_meetsTest 6 = .ok (.if_icmp .ne 25, 3) := by decide +kernel
theorem dX7_meetsTest_9 : decode cX7_meetsTest 9 = .ok (.aload_n 0, 1) := by decide +kernel
theorem dX7_meetsTest_10 : decode cX7_meetsTest 10 = .ok (.getfield 25, 3) := by decide +kernel
theorem dX7_meetsTest_13 : decode cX7_meetsTest 13 = .ok (.bipush 40, 2) := by decide +kernel
theorem dX7_meetsTest_15 : decode cX7_meetsTest 15 = .ok (.if_icmp .lt 16, 3) := by decide +kernel
theorem dX7_meetsTest_18 : decode cX7_meetsTest 18 = .ok (.aload_n 0, 1) := by decide +kernel
theorem dX7_meetsTest_19 : decode cX7_meetsTest 19 = .ok (.getfield 25, 3) := by decide +kernel
theorem dX7_meetsTest_22 : decode cX7_meetsTest 22 = .ok (.bipush 70, 2) := by decide +kernel
theorem dX7_meetsTest_24 : decode cX7_meetsTest 24 = .ok (.if_icmp .gt 7, 3) := by decide +kernel
theorem dX7_meetsTest_27 : decode cX7_meetsTest 27 = .ok (.iconst 1, 1) := by decide +kernel
theorem dX7_meetsTest_28 : decode cX7_meetsTest 28 = .ok (.goto 4, 3) := by decide +kernel
theorem dX7_meetsTest_31 : decode cX7_meetsTest 31 = .ok (.iconst 0, 1) := by decide +kernel
theorem dX7_meetsTest_32 : decode cX7_meetsTest 32 = .ok (.ireturn, 1) := by decide +kernel
theorem dX7_isReadyForBird_0 : decode cX7_isReadyForBird 0 = .ok (.aload_n 0, 1) := by decide +kernel
theorem dX7_isReadyForBird_1 : decode cX7_isReadyForBird 1 = .ok (.getfield 28, 3) := by decide +kernel
theorem dX7_isReadyForBird_4 : decode cX7_isReadyForBird 4 = .ok (.ifCond .ne 17, 3) := by decide +kernel
theorem dX7_isReadyForBird_7 : decode cX7_isReadyForBird 7 = .ok (.aload_n 0, 1) := by decide +kernel
theorem dX7_isReadyForBird_8 : decode cX7_isReadyForBird 8 = .ok (.getfield 41, 3) := by decide +kernel
theorem dX7_isReadyForBird_11 : decode cX7_isReadyForBird 11 = .ok (.getstatic 53, 3) := by decide +kernel
theorem dX7_isReadyForBird_14 : decode cX7_isReadyForBird 14 = .ok (.if_acmp .ne 7, 3) := by decide +kernel
theorem dX7_isReadyForBird_17 : decode cX7_isReadyForBird 17 = .ok (.iconst 1, 1) := by decide +kernel
theorem dX7_isReadyForBird_18 : decode cX7_isReadyForBird 18 = .ok (.goto 4, 3) := by decide +kernel
theorem dX7_isReadyForBird_21 : decode cX7_isReadyForBird 21 = .ok (.iconst 0, 1) := by decide +kernel
theorem dX7_isReadyForBird_22 : decode cX7_isReadyForBird 22 = .ok (.ireturn, 1) := by decide +kernel
theorem dX7_ranksBefore_0 : decode cX7_ranksBefore 0 = .ok (.aload_n 0, 1) := by decide +kernel
theorem dX7_ranksBefore_1 : decode cX7_ranksBefore 1 = .ok (.getfield 25, 3) := by decide +kernel
theorem dX7_ranksBefore_4 : decode cX7_ranksBefore 4 = .ok (.aload_n 1, 1) := by decide +kernel
theorem dX7_ranksBefore_5 : decode cX7_ranksBefore 5 = .ok (.getfield 25, 3) := by decide +kernel
theorem dX7_ranksBefore_8 : decode cX7_ranksBefore 8 = .ok (.if_icmp .eq 20, 3) := by decide +kernel
theorem dX7_ranksBefore_11 : decode cX7_ranksBefore 11 = .ok (.aload_n 0, 1) := by decide +kernel
theorem dX7_ranksBefore_12 : decode cX7_ranksBefore 12 = .ok (.getfield 25, 3) := by decide +kernel
theorem dX7_ranksBefore_15 : decode cX7_ranksBefore 15 = .ok (.aload_n 1, 1) := by decide +kernel
theorem dX7_ranksBefore_16 : decode cX7_ranksBefore 16 = .ok (.getfield 25, 3) := by decide +kernel
theorem dX7_ranksBefore_19 : decode cX7_ranksBefore 19 = .ok (.if_icmp .le 7, 3) := by decide +kernel
theorem dX7_ranksBefore_22 : decode cX7_ranksBefore 22 = .ok (.iconst 1, 1) := by decide +kernel
theorem dX7_ranksBefore_23 : decode cX7_ranksBefore 23 = .ok (.goto 4, 3) := by decide +kernel
theorem dX7_ranksBefore_26 : decode cX7_ranksBefore 26 = .ok (.iconst 0, 1) := by decide +kernel
theorem dX7_ranksBefore_27 : decode cX7_ranksBefore 27 = .ok (.ireturn, 1) := by decide +kernel
theorem dX7_ranksBefore_28 : decode cX7_ranksBefore 28 = .ok (.aload_n 0, 1) := by decide +kernel
theorem dX7_ranksBefore_29 : decode cX7_ranksBefore 29 = .ok (.getfield 22, 3) := by decide +kernel
theorem dX7_ranksBefore_32 : decode cX7_ranksBefore 32 = .ok (.aload_n 1, 1) := by decide +kernel
theorem dX7_ranksBefore_33 : decode cX7_ranksBefore 33 = .ok (.getfield 22, 3) := by decide +kernel
theorem dX7_ranksBefore_36 : decode cX7_ranksBefore 36 = .ok (.if_icmp .eq 20, 3) := by decide +kernel
theorem dX7_ranksBefore_39 : decode cX7_ranksBefore 39 = .ok (.aload_n 0, 1) := by decide +kernel
theorem dX7_ranksBefore_40 : decode cX7_ranksBefore 40 = .ok (.getfield 22, 3) := by decide +kernel
theorem dX7_ranksBefore_43 : decode cX7_ranksBefore 43 = .ok (.aload_n 1, 1) := by decide +kernel
theorem dX7_ranksBefore_44 : decode cX7_ranksBefore 44 = .ok (.getfield 22, 3) := by decide +kernel
theorem dX7_ranksBefore_47 : decode cX7_ranksBefore 47 = .ok (.if_icmp .le 7, 3) := by decide +kernel
theorem dX7_ranksBefore_50 : decode cX7_ranksBefore 50 = .ok (.iconst 1, 1) := by decide +kernel
theorem dX7_ranksBefore_51 : decode cX7_ranksBefore 51 = .ok (.goto 4, 3) := by decide +kernel
theorem dX7_ranksBefore_54 : decode cX7_ranksBefore 54 = .ok (.iconst 0, 1) := by decide +kernel
theorem dX7_ranksBefore_55 : decode cX7_ranksBefore 55 = .ok (.ireturn, 1) := by decide +kernel
theorem dX7_ranksBefore_56 : decode cX7_ranksBefore 56 = .ok (.aload_n 0, 1) := by decide +kernel
theorem dX7_ranksBefore_57 : decode cX7_ranksBefore 57 = .ok (.getfield 9, 3) := by decide +kernel
theorem dX7_ranksBefore_60 : decode cX7_ranksBefore 60 = .ok (.aload_n 1, 1) := by decide +kernel
theorem dX7_ranksBefore_61 : decode cX7_ranksBefore 61 = .ok (.getfield 9, 3) := by decide +kernel
theorem dX7_ranksBefore_64 : decode cX7_ranksBefore 64 = .ok (.if_icmp .ge 7, 3) := by decide +kernel
theorem dX7_ranksBefore_67 : decode cX7_ranksBefore 67 = .ok (.iconst 1, 1) := by decide +kernel
theorem dX7_ranksBefore_68 : decode cX7_ranksBefore 68 = .ok (.goto 4, 3) := by decide +kernel
theorem dX7_ranksBefore_71 : decode cX7_ranksBefore 71 = .ok (.iconst 0, 1) := by decide +kernel
theorem dX7_ranksBefore_72 : decode cX7_ranksBefore 72 = .ok (.ireturn, 1) := by decide +kernel
theorem dX7_writeTo_0 : decode cX7_writeTo 0 = .ok (.aload_n 1, 1) := by decide +kernel
theorem dX7_writeTo_1 : decode cX7_writeTo 1 = .ok (.aload_n 0, 1) := by decide +kernel
theorem dX7_writeTo_2 : decode cX7_writeTo 2 = .ok (.getfield 9, 3) := by decide +kernel
theorem dX7_writeTo_5 : decode cX7_writeTo 5 = .ok (.invokevirtual 56, 3) := by decide +kernel
theorem dX7_writeTo_8 : decode cX7_writeTo 8 = .ok (.aload_n 0, 1) := by decide +kernel
theorem dX7_writeTo_9 : decode cX7_writeTo 9 = .ok (.getfield 15, 3) := by decide +kernel
theorem dX7_writeTo_12 : decode cX7_writeTo 12 = .ok (.invokevirtual 62, 3) := by decide +kernel
theorem dX7_writeTo_15 : decode cX7_writeTo 15 = .ok (.bipush 58, 2) := by decide +kernel
theorem dX7_writeTo_17 : decode cX7_writeTo 17 = .ok (.invokevirtual 62, 3) := by decide +kernel
theorem dX7_writeTo_20 : decode cX7_writeTo 20 = .ok (.aload_n 0, 1) := by decide +kernel
theorem dX7_writeTo_21 : decode cX7_writeTo 21 = .ok (.getfield 19, 3) := by decide +kernel
theorem dX7_writeTo_24 : decode cX7_writeTo 24 = .ok (.invokevirtual 56, 3) := by decide +kernel
theorem dX7_writeTo_27 : decode cX7_writeTo 27 = .ok (.pop, 1) := by decide +kernel
theorem dX7_writeTo_28 : decode cX7_writeTo 28 = .ok (.aload_n 1, 1) := by decide +kernel
theorem dX7_writeTo_29 : decode cX7_writeTo 29 = .ok (.bipush 47, 2) := by decide +kernel
theorem dX7_writeTo_31 : decode cX7_writeTo 31 = .ok (.invokevirtual 62, 3) := by decide +kernel
theorem dX7_writeTo_34 : decode cX7_writeTo 34 = .ok (.aload_n 0, 1) := by decide +kernel
theorem dX7_writeTo_35 : decode cX7_writeTo 35 = .ok (.getfield 22, 3) := by decide +kernel
theorem dX7_writeTo_38 : decode cX7_writeTo 38 = .ok (.invokevirtual 56, 3) := by decide +kernel
theorem dX7_writeTo_41 : decode cX7_writeTo 41 = .ok (.bipush 47, 2) := by decide +kernel
theorem dX7_writeTo_43 : decode cX7_writeTo 43 = .ok (.invokevirtual 62, 3) := by decide +kernel
theorem dX7_writeTo_46 : decode cX7_writeTo 46 = .ok (.aload_n 0, 1) := by decide +kernel
theorem dX7_writeTo_47 : decode cX7_writeTo 47 = .ok (.getfield 25, 3) := by decide +kernel
theorem dX7_writeTo_50 : decode cX7_writeTo 50 = .ok (.invokevirtual 56, 3) := by decide +kernel
theorem dX7_writeTo_53 : decode cX7_writeTo 53 = .ok (.pop, 1) := by decide +kernel
theorem dX7_writeTo_54 : decode cX7_writeTo 54 = .ok (.aload_n 0, 1) := by decide +kernel
theorem dX7_writeTo_55 : decode cX7_writeTo 55 = .ok (.getfield 28, 3) := by decide +kernel
theorem dX7_writeTo_58 : decode cX7_writeTo 58 = .ok (.ifCond .eq 10, 3) := by decide +kernel
theorem dX7_writeTo_61 : decode cX7_writeTo 61 = .ok (.aload_n 1, 1) := by decide +kernel
theorem dX7_writeTo_62 : decode cX7_writeTo 62 = .ok (.bipush 42, 2) := by decide +kernel
theorem dX7_writeTo_64 : decode cX7_writeTo 64 = .ok (.invokevirtual 62, 3) := by decide +kernel
theorem dX7_writeTo_67 : decode cX7_writeTo 67 = .ok (.pop, 1) := by decide +kernel
theorem dX7_writeTo_68 : decode cX7_writeTo 68 = .ok (.aload_n 0, 1) := by decide +kernel
theorem dX7_writeTo_69 : decode cX7_writeTo 69 = .ok (.getfield 32, 3) := by decide +kernel
theorem dX7_writeTo_72 : decode cX7_writeTo 72 = .ok (.ifCond .eq 10, 3) := by decide +kernel
theorem dX7_writeTo_75 : decode cX7_writeTo 75 = .ok (.aload_n 1, 1) := by decide +kernel
theorem dX7_writeTo_76 : decode cX7_writeTo 76 = .ok (.bipush 113, 2) := by decide +kernel
theorem dX7_writeTo_78 : decode cX7_writeTo 78 = .ok (.invokevirtual 62, 3) := by decide +kernel
theorem dX7_writeTo_81 : decode cX7_writeTo 81 = .ok (.pop, 1) := by decide +kernel
theorem dX7_writeTo_82 : decode cX7_writeTo 82 = .ok (.aload_n 0, 1) := by decide +kernel
theorem dX7_writeTo_83 : decode cX7_writeTo 83 = .ok (.getfield 41, 3) := by decide +kernel
theorem dX7_writeTo_86 : decode cX7_writeTo 86 = .ok (.getstatic 53, 3) := by decide +kernel
theorem dX7_writeTo_89 : decode cX7_writeTo 89 = .ok (.if_acmp .ne 10, 3) := by decide +kernel
theorem dX7_writeTo_92 : decode cX7_writeTo 92 = .ok (.aload_n 1, 1) := by decide +kernel
theorem dX7_writeTo_93 : decode cX7_writeTo 93 = .ok (.bipush 43, 2) := by decide +kernel
theorem dX7_writeTo_95 : decode cX7_writeTo 95 = .ok (.invokevirtual 62, 3) := by decide +kernel
theorem dX7_writeTo_98 : decode cX7_writeTo 98 = .ok (.pop, 1) := by decide +kernel
theorem dX7_writeTo_99 : decode cX7_writeTo 99 = .ok (.aload_n 0, 1) := by decide +kernel
theorem dX7_writeTo_100 : decode cX7_writeTo 100 = .ok (.getfield 41, 3) := by decide +kernel
theorem dX7_writeTo_103 : decode cX7_writeTo 103 = .ok (.getstatic 65, 3) := by decide +kernel
theorem dX7_writeTo_106 : decode cX7_writeTo 106 = .ok (.if_acmp .ne 10, 3) := by decide +kernel
theorem dX7_writeTo_109 : decode cX7_writeTo 109 = .ok (.aload_n 1, 1) := by decide +kernel
theorem dX7_writeTo_110 : decode cX7_writeTo 110 = .ok (.bipush 45, 2) := by decide +kernel
theorem dX7_writeTo_112 : decode cX7_writeTo 112 = .ok (.invokevirtual 62, 3) := by decide +kernel
theorem dX7_writeTo_115 : decode cX7_writeTo 115 = .ok (.pop, 1) := by decide +kernel
theorem dX7_writeTo_116 : decode cX7_writeTo 116 = .ok (.return_, 1) := by decide +kernel
theorem dX8_init_0 : decode cX8_init 0 = .ok (.aload_n 0, 1) := by decide +kernel
theorem dX8_init_1 : decode cX8_init 1 = .ok (.invokespecial 3, 3) := by decide +kernel
theorem dX8_init_4 : decode cX8_init 4 = .ok (.aload_n 0, 1) := by decide +kernel
theorem dX8_init_5 : decode cX8_init 5 = .ok (.bipush 60, 2) := by decide +kernel
theorem dX8_init_7 : decode cX8_init 7 = .ok (.newarray .char, 2) := by decide +kernel
theorem dX8_init_9 : decode cX8_init 9 = .ok (.putfield 9, 3) := by decide +kernel
theorem dX8_init_12 : decode cX8_init 12 = .ok (.aload_n 0, 1) := by decide +kernel
theorem dX8_init_13 : decode cX8_init 13 = .ok (.bipush 12, 2) := by decide +kernel
theorem dX8_init_15 : decode cX8_init 15 = .ok (.anewarray 15, 3) := by decide +kernel
theorem dX8_init_18 : decode cX8_init 18 = .ok (.putfield 17, 3) := by decide +kernel
theorem dX8_init_21 : decode cX8_init 21 = .ok (.aload_n 0, 1) := by decide +kernel
theorem dX8_init_22 : decode cX8_init 22 = .ok (.bipush 12, 2) := by decide +kernel
theorem dX8_init_24 : decode cX8_init 24 = .ok (.iconst 4, 1) := by decide +kernel
theorem dX8_init_25 : decode cX8_init 25 = .ok (.multianewarray 21 2, 4) := by decide +kernel
theorem dX8_init_29 : decode cX8_init 29 = .ok (.putfield 23, 3) := by decide +kernel
theorem dX8_init_32 : decode cX8_init 32 = .ok (.aload_n 0, 1) := by decide +kernel
theorem dX8_init_33 : decode cX8_init 33 = .ok (.iconst 0, 1) := by decide +kernel
theorem dX8_init_34 : decode cX8_init 34 = .ok (.putfield 26, 3) := by decide +kernel
theorem dX8_init_37 : decode cX8_init 37 = .ok (.aload_n 0, 1) := by decide +kernel
theorem dX8_init_38 : decode cX8_init 38 = .ok (.iconst 0, 1) := by decide +kernel
theorem dX8_init_39 : decode cX8_init 39 = .ok (.putfield 30, 3) := by decide +kernel
theorem dX8_init_42 : decode cX8_init 42 = .ok (.aload_n 0, 1) := by decide +kernel
theorem dX8_init_43 : decode cX8_init 43 = .ok (.iconst 0, 1) := by decide +kernel
theorem dX8_init_44 : decode cX8_init 44 = .ok (.putfield 33, 3) := by decide +kernel
theorem dX8_init_47 : decode cX8_init 47 = .ok (.iconst 0, 1) := by decide +kernel
theorem dX8_init_48 : decode cX8_init 48 = .ok (.istore_n 1, 1) := by decide +kernel
theorem dX8_init_49 : decode cX8_init 49 = .ok (.iload_n 1, 1) := by decide +kernel
theorem dX8_init_50 : decode cX8_init 50 = .ok (.aload_n 0, 1) := by decide +kernel
theorem dX8_init_51 : decode cX8_init 51 = .ok (.getfield 17, 3) := by decide +kernel
theorem dX8_init_54 : decode cX8_init 54 = .ok (.arraylength, 1) := by decide +kernel
theorem dX8_init_55 : decode cX8_init 55 = .ok (.if_icmp .ge 18, 3) := by decide +kernel
theorem dX8_init_58 : decode cX8_init 58 = .ok (.aload_n 0, 1) := by decide +kernel
theorem dX8_init_59 : decode cX8_init 59 = .ok (.getfield 17, 3) := by decide +kernel
theorem dX8_init_62 : decode cX8_init 62 = .ok (.iload_n 1, 1) := by decide +kernel
theorem dX8_init_63 : decode cX8_init 63 = .ok (.getstatic 36, 3) := by decide +kernel
theorem dX8_init_66 : decode cX8_init 66 = .ok (.aastore, 1) := by decide +kernel
theorem dX8_init_67 : decode cX8_init 67 = .ok (.iinc 1 1, 3) := by decide +kernel
theorem dX8_init_70 : decode cX8_init 70 = .ok (.goto (-21), 3) := by decide +kernel
theorem dX8_init_73 : decode cX8_init 73 = .ok (.return_, 1) := by decide +kernel
theorem dX8_isFull_0 : decode cX8_isFull 0 = .ok (.aload_n 0, 1) := by decide +kernel
theorem dX8_isFull_1 : decode cX8_isFull 1 = .ok (.getfield 26, 3) := by decide +kernel
theorem dX8_isFull_4 : decode cX8_isFull 4 = .ok (.bipush 60, 2) := by decide +kernel
theorem dX8_isFull_6 : decode cX8_isFull 6 = .ok (.if_icmp .lt 7, 3) := by decide +kernel
theorem dX8_isFull_9 : decode cX8_isFull 9 = .ok (.iconst 1, 1) := by decide +kernel
theorem dX8_isFull_10 : decode cX8_isFull 10 = .ok (.goto 4, 3) := by decide +kernel
theorem dX8_isFull_13 : decode cX8_isFull 13 = .ok (.iconst 0, 1) := by decide +kernel
theorem dX8_isFull_14 : decode cX8_isFull 14 = .ok (.ireturn, 1) := by decide +kernel
theorem dX8_put_0 : decode cX8_put 0 = .ok (.aload_n 0, 1) := by decide +kernel
theorem dX8_put_1 : decode cX8_put 1 = .ok (.getfield 26, 3) := by decide +kernel
theorem dX8_put_4 : decode cX8_put 4 = .ok (.bipush 60, 2) := by decide +kernel
theorem dX8_put_6 : decode cX8_put 6 = .ok (.if_icmp .ge 23, 3) := by decide +kernel
theorem dX8_put_9 : decode cX8_put 9 = .ok (.aload_n 0, 1) := by decide +kernel
theorem dX8_put_10 : decode cX8_put 10 = .ok (.getfield 9, 3) := by decide +kernel
theorem dX8_put_13 : decode cX8_put 13 = .ok (.aload_n 0, 1) := by decide +kernel
theorem dX8_put_14 : decode cX8_put 14 = .ok (.getfield 26, 3) := by decide +kernel
theorem dX8_put_17 : decode cX8_put 17 = .ok (.iload_n 1, 1) := by decide +kernel
theorem dX8_put_18 : decode cX8_put 18 = .ok (.castore, 1) := by decide +kernel
theorem dX8_put_19 : decode cX8_put 19 = .ok (.aload_n 0, 1) := by decide +kernel
theorem dX8_put_20 : decode cX8_put 20 = .ok (.dup, 1) := by decide +kernel
theorem dX8_put_21 : decode cX8_put 21 = .ok (.getfield 26, 3) := by decide +kernel
theorem dX8_put_24 : decode cX8_put 24 = .ok (.iconst 1, 1) := by decide +kernel
theorem dX8_put_25 : decode cX8_put 25 = .ok (.iadd, 1) := by decide +kernel
theorem dX8_put_26 : decode cX8_put 26 = .ok (.putfield 26, 3) := by decide +kernel
theorem dX8_put_29 : decode cX8_put 29 = .ok (.aload_n 0, 1) := by decide +kernel
theorem dX8_put_30 : decode cX8_put 30 = .ok (.getfield 26, 3) := by decide +kernel
theorem dX8_put_33 : decode cX8_put 33 = .ok (.ireturn, 1) := by decide +kernel
theorem dX8_empty_0 : decode cX8_empty 0 = .ok (.aload_n 0, 1) := by decide +kernel
theorem dX8_empty_1 : decode cX8_empty 1 = .ok (.iconst 0, 1) := by decide +kernel
theorem dX8_empty_2 : decode cX8_empty 2 = .ok (.putfield 26, 3) := by decide +kernel
theorem dX8_empty_5 : decode cX8_empty 5 = .ok (.return_, 1) := by decide +kernel
theorem dX8_read_0 : decode cX8_read 0 = .ok (.aload_n 0, 1) := by decide +kernel
theorem dX8_read_1 : decode cX8_read 1 = .ok (.iconst 0, 1) := by decide +kernel
theorem dX8_read_2 : decode cX8_read 2 = .ok (.putfield 30, 3) := by decide +kernel
theorem dX8_read_5 : decode cX8_read 5 = .ok (.aload_n 0, 1) := by decide +kernel
theorem dX8_read_6 : decode cX8_read 6 = .ok (.iconst 0, 1) := by decide +kernel
theorem dX8_read_7 : decode cX8_read 7 = .ok (.putfield 33, 3) := by decide +kernel
theorem dX8_read_10 : decode cX8_read 10 = .ok (.aload_n 0, 1) := by decide +kernel
theorem dX8_read_11 : decode cX8_read 11 = .ok (.getfield 30, 3) := by decide +kernel
theorem dX8_read_14 : decode cX8_read 14 = .ok (.bipush 12, 2) := by decide +kernel
theorem dX8_read_16 : decode cX8_read 16 = .ok (.if_icmp .ge 52, 3) := by decide +kernel
theorem dX8_read_19 : decode cX8_read 19 = .ok (.aload_n 0, 1) := by decide +kernel
theorem dX8_read_20 : decode cX8_read 20 = .ok (.invokevirtual 40, 3) := by decide +kernel
theorem dX8_read_23 : decode cX8_read 23 = .ok (.ifCond .ne 8, 3) := by decide +kernel
theorem dX8_read_26 : decode cX8_read 26 = .ok (.aload_n 0, 1) := by decide +kernel
theorem dX8_read_27 : decode cX8_read 27 = .ok (.getfield 33, 3) := by decide +kernel
theorem dX8_read_30 : decode cX8_read 30 = .ok (.ireturn, 1) := by decide +kernel
theorem dX8_read_31 : decode cX8_read 31 = .ok (.aload_n 0, 1) := by decide +kernel
theorem dX8_read_32 : decode cX8_read 32 = .ok (.dup, 1) := by decide +kernel
theorem dX8_read_33 : decode cX8_read 33 = .ok (.getfield 30, 3) := by decide +kernel
theorem dX8_read_36 : decode cX8_read 36 = .ok (.iconst 1, 1) := by decide +kernel
theorem dX8_read_37 : decode cX8_read 37 = .ok (.iadd, 1) := by decide +kernel
theorem dX8_read_38 : decode cX8_read 38 = .ok (.putfield 30, 3) := by decide +kernel
theorem dX8_read_41 : decode cX8_read 41 = .ok (.aload_n 0, 1) := by decide +kernel
theorem dX8_read_42 : decode cX8_read 42 = .ok (.getfield 33, 3) := by decide +kernel
theorem dX8_read_45 : decode cX8_read 45 = .ok (.aload_n 0, 1) := by decide +kernel
theorem dX8_read_46 : decode cX8_read 46 = .ok (.getfield 26, 3) := by decide +kernel
theorem dX8_read_49 : decode cX8_read 49 = .ok (.if_icmp .lt 5, 3) := by decide +kernel
theorem dX8_read_52 : decode cX8_read 52 = .ok (.iconst (-1), 1) := by decide +kernel
theorem dX8_read_53 : decode cX8_read 53 = .ok (.ireturn, 1) := by decide +kernel
theorem dX8_read_54 : decode cX8_read 54 = .ok (.aload_n 0, 1) := by decide +kernel
theorem dX8_read_55 : decode cX8_read 55 = .ok (.bipush 59, 2) := by decide +kernel
theorem dX8_read_57 : decode cX8_read 57 = .ok (.invokevirtual 44, 3) := by decide +kernel
theorem dX8_read_60 : decode cX8_read 60 = .ok (.ifCond .ne (-50), 3) := by decide +kernel
theorem dX8_read_63 : decode cX8_read 63 = .ok (.aload_n 0, 1) := by decide +kernel
theorem dX8_read_64 : decode cX8_read 64 = .ok (.getfield 33, 3) := by decide +kernel
theorem dX8_read_67 : decode cX8_read 67 = .ok (.ireturn, 1) := by decide +kernel
theorem dX8_read_68 : decode cX8_read 68 = .ok (.aload_n 0, 1) := by decide +kernel
theorem dX8_read_69 : decode cX8_read 69 = .ok (.getfield 33, 3) := by decide +kernel
theorem dX8_read_72 : decode cX8_read 72 = .ok (.ireturn, 1) := by decide +kernel
theorem dX8_readCommand_0 : decode cX8_readCommand 0 = .ok (.aload_n 0, 1) := by decide +kernel
theorem dX8_readCommand_1 : decode cX8_readCommand 1 = .ok (.invokevirtual 48, 3) := by decide +kernel
theorem dX8_readCommand_4 : decode cX8_readCommand 4 = .ok (.astore_n 1, 1) := by decide +kernel
theorem dX8_readCommand_5 : decode cX8_readCommand 5 = .ok (.aload_n 1, 1) := by decide +kernel
theorem dX8_readCommand_6 : decode cX8_readCommand 6 = .ok (.ifnonnull 5, 3) := by decide +kernel
theorem dX8_readCommand_9 : decode cX8_readCommand 9 = .ok (.iconst 0, 1) := by decide +kernel
theorem dX8_readCommand_10 : decode cX8_readCommand 10 = .ok (.ireturn, 1) := by decide +kernel
theorem dX8_readCommand_11 : decode cX8_readCommand 11 = .ok (.aload_n 0, 1) := by decide +kernel
theorem dX8_readCommand_12 : decode cX8_readCommand 12 = .ok (.getfield 17, 3) := by decide +kernel
theorem dX8_readCommand_15 : decode cX8_readCommand 15 = .ok (.aload_n 0, 1) := by decide +kernel
theorem dX8_readCommand_16 : decode cX8_readCommand 16 = .ok (.getfield 30, 3) := by decide +kernel
theorem dX8_readCommand_19 : decode cX8_readCommand 19 = .ok (.aload_n 1, 1) := by decide +kernel
theorem dX8_readCommand_20 : decode cX8_readCommand 20 = .ok (.aastore, 1) := by decide +kernel
theorem dX8_readCommand_21 : decode cX8_readCommand 21 = .ok (.aload_n 1, 1) := by decide +kernel
theorem dX8_readCommand_22 : decode cX8_readCommand 22 = .ok (.getfield 52, 3) := by decide +kernel
theorem dX8_readCommand_25 : decode cX8_readCommand 25 = .ok (.astore_n 2, 1) := by decide +kernel
theorem dX8_readCommand_26 : decode cX8_readCommand 26 = .ok (.iconst 0, 1) := by decide +kernel
theorem dX8_readCommand_27 : decode cX8_readCommand 27 = .ok (.istore_n 3, 1) := by decide +kernel
theorem dX8_readCommand_28 : decode cX8_readCommand 28 = .ok (.iload_n 3, 1) := by decide +kernel
theorem dX8_readCommand_29 : decode cX8_readCommand 29 = .ok (.iconst 4, 1) := by decide +kernel
theorem dX8_readCommand_30 : decode cX8_readCommand 30 = .ok (.if_icmp .ge 47, 3) := by decide +kernel
theorem dX8_readCommand_33 : decode cX8_readCommand 33 = .ok (.iload_n 3, 1) := by decide +kernel
theorem dX8_readCommand_34 : decode cX8_readCommand 34 = .ok (.aload_n 2, 1) := by decide +kernel
theorem dX8_readCommand_35 : decode cX8_readCommand 35 = .ok (.invokevirtual 56, 3) := by decide +kernel
theorem dX8_readCommand_38 : decode cX8_readCommand 38 = .ok (.if_icmp .ge 39, 3) := by decide +kernel
theorem dX8_readCommand_41 : decode cX8_readCommand 41 = .ok (.iload_n 3, 1) := by decide +kernel
theorem dX8_readCommand_42 : decode cX8_readCommand 42 = .ok (.ifCond .le 14, 3) := by decide +kernel
theorem dX8_readCommand_45 : decode cX8_readCommand 45 = .ok (.aload_n 0, 1) := by decide +kernel
theorem dX8_readCommand_46 : decode cX8_readCommand 46 = .ok (.bipush 32, 2) := by decide +kernel
theorem dX8_readCommand_48 : decode cX8_readCommand 48 = .ok (.invokevirtual 44, 3) := by decide +kernel
theorem dX8_readCommand_51 : decode cX8_readCommand 51 = .ok (.ifCond .ne 5, 3) := by decide +kernel
theorem dX8_readCommand_54 : decode cX8_readCommand 54 = .ok (.iconst 0, 1) := by decide +kernel
theorem dX8_readCommand_55 : decode cX8_readCommand 55 = .ok (.ireturn, 1) := by decide +kernel
theorem dX8_readCommand_56 : decode cX8_readCommand 56 = .ok (.aload_n 0, 1) := by decide +kernel
theorem dX8_readCommand_57 : decode cX8_readCommand 57 = .ok (.aload_n 2, 1) := by decide +kernel
theorem dX8_readCommand_58 : decode cX8_readCommand 58 = .ok (.iload_n 3, 1) := by decide +kernel
theorem dX8_readCommand_59 : decode cX8_readCommand 59 = .ok (.invokevirtual 61, 3) := by decide +kernel
theorem dX8_readCommand_62 : decode cX8_readCommand 62 = .ok (.iload_n 3, 1) := by decide +kernel
theorem dX8_readCommand_63 : decode cX8_readCommand 63 = .ok (.invokevirtual 65, 3) := by decide +kernel
theorem dX8_readCommand_66 : decode cX8_readCommand 66 = .ok (.ifCond .ne 5, 3) := by decide +kernel
theorem dX8_readCommand_69 : decode cX8_readCommand 69 = .ok (.iconst 0, 1) := by decide +kernel
theorem dX8_readCommand_70 : decode cX8_readCommand 70 = .ok (.ireturn, 1) := by decide +kernel
theorem dX8_readCommand_71 : decode cX8_readCommand 71 = .ok (.iinc 3 1, 3) := by decide +kernel
theorem dX8_readCommand_74 : decode cX8_readCommand 74 = .ok (.goto (-46), 3) := by decide +kernel
theorem dX8_readCommand_77 : decode cX8_readCommand 77 = .ok (.iconst 1, 1) := by decide +kernel
theorem dX8_readCommand_78 : decode cX8_readCommand 78 = .ok (.ireturn, 1) := by decide +kernel
theorem dX8_readWord_0 : decode cX8_readWord 0 = .ok (.iconst 0, 1) := by decide +kernel
theorem dX8_readWord_1 : decode cX8_readWord 1 = .ok (.istore_n 1, 1) := by decide +kernel
theorem dX8_readWord_2 : decode cX8_readWord 2 = .ok (.iconst 0, 1) := by decide +kernel
theorem dX8_readWord_3 : decode cX8_readWord 3 = .ok (.istore_n 2, 1) := by decide +kernel
theorem dX8_readWord_4 : decode cX8_readWord 4 = .ok (.iload_n 2, 1) := by decide +kernel
theorem dX8_readWord_5 : decode cX8_readWord 5 = .ok (.getstatic 69, 3) := by decide +kernel
theorem dX8_readWord_8 : decode cX8_readWord 8 = .ok (.arraylength, 1) := by decide +kernel
theorem dX8_readWord_9 : decode cX8_readWord 9 = .ok (.if_icmp .ge 58, 3) := by decide +kernel
theorem dX8_readWord_12 : decode cX8_readWord 12 = .ok (.getstatic 69, 3) := by decide +kernel
theorem dX8_readWord_15 : decode cX8_readWord 15 = .ok (.iload_n 2, 1) := by decide +kernel
theorem dX8_readWord_16 : decode cX8_readWord 16 = .ok (.aaload, 1) := by decide +kernel
theorem dX8_readWord_17 : decode cX8_readWord 17 = .ok (.getfield 72, 3) := by decide +kernel
theorem dX8_readWord_20 : decode cX8_readWord 20 = .ok (.astore_n 3, 1) := by decide +kernel
theorem dX8_readWord_21 : decode cX8_readWord 21 = .ok (.aload_n 0, 1) := by decide +kernel
theorem dX8_readWord_22 : decode cX8_readWord 22 = .ok (.aload_n 3, 1) := by decide +kernel
theorem dX8_readWord_23 : decode cX8_readWord 23 = .ok (.invokevirtual 75, 3) := by decide +kernel
theorem dX8_readWord_26 : decode cX8_readWord 26 = .ok (.istore 4, 2) := by decide +kernel
theorem dX8_readWord_28 : decode cX8_readWord 28 = .ok (.iload 4, 2) := by decide +kernel
theorem dX8_readWord_30 : decode cX8_readWord 30 = .ok (.aload_n 3, 1) := by decide +kernel
theorem dX8_readWord_31 : decode cX8_readWord 31 = .ok (.invokevirtual 56, 3) := by decide +kernel
theorem dX8_readWord_34 : decode cX8_readWord 34 = .ok (.if_icmp .ne 20, 3) := by decide +kernel
theorem dX8_readWord_37 : decode cX8_readWord 37 = .ok (.aload_n 0, 1) := by decide +kernel
theorem dX8_readWord_38 : decode cX8_readWord 38 = .ok (.dup, 1) := by decide +kernel
theorem dX8_readWord_39 : decode cX8_readWord 39 = .ok (.getfield 33, 3) := by decide +kernel
theorem dX8_readWord_42 : decode cX8_readWord 42 = .ok (.iload 4, 2) := by decide +kernel
theorem dX8_readWord_44 : decode cX8_readWord 44 = .ok (.iadd, 1) := by decide +kernel
theorem dX8_readWord_45 : decode cX8_readWord 45 = .ok (.putfield 33, 3) := by decide +kernel
theorem dX8_readWord_48 : decode cX8_readWord 48 = .ok (.getstatic 69, 3) := by decide +kernel
theorem dX8_readWord_51 : decode cX8_readWord 51 = .ok (.iload_n 2, 1) := by decide +kernel
theorem dX8_readWord_52 : decode cX8_readWord 52 = .ok (.aaload, 1) := by decide +kernel
theorem dX8_readWord_53 : decode cX8_readWord 53 = .ok (.areturn, 1) := by decide +kernel
theorem dX8_readWord_54 : decode cX8_readWord 54 = .ok (.iload_n 1, 1) := by decide +kernel
theorem dX8_readWord_55 : decode cX8_readWord 55 = .ok (.iload 4, 2) := by decide +kernel
theorem dX8_readWord_57 : decode cX8_readWord 57 = .ok (.invokestatic 79, 3) := by decide +kernel
theorem dX8_readWord_60 : decode cX8_readWord 60 = .ok (.istore_n 1, 1) := by decide +kernel
theorem dX8_readWord_61 : decode cX8_readWord 61 = .ok (.iinc 2 1, 3) := by decide +kernel
theorem dX8_readWord_64 : decode cX8_readWord 64 = .ok (.goto (-60), 3) := by decide +kernel
theorem dX8_readWord_67 : decode cX8_readWord 67 = .ok (.aload_n 0, 1) := by decide +kernel
theorem dX8_readWord_68 : decode cX8_readWord 68 = .ok (.dup, 1) := by decide +kernel
theorem dX8_readWord_69 : decode cX8_readWord 69 = .ok (.getfield 33, 3) := by decide +kernel
theorem dX8_readWord_72 : decode cX8_readWord 72 = .ok (.iload_n 1, 1) := by decide +kernel
theorem dX8_readWord_73 : decode cX8_readWord 73 = .ok (.iadd, 1) := by decide +kernel
theorem dX8_readWord_74 : decode cX8_readWord 74 = .ok (.putfield 33, 3) := by decide +kernel
theorem dX8_readWord_77 : decode cX8_readWord 77 = .ok (.aconst_null, 1) := by decide +kernel
theorem dX8_readWord_78 : decode cX8_readWord 78 = .ok (.areturn, 1) := by decide +kernel
theorem dX8_commonLength_0 : decode cX8_commonLength 0 = .ok (.iconst 0, 1) := by decide +kernel
theorem dX8_commonLength_1 : decode cX8_commonLength 1 = .ok (.istore_n 2, 1) := by decide +kernel
theorem dX8_commonLength_2 : decode cX8_commonLength 2 = .ok (.iload_n 2, 1) := by decide +kernel
theorem dX8_commonLength_3 : decode cX8_commonLength 3 = .ok (.aload_n 1, 1) := by decide +kernel
theorem dX8_commonLength_4 : decode cX8_commonLength 4 = .ok (.invokevirtual 56, 3) := by decide +kernel
theorem dX8_commonLength_7 : decode cX8_commonLength 7 = .ok (.if_icmp .ge 41, 3) := by decide +kernel
theorem dX8_commonLength_10 : decode cX8_commonLength 10 = .ok (.aload_n 0, 1) := by decide +kernel
theorem dX8_commonLength_11 : decode cX8_commonLength 11 = .ok (.getfield 33, 3) := by decide +kernel
theorem dX8_commonLength_14 : decode cX8_commonLength 14 = .ok (.iload_n 2, 1) := by decide +kernel
theorem dX8_commonLength_15 : decode cX8_commonLength 15 = .ok (.iadd, 1) := by decide +kernel
theorem dX8_commonLength_16 : decode cX8_commonLength 16 = .ok (.aload_n 0, 1) := by decide +kernel
theorem dX8_commonLength_17 : decode cX8_commonLength 17 = .ok (.getfield 26, 3) := by decide +kernel
theorem dX8_commonLength_20 : decode cX8_commonLength 20 = .ok (.if_icmp .ge 28, 3) := by decide +kernel
theorem dX8_commonLength_23 : decode cX8_commonLength 23 = .ok (.aload_n 0, 1) := by decide +kernel
theorem dX8_commonLength_24 : decode cX8_commonLength 24 = .ok (.getfield 9, 3) := by decide +kernel
theorem dX8_commonLength_27 : decode cX8_commonLength 27 = .ok (.aload_n 0, 1) := by decide +kernel
theorem dX8_commonLength_28 : decode cX8_commonLength 28 = .ok (.getfield 33, 3) := by decide +kernel
theorem dX8_commonLength_31 : decode cX8_commonLength 31 = .ok (.iload_n 2, 1) := by decide +kernel
theorem dX8_commonLength_32 : decode cX8_commonLength 32 = .ok (.iadd, 1) := by decide +kernel
theorem dX8_commonLength_33 : decode cX8_commonLength 33 = .ok (.caload, 1) := by decide +kernel
theorem dX8_commonLength_34 : decode cX8_commonLength 34 = .ok (.aload_n 1, 1) := by decide +kernel
theorem dX8_commonLength_35 : decode cX8_commonLength 35 = .ok (.iload_n 2, 1) := by decide +kernel
theorem dX8_commonLength_36 : decode cX8_commonLength 36 = .ok (.invokevirtual 61, 3) := by decide +kernel
theorem dX8_commonLength_39 : decode cX8_commonLength 39 = .ok (.if_icmp .ne 9, 3) := by decide +kernel
theorem dX8_commonLength_42 : decode cX8_commonLength 42 = .ok (.iinc 2 1, 3) := by decide +kernel
theorem dX8_commonLength_45 : decode cX8_commonLength 45 = .ok (.goto (-43), 3) := by decide +kernel
theorem dX8_commonLength_48 : decode cX8_commonLength 48 = .ok (.iload_n 2, 1) := by decide +kernel
theorem dX8_commonLength_49 : decode cX8_commonLength 49 = .ok (.ireturn, 1) := by decide +kernel
theorem dX8_readArgument_0 : decode cX8_readArgument 0 = .ok (.iload_n 1, 1) := by decide +kernel
theorem dX8_readArgument_1 : decode cX8_readArgument 1 = .ok (.bipush 107, 2) := by decide +kernel
theorem dX8_readArgument_3 : decode cX8_readArgument 3 = .ok (.if_icmp .ne 9, 3) := by decide +kernel
theorem dX8_readArgument_6 : decode cX8_readArgument 6 = .ok (.aload_n 0, 1) := by decide +kernel
theorem dX8_readArgument_7 : decode cX8_readArgument 7 = .ok (.iload_n 2, 1) := by decide +kernel
theorem dX8_readArgument_8 : decode cX8_readArgument 8 = .ok (.invokevirtual 85, 3) := by decide +kernel
theorem dX8_readArgument_11 : decode cX8_readArgument 11 = .ok (.ireturn, 1) := by decide +kernel
theorem dX8_readArgument_12 : decode cX8_readArgument 12 = .ok (.aload_n 0, 1) := by decide +kernel
theorem dX8_readArgument_13 : decode cX8_readArgument 13 = .ok (.invokevirtual 89, 3) := by decide +kernel
theorem dX8_readArgument_16 : decode cX8_readArgument 16 = .ok (.istore_n 3, 1) := by decide +kernel
theorem dX8_readArgument_17 : decode cX8_readArgument 17 = .ok (.iload_n 3, 1) := by decide +kernel
theorem dX8_readArgument_18 : decode cX8_readArgument 18 = .ok (.iconst (-1), 1) := by decide +kernel
theorem dX8_readArgument_19 : decode cX8_readArgument 19 = .ok (.if_icmp .ne 5, 3) := by decide +kernel
theorem dX8_readArgument_22 : decode cX8_readArgument 22 = .ok (.iconst 0, 1) := by decide +kernel
theorem dX8_readArgument_23 : decode cX8_readArgument 23 = .ok (.ireturn, 1) := by decide +kernel
theorem dX8_readArgument_24 : decode cX8_readArgument 24 = .ok (.aload_n 0, 1) := by decide +kernel
theorem dX8_readArgument_25 : decode cX8_readArgument 25 = .ok (.dup, 1) := by decide +kernel
theorem dX8_readArgument_26 : decode cX8_readArgument 26 = .ok (.getfield 33, 3) := by decide +kernel
theorem dX8_readArgument_29 : decode cX8_readArgument 29 = .ok (.iconst 1, 1) := by decide +kernel
theorem dX8_readArgument_30 : decode cX8_readArgument 30 = .ok (.iadd, 1) := by decide +kernel
theorem dX8_readArgument_31 : decode cX8_readArgument 31 = .ok (.putfield 33, 3) := by decide +kernel
theorem dX8_readArgument_34 : decode cX8_readArgument 34 = .ok (.aload_n 0, 1) := by decide +kernel
theorem dX8_readArgument_35 : decode cX8_readArgument 35 = .ok (.invokevirtual 89, 3) := by decide +kernel
theorem dX8_readArgument_38 : decode cX8_readArgument 38 = .ok (.istore 4, 2) := by decide +kernel
theorem dX8_readArgument_40 : decode cX8_readArgument 40 = .ok (.iload_n 1, 1) := by decide +kernel
theorem dX8_readArgument_41 : decode cX8_readArgument 41 = .ok (.bipush 110, 2) := by decide +kernel
theorem dX8_readArgument_43 : decode cX8_readArgument 43 = .ok (.if_icmp .ne 27, 3) := by decide +kernel
theorem dX8_readArgument_46 : decode cX8_readArgument 46 = .ok (.iload 4, 2) := by decide +kernel
theorem dX8_readArgument_48 : decode cX8_readArgument 48 = .ok (.iconst (-1), 1) := by decide +kernel
theorem dX8_readArgument_49 : decode cX8_readArgument 49 = .ok (.if_icmp .eq 21, 3) := by decide +kernel
theorem dX8_readArgument_52 : decode cX8_readArgument 52 = .ok (.bipush 10, 2) := by decide +kernel
theorem dX8_readArgument_54 : decode cX8_readArgument 54 = .ok (.iload_n 3, 1) := by decide +kernel
theorem dX8_readArgument_55 : decode cX8_readArgument 55 = .ok (.imul, 1) := by decide +kernel
theorem dX8_readArgument_56 : decode cX8_readArgument 56 = .ok (.iload 4, 2) := by decide +kernel
theorem dX8_readArgument_58 : decode cX8_readArgument 58 = .ok (.iadd, 1) := by decide +kernel
theorem dX8_readArgument_59 : decode cX8_readArgument 59 = .ok (.istore_n 3, 1) := by decide +kernel
theorem dX8_readArgument_60 : decode cX8_readArgument 60 = .ok (.aload_n 0, 1) := by decide +kernel
theorem dX8_readArgument_61 : decode cX8_readArgument 61 = .ok (.dup, 1) := by decide +kernel
theorem dX8_readArgument_62 : decode cX8_readArgument 62 = .ok (.getfield 33, 3) := by decide +kernel
theorem dX8_readArgument_65 : decode cX8_readArgument 65 = .ok (.iconst 1, 1) := by decide +kernel
theorem dX8_readArgument_66 : decode cX8_readArgument 66 = .ok (.iadd, 1) := by decide +kernel
theorem dX8_readArgument_67 : decode cX8_readArgument 67 = .ok (.putfield 33, 3) := by decide +kernel
theorem dX8_readArgument_70 : decode cX8_readArgument 70 = .ok (.aload_n 0, 1) := by decide +kernel
theorem dX8_readArgument_71 : decode cX8_readArgument 71 = .ok (.getfield 23, 3) := by decide +kernel
theorem dX8_readArgument_74 : decode cX8_readArgument 74 = .ok (.aload_n 0, 1) := by decide +kernel
theorem dX8_readArgument_75 : decode cX8_readArgument 75 = .ok (.getfield 30, 3) := by decide +kernel
theorem dX8_readArgument_78 : decode cX8_readArgument 78 = .ok (.aaload, 1) := by decide +kernel
theorem dX8_readArgument_79 : decode cX8_readArgument 79 = .ok (.iload_n 2, 1) := by decide +kernel
theorem dX8_readArgument_80 : decode cX8_readArgument 80 = .ok (.iload_n 3, 1) := by decide +kernel
theorem dX8_readArgument_81 : decode cX8_readArgument 81 = .ok (.iastore, 1) := by decide +kernel
theorem dX8_readArgument_82 : decode cX8_readArgument 82 = .ok (.iconst 1, 1) := by decide +kernel
theorem dX8_readArgument_83 : decode cX8_readArgument 83 = .ok (.ireturn, 1) := by decide +kernel
theorem dX8_readKind_0 : decode cX8_readKind 0 = .ok (.aload_n 0, 1) := by decide +kernel
theorem dX8_readKind_1 : decode cX8_readKind 1 = .ok (.bipush 98, 2) := by decide +kernel
theorem dX8_readKind_3 : decode cX8_readKind 3 = .ok (.invokevirtual 44, 3) := by decide +kernel
theorem dX8_readKind_6 : decode cX8_readKind 6 = .ok (.ifCond .eq 19, 3) := by decide +kernel
theorem dX8_readKind_9 : decode cX8_readKind 9 = .ok (.aload_n 0, 1) := by decide +kernel
theorem dX8_readKind_10 : decode cX8_readKind 10 = .ok (.getfield 23, 3) := by decide +kernel
theorem dX8_readKind_13 : decode cX8_readKind 13 = .ok (.aload_n 0, 1) := by decide +kernel
theorem dX8_readKind_14 : decode cX8_readKind 14 = .ok (.getfield 30, 3) := by decide +kernel
theorem dX8_readKind_17 : decode cX8_readKind 17 = .ok (.aaload, 1) := by decide +kernel
theorem dX8_readKind_18 : decode cX8_readKind 18 = .ok (.iload_n 1, 1) := by decide +kernel
theorem dX8_readKind_19 : decode cX8_readKind 19 = .ok (.bipush 98, 2) := by decide +kernel
theorem dX8_readKind_21 : decode cX8_readKind 21 = .ok (.iastore, 1) := by decide +kernel
theorem dX8_readKind_22 : decode cX8_readKind 22 = .ok (.goto 55, 3) := by decide +kernel
theorem dX8_readKind_25 : decode cX8_readKind 25 = .ok (.aload_n 0, 1) := by decide +kernel
theorem dX8_readKind_26 : decode cX8_readKind 26 = .ok (.bipush 110, 2) := by decide +kernel
theorem dX8_readKind_28 : decode cX8_readKind 28 = .ok (.invokevirtual 44, 3) := by decide +kernel
theorem dX8_readKind_31 : decode cX8_readKind 31 = .ok (.ifCond .eq 19, 3) := by decide +kernel
theorem dX8_readKind_34 : decode cX8_readKind 34 = .ok (.aload_n 0, 1) := by decide +kernel
theorem dX8_readKind_35 : decode cX8_readKind 35 = .ok (.getfield 23, 3) := by decide +kernel
theorem dX8_readKind_38 : decode cX8_readKind 38 = .ok (.aload_n 0, 1) := by decide +kernel
theorem dX8_readKind_39 : decode cX8_readKind 39 = .ok (.getfield 30, 3) := by decide +kernel
theorem dX8_readKind_42 : decode cX8_readKind 42 = .ok (.aaload, 1) := by decide +kernel
theorem dX8_readKind_43 : decode cX8_readKind 43 = .ok (.iload_n 1, 1) := by decide +kernel
theorem dX8_readKind_44 : decode cX8_readKind 44 = .ok (.bipush 110, 2) := by decide +kernel
theorem dX8_readKind_46 : decode cX8_readKind 46 = .ok (.iastore, 1) := by decide +kernel
theorem dX8_readKind_47 : decode cX8_readKind 47 = .ok (.goto 30, 3) := by decide +kernel
theorem dX8_readKind_50 : decode cX8_readKind 50 = .ok (.aload_n 0, 1) := by decide +kernel
theorem dX8_readKind_51 : decode cX8_readKind 51 = .ok (.bipush 119, 2) := by decide +kernel
theorem dX8_readKind_53 : decode cX8_readKind 53 = .ok (.invokevirtual 44, 3) := by decide +kernel
theorem dX8_readKind_56 : decode cX8_readKind 56 = .ok (.ifCond .eq 19, 3) := by decide +kernel
theorem dX8_readKind_59 : decode cX8_readKind 59 = .ok (.aload_n 0, 1) := by decide +kernel
theorem dX8_readKind_60 : decode cX8_readKind 60 = .ok (.getfield 23, 3) := by decide +kernel
theorem dX8_readKind_63 : decode cX8_readKind 63 = .ok (.aload_n 0, 1) := by decide +kernel
theorem dX8_readKind_64 : decode cX8_readKind 64 = .ok (.getfield 30, 3) := by decide +kernel
theorem dX8_readKind_67 : decode cX8_readKind 67 = .ok (.aaload, 1) := by decide +kernel
theorem dX8_readKind_68 : decode cX8_readKind 68 = .ok (.iload_n 1, 1) := by decide +kernel
theorem dX8_readKind_69 : decode cX8_readKind 69 = .ok (.bipush 119, 2) := by decide +kernel
theorem dX8_readKind_71 : decode cX8_readKind 71 = .ok (.iastore, 1) := by decide +kernel
theorem dX8_readKind_72 : decode cX8_readKind 72 = .ok (.goto 5, 3) := by decide +kernel
theorem dX8_readKind_75 : decode cX8_readKind 75 = .ok (.iconst 0, 1) := by decide +kernel
theorem dX8_readKind_76 : decode cX8_readKind 76 = .ok (.ireturn, 1) := by decide +kernel
theorem dX8_readKind_77 : decode cX8_readKind 77 = .ok (.iconst 1, 1) := by decide +kernel
theorem dX8_readKind_78 : decode cX8_readKind 78 = .ok (.ireturn, 1) := by decide +kernel
theorem dX8_accept_0 : decode cX8_accept 0 = .ok (.aload_n 0, 1) := by decide +kernel
theorem dX8_accept_1 : decode cX8_accept 1 = .ok (.getfield 33, 3) := by decide +kernel
theorem dX8_accept_4 : decode cX8_accept 4 = .ok (.aload_n 0, 1) := by decide +kernel
theorem dX8_accept_5 : decode cX8_accept 5 = .ok (.getfield 26, 3) := by decide +kernel
theorem dX8_accept_8 : decode cX8_accept 8 = .ok (.if_icmp .ge 16, 3) := by decide +kernel
theorem dX8_accept_11 : decode cX8_accept 11 = .ok (.aload_n 0, 1) := by decide +kernel
theorem dX8_accept_12 : decode cX8_accept 12 = .ok (.getfield 9, 3) := by decide +kernel
theorem dX8_accept_15 : decode cX8_accept 15 = .ok (.aload_n 0, 1) := by decide +kernel
theorem dX8_accept_16 : decode cX8_accept 16 = .ok (.getfield 33, 3) := by decide +kernel
theorem dX8_accept_19 : decode cX8_accept 19 = .ok (.caload, 1) := by decide +kernel
theorem dX8_accept_20 : decode cX8_accept 20 = .ok (.iload_n 1, 1) := by decide +kernel
theorem dX8_accept_21 : decode cX8_accept 21 = .ok (.if_icmp .eq 5, 3) := by decide +kernel
theorem dX8_accept_24 : decode cX8_accept 24 = .ok (.iconst 0, 1) := by decide +kernel
theorem dX8_accept_25 : decode cX8_accept 25 = .ok (.ireturn, 1) := by decide +kernel
theorem dX8_accept_26 : decode cX8_accept 26 = .ok (.aload_n 0, 1) := by decide +kernel
theorem dX8_accept_27 : decode cX8_accept 27 = .ok (.dup, 1) := by decide +kernel
theorem dX8_accept_28 : decode cX8_accept 28 = .ok (.getfield 33, 3) := by decide +kernel
theorem dX8_accept_31 : decode cX8_accept 31 = .ok (.iconst 1, 1) := by decide +kernel
theorem dX8_accept_32 : decode cX8_accept 32 = .ok (.iadd, 1) := by decide +kernel
theorem dX8_accept_33 : decode cX8_accept 33 = .ok (.putfield 33, 3) := by decide +kernel
theorem dX8_accept_36 : decode cX8_accept 36 = .ok (.iconst 1, 1) := by decide +kernel
theorem dX8_accept_37 : decode cX8_accept 37 = .ok (.ireturn, 1) := by decide +kernel
theorem dX8_digitHere_0 : decode cX8_digitHere 0 = .ok (.aload_n 0, 1) := by decide +kernel
theorem dX8_digitHere_1 : decode cX8_digitHere 1 = .ok (.getfield 33, 3) := by decide +kernel
theorem dX8_digitHere_4 : decode cX8_digitHere 4 = .ok (.aload_n 0, 1) := by decide +kernel
theorem dX8_digitHere_5 : decode cX8_digitHere 5 = .ok (.getfield 26, 3) := by decide +kernel
theorem dX8_digitHere_8 : decode cX8_digitHere 8 = .ok (.if_icmp .ge 31, 3) := by decide +kernel
theorem dX8_digitHere_11 : decode cX8_digitHere 11 = .ok (.aload_n 0, 1) := by decide +kernel
theorem dX8_digitHere_12 : decode cX8_digitHere 12 = .ok (.getfield 9, 3) := by decide +kernel
theorem dX8_digitHere_15 : decode cX8_digitHere 15 = .ok (.aload_n 0, 1) := by decide +kernel
theorem dX8_digitHere_16 : decode cX8_digitHere 16 = .ok (.getfield 33, 3) := by decide +kernel
theorem dX8_digitHere_19 : decode cX8_digitHere 19 = .ok (.caload, 1) := by decide +kernel
theorem dX8_digitHere_20 : decode cX8_digitHere 20 = .ok (.bipush 48, 2) := by decide +kernel
theorem dX8_digitHere_22 : decode cX8_digitHere 22 = .ok (.if_icmp .lt 17, 3) := by decide +kernel
theorem dX8_digitHere_25 : decode cX8_digitHere 25 = .ok (.aload_n 0, 1) := by decide +kernel
theorem dX8_digitHere_26 : decode cX8_digitHere 26 = .ok (.getfield 9, 3) := by decide +kernel
theorem dX8_digitHere_29 : decode cX8_digitHere 29 = .ok (.aload_n 0, 1) := by decide +kernel
theorem dX8_digitHere_30 : decode cX8_digitHere 30 = .ok (.getfield 33, 3) := by decide +kernel
theorem dX8_digitHere_33 : decode cX8_digitHere 33 = .ok (.caload, 1) := by decide +kernel
theorem dX8_digitHere_34 : decode cX8_digitHere 34 = .ok (.bipush 57, 2) := by decide +kernel
theorem dX8_digitHere_36 : decode cX8_digitHere 36 = .ok (.if_icmp .le 5, 3) := by decide +kernel
theorem dX8_digitHere_39 : decode cX8_digitHere 39 = .ok (.iconst (-1), 1) := by decide +kernel
theorem dX8_digitHere_40 : decode cX8_digitHere 40 = .ok (.ireturn, 1) := by decide +kernel
theorem dX8_digitHere_41 : decode cX8_digitHere 41 = .ok (.aload_n 0, 1) := by decide +kernel
theorem dX8_digitHere_42 : decode cX8_digitHere 42 = .ok (.getfield 9, 3) := by decide +kernel
theorem dX8_digitHere_45 : decode cX8_digitHere 45 = .ok (.aload_n 0, 1) := by decide +kernel
theorem dX8_digitHere_46 : decode cX8_digitHere 46 = .ok (.getfield 33, 3) := by decide +kernel
theorem dX8_digitHere_49 : decode cX8_digitHere 49 = .ok (.caload, 1) := by decide +kernel
theorem dX8_digitHere_50 : decode cX8_digitHere 50 = .ok (.bipush 48, 2) := by decide +kernel
theorem dX8_digitHere_52 : decode cX8_digitHere 52 = .ok (.isub, 1) := by decide +kernel
theorem dX8_digitHere_53 : decode cX8_digitHere 53 = .ok (.ireturn, 1) := by decide +kernel
theorem dX8_carryOut_0 : decode cX8_carryOut 0 = .ok (.aload_n 0, 1) := by decide +kernel
theorem dX8_carryOut_1 : decode cX8_carryOut 1 = .ok (.getfield 23, 3) := by decide +kernel
theorem dX8_carryOut_4 : decode cX8_carryOut 4 = .ok (.iload_n 1, 1) := by decide +kernel
theorem dX8_carryOut_5 : decode cX8_carryOut 5 = .ok (.aaload, 1) := by decide +kernel
theorem dX8_carryOut_6 : decode cX8_carryOut 6 = .ok (.astore_n 3, 1) := by decide +kernel
theorem dX8_carryOut_7 : decode cX8_carryOut 7 = .ok (.getstatic 92, 3) := by decide +kernel
theorem dX8_carryOut_10 : decode cX8_carryOut 10 = .ok (.aload_n 0, 1) := by decide +kernel
theorem dX8_carryOut_11 : decode cX8_carryOut 11 = .ok (.getfield 17, 3) := by decide +kernel
theorem dX8_carryOut_14 : decode cX8_carryOut 14 = .ok (.iload_n 1, 1) := by decide +kernel
theorem dX8_carryOut_15 : decode cX8_carryOut 15 = .ok (.aaload, 1) := by decide +kernel
theorem dX8_carryOut_16 : decode cX8_carryOut 16 = .ok (.invokevirtual 98, 3) := by decide +kernel
theorem dX8_carryOut_19 : decode cX8_carryOut 19 = .ok (.iaload, 1) := by decide +kernel
theorem dX8_carryOut_20 : decode cX8_carryOut 20 = .ok (.tableswitch 161 1 11 #[60, 68, 76, 85, 93, 101, 109, 120, 128, 136, 153], 60) := by decide +kernel
theorem dX8_carryOut_80 : decode cX8_carryOut 80 = .ok (.aload_n 2, 1) := by decide +kernel
theorem dX8_carryOut_81 : decode cX8_carryOut 81 = .ok (.aload_n 3, 1) := by decide +kernel
theorem dX8_carryOut_82 : decode cX8_carryOut 82 = .ok (.iconst 0, 1) := by decide +kernel
theorem dX8_carryOut_83 : decode cX8_carryOut 83 = .ok (.iaload, 1) := by decide +kernel
theorem dX8_carryOut_84 : decode cX8_carryOut 84 = .ok (.invokevirtual 101, 3) := by decide +kernel
theorem dX8_carryOut_87 : decode cX8_carryOut 87 = .ok (.ireturn, 1) := by decide +kernel
theorem dX8_carryOut_88 : decode cX8_carryOut 88 = .ok (.aload_n 2, 1) := by decide +kernel
theorem dX8_carryOut_89 : decode cX8_carryOut 89 = .ok (.aload_n 3, 1) := by decide +kernel
theorem dX8_carryOut_90 : decode cX8_carryOut 90 = .ok (.iconst 0, 1) := by decide +kernel
theorem dX8_carryOut_91 : decode cX8_carryOut 91 = .ok (.iaload, 1) := by decide +kernel
theorem dX8_carryOut_92 : decode cX8_carryOut 92 = .ok (.invokevirtual 107, 3) := by decide +kernel
theorem dX8_carryOut_95 : decode cX8_carryOut 95 = .ok (.ireturn, 1) := by decide +kernel
theorem dX8_carryOut_96 : decode cX8_carryOut 96 = .ok (.aload_n 2, 1) := by decide +kernel
theorem dX8_carryOut_97 : decode cX8_carryOut 97 = .ok (.aload_n 3, 1) := by decide +kernel
theorem dX8_carryOut_98 : decode cX8_carryOut 98 = .ok (.iconst 0, 1) := by decide +kernel
theorem dX8_carryOut_99 : decode cX8_carryOut 99 = .ok (.iaload, 1) := by decide +kernel
theorem dX8_carryOut_100 : decode cX8_carryOut 100 = .ok (.i2c, 1) := by decide +kernel
theorem dX8_carryOut_101 : decode cX8_carryOut 101 = .ok (.invokevirtual 110, 3) := by decide +kernel
theorem dX8_carryOut_104 : decode cX8_carryOut 104 = .ok (.ireturn, 1) := by decide +kernel
theorem dX8_carryOut_105 : decode cX8_carryOut 105 = .ok (.aload_n 2, 1) := by decide +kernel
theorem dX8_carryOut_106 : decode cX8_carryOut 106 = .ok (.aload_n 3, 1) := by decide +kernel
theorem dX8_carryOut_107 : decode cX8_carryOut 107 = .ok (.iconst 0, 1) := by decide +kernel
theorem dX8_carryOut_108 : decode cX8_carryOut 108 = .ok (.iaload, 1) := by decide +kernel
theorem dX8_carryOut_109 : decode cX8_carryOut 109 = .ok (.invokevirtual 114, 3) := by decide +kernel
theorem dX8_carryOut_112 : decode cX8_carryOut 112 = .ok (.ireturn, 1) := by decide +kernel
theorem dX8_carryOut_113 : decode cX8_carryOut 113 = .ok (.aload_n 2, 1) := by decide +kernel
theorem dX8_carryOut_114 : decode cX8_carryOut 114 = .ok (.aload_n 3, 1) := by decide +kernel
theorem dX8_carryOut_115 : decode cX8_carryOut 115 = .ok (.iconst 0, 1) := by decide +kernel
theorem dX8_carryOut_116 : decode cX8_carryOut 116 = .ok (.iaload, 1) := by decide +kernel
theorem dX8_carryOut_117 : decode cX8_carryOut 117 = .ok (.invokevirtual 117, 3) := by decide +kernel
theorem dX8_carryOut_120 : decode cX8_carryOut 120 = .ok (.ireturn, 1) := by decide +kernel
theorem dX8_carryOut_121 : decode cX8_carryOut 121 = .ok (.aload_n 2, 1) := by decide +kernel
theorem dX8_carryOut_122 : decode cX8_carryOut 122 = .ok (.aload_n 3, 1) := by decide +kernel
theorem dX8_carryOut_123 : decode cX8_carryOut 123 = .ok (.iconst 0, 1) := by decide +kernel
theorem dX8_carryOut_124 : decode cX8_carryOut 124 = .ok (.iaload, 1) := by decide +kernel
theorem dX8_carryOut_125 : decode cX8_carryOut 125 = .ok (.invokevirtual 120, 3) := by decide +kernel
theorem dX8_carryOut_128 : decode cX8_carryOut 128 = .ok (.ireturn, 1) := by decide +kernel
theorem dX8_carryOut_129 : decode cX8_carryOut 129 = .ok (.aload_n 2, 1) := by decide +kernel
theorem dX8_carryOut_130 : decode cX8_carryOut 130 = .ok (.aload_n 3, 1) := by decide +kernel
theorem dX8_carryOut_131 : decode cX8_carryOut 131 = .ok (.iconst 0, 1) := by decide +kernel
theorem dX8_carryOut_132 : decode cX8_carryOut 132 = .ok (.iaload, 1) := by decide +kernel
theorem dX8_carryOut_133 : decode cX8_carryOut 133 = .ok (.aload_n 3, 1) := by decide +kernel
theorem dX8_carryOut_134 : decode cX8_carryOut 134 = .ok (.iconst 1, 1) := by decide +kernel
theorem dX8_carryOut_135 : decode cX8_carryOut 135 = .ok (.iaload, 1) := by decide +kernel
theorem dX8_carryOut_136 : decode cX8_carryOut 136 = .ok (.invokevirtual 123, 3) := by decide +kernel
theorem dX8_carryOut_139 : decode cX8_carryOut 139 = .ok (.ireturn, 1) := by decide +kernel
theorem dX8_carryOut_140 : decode cX8_carryOut 140 = .ok (.aload_n 2, 1) := by decide +kernel
theorem dX8_carryOut_141 : decode cX8_carryOut 141 = .ok (.aload_n 3, 1) := by decide +kernel
theorem dX8_carryOut_142 : decode cX8_carryOut 142 = .ok (.iconst 0, 1) := by decide +kernel
theorem dX8_carryOut_143 : decode cX8_carryOut 143 = .ok (.iaload, 1) := by decide +kernel
theorem dX8_carryOut_144 : decode cX8_carryOut 144 = .ok (.invokevirtual 126, 3) := by decide +kernel
theorem dX8_carryOut_147 : decode cX8_carryOut 147 = .ok (.ireturn, 1) := by decide +kernel
theorem dX8_carryOut_148 : decode cX8_carryOut 148 = .ok (.aload_n 2, 1) := by decide +kernel
theorem dX8_carryOut_149 : decode cX8_carryOut 149 = .ok (.aload_n 3, 1) := by decide +kernel
theorem dX8_carryOut_150 : decode cX8_carryOut 150 = .ok (.iconst 0, 1) := by decide +kernel
theorem dX8_carryOut_151 : decode cX8_carryOut 151 = .ok (.iaload, 1) := by decide +kernel
theorem dX8_carryOut_152 : decode cX8_carryOut 152 = .ok (.invokevirtual 129, 3) := by decide +kernel
theorem dX8_carryOut_155 : decode cX8_carryOut 155 = .ok (.ireturn, 1) := by decide +kernel
theorem dX8_carryOut_156 : decode cX8_carryOut 156 = .ok (.aload_n 2, 1) := by decide +kernel
theorem dX8_carryOut_157 : decode cX8_carryOut 157 = .ok (.aload_n 3, 1) := by decide +kernel
theorem dX8_carryOut_158 : decode cX8_carryOut 158 = .ok (.iconst 0, 1) := by decide +kernel
theorem dX8_carryOut_159 : decode cX8_carryOut 159 = .ok (.iaload, 1) := by decide +kernel
theorem dX8_carryOut_160 : decode cX8_carryOut 160 = .ok (.aload_n 3, 1) := by decide +kernel
theorem dX8_carryOut_161 : decode cX8_carryOut 161 = .ok (.iconst 1, 1) := by decide +kernel
theorem dX8_carryOut_162 : decode cX8_carryOut 162 = .ok (.iaload, 1) := by decide +kernel
theorem dX8_carryOut_163 : decode cX8_carryOut 163 = .ok (.aload_n 3, 1) := by decide +kernel
theorem dX8_carryOut_164 : decode cX8_carryOut 164 = .ok (.iconst 2, 1) := by decide +kernel
theorem dX8_carryOut_165 : decode cX8_carryOut 165 = .ok (.iaload, 1) := by decide +kernel
theorem dX8_carryOut_166 : decode cX8_carryOut 166 = .ok (.aload_n 3, 1) := by decide +kernel
theorem dX8_carryOut_167 : decode cX8_carryOut 167 = .ok (.iconst 3, 1) := by decide +kernel
theorem dX8_carryOut_168 : decode cX8_carryOut 168 = .ok (.iaload, 1) := by decide +kernel
theorem dX8_carryOut_169 : decode cX8_carryOut 169 = .ok (.invokevirtual 132, 3) := by decide +kernel
theorem dX8_carryOut_172 : decode cX8_carryOut 172 = .ok (.ireturn, 1) := by decide +kernel
theorem dX8_carryOut_173 : decode cX8_carryOut 173 = .ok (.aload_n 2, 1) := by decide +kernel
theorem dX8_carryOut_174 : decode cX8_carryOut 174 = .ok (.aload_n 3, 1) := by decide +kernel
theorem dX8_carryOut_175 : decode cX8_carryOut 175 = .ok (.iconst 0, 1) := by decide +kernel
theorem dX8_carryOut_176 : decode cX8_carryOut 176 = .ok (.iaload, 1) := by decide +kernel
theorem dX8_carryOut_177 : decode cX8_carryOut 177 = .ok (.invokevirtual 136, 3) := by decide +kernel
theorem dX8_carryOut_180 : decode cX8_carryOut 180 = .ok (.ireturn, 1) := by decide +kernel
theorem dX8_carryOut_181 : decode cX8_carryOut 181 = .ok (.aload_n 2, 1) := by decide +kernel
theorem dX8_carryOut_182 : decode cX8_carryOut 182 = .ok (.aload_n 3, 1) := by decide +kernel
theorem dX8_carryOut_183 : decode cX8_carryOut 183 = .ok (.iconst 0, 1) := by decide +kernel
theorem dX8_carryOut_184 : decode cX8_carryOut 184 = .ok (.iaload, 1) := by decide +kernel
theorem dX8_carryOut_185 : decode cX8_carryOut 185 = .ok (.invokevirtual 139, 3) := by decide +kernel
theorem dX8_carryOut_188 : decode cX8_carryOut 188 = .ok (.ireturn, 1) := by decide +kernel
theorem dX10_init_0 : decode cX10_init 0 = .ok (.aload_n 0, 1) := by decide +kernel
theorem dX10_init_1 : decode cX10_init 1 = .ok (.invokespecial 1, 3) := by decide +kernel
theorem dX10_init_4 : decode cX10_init 4 = .ok (.aload_n 0, 1) := by decide +kernel
theorem dX10_init_5 : decode cX10_init 5 = .ok (.new 7, 3) := by decide +kernel
theorem dX10_init_8 : decode cX10_init 8 = .ok (.dup, 1) := by decide +kernel
theorem dX10_init_9 : decode cX10_init 9 = .ok (.invokespecial 9, 3) := by decide +kernel
theorem dX10_init_12 : decode cX10_init 12 = .ok (.putfield 10, 3) := by decide +kernel
theorem dX10_init_15 : decode cX10_init 15 = .ok (.aload_n 0, 1) := by decide +kernel
theorem dX10_init_16 : decode cX10_init 16 = .ok (.new 7, 3) := by decide +kernel
theorem dX10_init_19 : decode cX10_init 19 = .ok (.dup, 1) := by decide +kernel
theorem dX10_init_20 : decode cX10_init 20 = .ok (.invokespecial 9, 3) := by decide +kernel
theorem dX10_init_23 : decode cX10_init 23 = .ok (.putfield 16, 3) := by decide +kernel
theorem dX10_init_26 : decode cX10_init 26 = .ok (.aload_n 0, 1) := by decide +kernel
theorem dX10_init_27 : decode cX10_init 27 = .ok (.new 7, 3) := by decide +kernel
theorem dX10_init_30 : decode cX10_init 30 = .ok (.dup, 1) := by decide +kernel
theorem dX10_init_31 : decode cX10_init 31 = .ok (.invokespecial 9, 3) := by decide +kernel
theorem dX10_init_34 : decode cX10_init 34 = .ok (.putfield 19, 3) := by decide +kernel
theorem dX10_init_37 : decode cX10_init 37 = .ok (.aload_n 0, 1) := by decide +kernel
theorem dX10_init_38 : decode cX10_init 38 = .ok (.new 22, 3) := by decide +kernel
theorem dX10_init_41 : decode cX10_init 41 = .ok (.dup, 1) := by decide +kernel
theorem dX10_init_42 : decode cX10_init 42 = .ok (.invokespecial 24, 3) := by decide +kernel
theorem dX10_init_45 : decode cX10_init 45 = .ok (.putfield 25, 3) := by decide +kernel
theorem dX10_init_48 : decode cX10_init 48 = .ok (.aload_n 0, 1) := by decide +kernel
theorem dX10_init_49 : decode cX10_init 49 = .ok (.new 29, 3) := by decide +kernel
theorem dX10_init_52 : decode cX10_init 52 = .ok (.dup, 1) := by decide +kernel
theorem dX10_init_53 : decode cX10_init 53 = .ok (.invokespecial 31, 3) := by decide +kernel
theorem dX10_init_56 : decode cX10_init 56 = .ok (.putfield 32, 3) := by decide +kernel
theorem dX10_init_59 : decode cX10_init 59 = .ok (.aload_n 0, 1) := by decide +kernel
theorem dX10_init_60 : decode cX10_init 60 = .ok (.new 36, 3) := by decide +kernel
theorem dX10_init_63 : decode cX10_init 63 = .ok (.dup, 1) := by decide +kernel
theorem dX10_init_64 : decode cX10_init 64 = .ok (.invokespecial 38, 3) := by decide +kernel
theorem dX10_init_67 : decode cX10_init 67 = .ok (.putfield 39, 3) := by decide +kernel
theorem dX10_init_70 : decode cX10_init 70 = .ok (.aload_n 0, 1) := by decide +kernel
theorem dX10_init_71 : decode cX10_init 71 = .ok (.new 43, 3) := by decide +kernel
theorem dX10_init_74 : decode cX10_init 74 = .ok (.dup, 1) := by decide +kernel
theorem dX10_init_75 : decode cX10_init 75 = .ok (.invokespecial 45, 3) := by decide +kernel
theorem dX10_init_78 : decode cX10_init 78 = .ok (.putfield 46, 3) := by decide +kernel
theorem dX10_init_81 : decode cX10_init 81 = .ok (.aload_n 0, 1) := by decide +kernel
theorem dX10_init_82 : decode cX10_init 82 = .ok (.iconst 0, 1) := by decide +kernel
theorem dX10_init_83 : decode cX10_init 83 = .ok (.putfield 50, 3) := by decide +kernel
theorem dX10_init_86 : decode cX10_init 86 = .ok (.aload_n 0, 1) := by decide +kernel
theorem dX10_init_87 : decode cX10_init 87 = .ok (.iconst (-1), 1) := by decide +kernel
theorem dX10_init_88 : decode cX10_init 88 = .ok (.putfield 54, 3) := by decide +kernel
theorem dX10_init_91 : decode cX10_init 91 = .ok (.aload_n 0, 1) := by decide +kernel
theorem dX10_init_92 : decode cX10_init 92 = .ok (.iconst (-1), 1) := by decide +kernel
theorem dX10_init_93 : decode cX10_init 93 = .ok (.putfield 58, 3) := by decide +kernel
theorem dX10_init_96 : decode cX10_init 96 = .ok (.return_, 1) := by decide +kernel
theorem dX10_addCoal_0 : decode cX10_addCoal 0 = .ok (.aload_n 0, 1) := by decide +kernel
theorem dX10_addCoal_1 : decode cX10_addCoal 1 = .ok (.getfield 25, 3) := by decide +kernel
theorem dX10_addCoal_4 : decode cX10_addCoal 4 = .ok (.aload_n 0, 1) := by decide +kernel
theorem dX10_addCoal_5 : decode cX10_addCoal 5 = .ok (.getfield 10, 3) := by decide +kernel
theorem dX10_addCoal_8 : decode cX10_addCoal 8 = .ok (.invokevirtual 61, 3) := by decide +kernel
theorem dX10_addCoal_11 : decode cX10_addCoal 11 = .ok (.aload_n 0, 1) := by decide +kernel
theorem dX10_addCoal_12 : decode cX10_addCoal 12 = .ok (.aload_n 0, 1) := by decide +kernel
theorem dX10_addCoal_13 : decode cX10_addCoal 13 = .ok (.getfield 10, 3) := by decide +kernel
theorem dX10_addCoal_16 : decode cX10_addCoal 16 = .ok (.iload_n 1, 1) := by decide +kernel
theorem dX10_addCoal_17 : decode cX10_addCoal 17 = .ok (.invokevirtual 65, 3) := by decide +kernel
theorem dX10_addCoal_20 : decode cX10_addCoal 20 = .ok (.invokevirtual 69, 3) := by decide +kernel
theorem dX10_addCoal_23 : decode cX10_addCoal 23 = .ok (.ireturn, 1) := by decide +kernel
theorem dX10_setBellows_0 : decode cX10_setBellows 0 = .ok (.aload_n 0, 1) := by decide +kernel
theorem dX10_setBellows_1 : decode cX10_setBellows 1 = .ok (.getfield 25, 3) := by decide +kernel
theorem dX10_setBellows_4 : decode cX10_setBellows 4 = .ok (.aload_n 0, 1) := by decide +kernel
theorem dX10_setBellows_5 : decode cX10_setBellows 5 = .ok (.getfield 10, 3) := by decide +kernel
theorem dX10_setBellows_8 : decode cX10_setBellows 8 = .ok (.invokevirtual 61, 3) := by decide +kernel
theorem dX10_setBellows_11 : decode cX10_setBellows 11 = .ok (.aload_n 0, 1) := by decide +kernel
theorem dX10_setBellows_12 : decode cX10_setBellows 12 = .ok (.aload_n 0, 1) := by decide +kernel
theorem dX10_setBellows_13 : decode cX10_setBellows 13 = .ok (.getfield 10, 3) := by decide +kernel
theorem dX10_setBellows_16 : decode cX10_setBellows 16 = .ok (.iload_n 1, 1) := by decide +kernel
theorem dX10_setBellows_17 : decode cX10_setBellows 17 = .ok (.invokevirtual 72, 3) := by decide +kernel
theorem dX10_setBellows_20 : decode cX10_setBellows 20 = .ok (.invokevirtual 69, 3) := by decide +kernel
theorem dX10_setBellows_23 : decode cX10_setBellows 23 = .ok (.ireturn, 1) := by decide +kernel
theorem dX10_advance_0 : decode cX10_advance 0 = .ok (.aload_n 0, 1) := by decide +kernel
theorem dX10_advance_1 : decode cX10_advance 1 = .ok (.getfield 25, 3) := by decide +kernel
theorem dX10_advance_4 : decode cX10_advance 4 = .ok (.aload_n 0, 1) := by decide +kernel
theorem dX10_advance_5 : decode cX10_advance 5 = .ok (.getfield 10, 3) := by decide +kernel
theorem dX10_advance_8 : decode cX10_advance 8 = .ok (.invokevirtual 61, 3) := by decide +kernel
theorem dX10_advance_11 : decode cX10_advance 11 = .ok (.aload_n 0, 1) := by decide +kernel
theorem dX10_advance_12 : decode cX10_advance 12 = .ok (.aload_n 0, 1) := by decide +kernel
theorem dX10_advance_13 : decode cX10_advance 13 = .ok (.getfield 10, 3) := by decide +kernel
theorem dX10_advance_16 : decode cX10_advance 16 = .ok (.iload_n 1, 1) := by decide +kernel
theorem dX10_advance_17 : decode cX10_advance 17 = .ok (.invokevirtual 75, 3) := by decide +kernel
theorem dX10_advance_20 : decode cX10_advance 20 = .ok (.invokevirtual 69, 3) := by decide +kernel
theorem dX10_advance_23 : decode cX10_advance 23 = .ok (.ireturn, 1) := by decide +kernel
theorem dX10_addPiece_0 : decode cX10_addPiece 0 = .ok (.aload_n 0, 1) := by decide +kernel
theorem dX10_addPiece_1 : decode cX10_addPiece 1 = .ok (.getfield 25, 3) := by decide +kernel
theorem dX10_addPiece_4 : decode cX10_addPiece 4 = .ok (.aload_n 0, 1) := by decide +kernel
theorem dX10_addPiece_5 : decode cX10_addPiece 5 = .ok (.getfield 10, 3) := by decide +kernel
theorem dX10_addPiece_8 : decode cX10_addPiece 8 = .ok (.invokevirtual 61, 3) := by decide +kernel
theorem dX10_addPiece_11 : decode cX10_addPiece 11 = .ok (.aload_n 0, 1) := by decide +kernel
theorem dX10_addPiece_12 : decode cX10_addPiece 12 = .ok (.aload_n 0, 1) := by decide +kernel
theorem dX10_addPiece_13 : decode cX10_addPiece 13 = .ok (.getfield 10, 3) := by decide +kernel
theorem dX10_addPiece_16 : decode cX10_addPiece 16 = .ok (.iload_n 1, 1) := by decide +kernel
theorem dX10_addPiece_17 : decode cX10_addPiece 17 = .ok (.invokevirtual 78, 3) := by decide +kernel
theorem dX10_addPiece_20 : decode cX10_addPiece 20 = .ok (.invokevirtual 69, 3) := by decide +kernel
theorem dX10_addPiece_23 : decode cX10_addPiece 23 = .ok (.ireturn, 1) := by decide +kernel
theorem dX10_addHammer_0 : decode cX10_addHammer 0 = .ok (.aload_n 0, 1) := by decide +kernel
theorem dX10_addHammer_1 : decode cX10_addHammer 1 = .ok (.getfield 25, 3) := by decide +kernel
theorem dX10_addHammer_4 : decode cX10_addHammer 4 = .ok (.aload_n 0, 1) := by decide +kernel
theorem dX10_addHammer_5 : decode cX10_addHammer 5 = .ok (.getfield 10, 3) := by decide +kernel
theorem dX10_addHammer_8 : decode cX10_addHammer 8 = .ok (.invokevirtual 61, 3) := by decide +kernel
theorem dX10_addHammer_11 : decode cX10_addHammer 11 = .ok (.aload_n 0, 1) := by decide +kernel
theorem dX10_addHammer_12 : decode cX10_addHammer 12 = .ok (.aload_n 0, 1) := by decide +kernel
theorem dX10_addHammer_13 : decode cX10_addHammer 13 = .ok (.getfield 10, 3) := by decide +kernel
theorem dX10_addHammer_16 : decode cX10_addHammer 16 = .ok (.iload_n 1, 1) := by decide +kernel
theorem dX10_addHammer_17 : decode cX10_addHammer 17 = .ok (.invokevirtual 82, 3) := by decide +kernel
theorem dX10_addHammer_20 : decode cX10_addHammer 20 = .ok (.invokevirtual 69, 3) := by decide +kernel
theorem dX10_addHammer_23 : decode cX10_addHammer 23 = .ok (.ireturn, 1) := by decide +kernel
theorem dX10_putIn_0 : decode cX10_putIn 0 = .ok (.aload_n 0, 1) := by decide +kernel
theorem dX10_putIn_1 : decode cX10_putIn 1 = .ok (.getfield 25, 3) := by decide +kernel
theorem dX10_putIn_4 : decode cX10_putIn 4 = .ok (.aload_n 0, 1) := by decide +kernel
theorem dX10_putIn_5 : decode cX10_putIn 5 = .ok (.getfield 10, 3) := by decide +kernel
theorem dX10_putIn_8 : decode cX10_putIn 8 = .ok (.invokevirtual 61, 3) := by decide +kernel
theorem dX10_putIn_11 : decode cX10_putIn 11 = .ok (.aload_n 0, 1) := by decide +kernel
theorem dX10_putIn_12 : decode cX10_putIn 12 = .ok (.aload_n 0, 1) := by decide +kernel
theorem dX10_putIn_13 : decode cX10_putIn 13 = .ok (.getfield 10, 3) := by decide +kernel
theorem dX10_putIn_16 : decode cX10_putIn 16 = .ok (.iload_n 1, 1) := by decide +kernel
theorem dX10_putIn_17 : decode cX10_putIn 17 = .ok (.invokevirtual 85, 3) := by decide +kernel
theorem dX10_putIn_20 : decode cX10_putIn 20 = .ok (.invokevirtual 69, 3) := by decide +kernel
theorem dX10_putIn_23 : decode cX10_putIn 23 = .ok (.ireturn, 1) := by decide +kernel
theorem dX10_takeOut_0 : decode cX10_takeOut 0 = .ok (.aload_n 0, 1) := by decide +kernel
theorem dX10_takeOut_1 : decode cX10_takeOut 1 = .ok (.getfield 25, 3) := by decide +kernel
theorem dX10_takeOut_4 : decode cX10_takeOut 4 = .ok (.aload_n 0, 1) := by decide +kernel
theorem dX10_takeOut_5 : decode cX10_takeOut 5 = .ok (.getfield 10, 3) := by decide +kernel
theorem dX10_takeOut_8 : decode cX10_takeOut 8 = .ok (.invokevirtual 61, 3) := by decide +kernel
theorem dX10_takeOut_11 : decode cX10_takeOut 11 = .ok (.aload_n 0, 1) := by decide +kernel
theorem dX10_takeOut_12 : decode cX10_takeOut 12 = .ok (.aload_n 0, 1) := by decide +kernel
theorem dX10_takeOut_13 : decode cX10_takeOut 13 = .ok (.getfield 10, 3) := by decide +kernel
theorem dX10_takeOut_16 : decode cX10_takeOut 16 = .ok (.iload_n 1, 1) := by decide +kernel
theorem dX10_takeOut_17 : decode cX10_takeOut 17 = .ok (.invokevirtual 88, 3) := by decide +kernel
theorem dX10_takeOut_20 : decode cX10_takeOut 20 = .ok (.invokevirtual 69, 3) := by decide +kernel
theorem dX10_takeOut_23 : decode cX10_takeOut 23 = .ok (.ireturn, 1) := by decide +kernel
theorem dX10_hammer_0 : decode cX10_hammer 0 = .ok (.aload_n 0, 1) := by decide +kernel
theorem dX10_hammer_1 : decode cX10_hammer 1 = .ok (.getfield 25, 3) := by decide +kernel
theorem dX10_hammer_4 : decode cX10_hammer 4 = .ok (.aload_n 0, 1) := by decide +kernel
theorem dX10_hammer_5 : decode cX10_hammer 5 = .ok (.getfield 10, 3) := by decide +kernel
theorem dX10_hammer_8 : decode cX10_hammer 8 = .ok (.invokevirtual 61, 3) := by decide +kernel
theorem dX10_hammer_11 : decode cX10_hammer 11 = .ok (.aload_n 0, 1) := by decide +kernel
theorem dX10_hammer_12 : decode cX10_hammer 12 = .ok (.aload_n 0, 1) := by decide +kernel
theorem dX10_hammer_13 : decode cX10_hammer 13 = .ok (.getfield 10, 3) := by decide +kernel
theorem dX10_hammer_16 : decode cX10_hammer 16 = .ok (.iload_n 1, 1) := by decide +kernel
theorem dX10_hammer_17 : decode cX10_hammer 17 = .ok (.iload_n 2, 1) := by decide +kernel
theorem dX10_hammer_18 : decode cX10_hammer 18 = .ok (.invokevirtual 91, 3) := by decide +kernel
theorem dX10_hammer_21 : decode cX10_hammer 21 = .ok (.invokevirtual 69, 3) := by decide +kernel
theorem dX10_hammer_24 : decode cX10_hammer 24 = .ok (.ireturn, 1) := by decide +kernel
theorem dX10_quench_0 : decode cX10_quench 0 = .ok (.aload_n 0, 1) := by decide +kernel
theorem dX10_quench_1 : decode cX10_quench 1 = .ok (.getfield 25, 3) := by decide +kernel
theorem dX10_quench_4 : decode cX10_quench 4 = .ok (.aload_n 0, 1) := by decide +kernel
theorem dX10_quench_5 : decode cX10_quench 5 = .ok (.getfield 10, 3) := by decide +kernel
theorem dX10_quench_8 : decode cX10_quench 8 = .ok (.invokevirtual 61, 3) := by decide +kernel
theorem dX10_quench_11 : decode cX10_quench 11 = .ok (.aload_n 0, 1) := by decide +kernel
theorem dX10_quench_12 : decode cX10_quench 12 = .ok (.aload_n 0, 1) := by decide +kernel
theorem dX10_quench_13 : decode cX10_quench 13 = .ok (.getfield 10, 3) := by decide +kernel
theorem dX10_quench_16 : decode cX10_quench 16 = .ok (.iload_n 1, 1) := by decide +kernel
theorem dX10_quench_17 : decode cX10_quench 17 = .ok (.invokevirtual 95, 3) := by decide +kernel
theorem dX10_quench_20 : decode cX10_quench 20 = .ok (.invokevirtual 69, 3) := by decide +kernel
theorem dX10_quench_23 : decode cX10_quench 23 = .ok (.ireturn, 1) := by decide +kernel
theorem dX10_test_0 : decode cX10_test 0 = .ok (.aload_n 0, 1) := by decide +kernel
theorem dX10_test_1 : decode cX10_test 1 = .ok (.getfield 25, 3) := by decide +kernel
theorem dX10_test_4 : decode cX10_test 4 = .ok (.aload_n 0, 1) := by decide +kernel
theorem dX10_test_5 : decode cX10_test 5 = .ok (.getfield 10, 3) := by decide +kernel
theorem dX10_test_8 : decode cX10_test 8 = .ok (.invokevirtual 61, 3) := by decide +kernel
theorem dX10_test_11 : decode cX10_test 11 = .ok (.aload_n 0, 1) := by decide +kernel
theorem dX10_test_12 : decode cX10_test 12 = .ok (.aload_n 0, 1) := by decide +kernel
theorem dX10_test_13 : decode cX10_test 13 = .ok (.getfield 10, 3) := by decide +kernel
theorem dX10_test_16 : decode cX10_test 16 = .ok (.iload_n 1, 1) := by decide +kernel
theorem dX10_test_17 : decode cX10_test 17 = .ok (.invokevirtual 98, 3) := by decide +kernel
theorem dX10_test_20 : decode cX10_test 20 = .ok (.invokevirtual 69, 3) := by decide +kernel
theorem dX10_test_23 : decode cX10_test 23 = .ok (.iconst 1, 1) := by decide +kernel
theorem dX10_test_24 : decode cX10_test 24 = .ok (.if_icmp .ne 7, 3) := by decide +kernel
theorem dX10_test_27 : decode cX10_test 27 = .ok (.iconst 1, 1) := by decide +kernel
theorem dX10_test_28 : decode cX10_test 28 = .ok (.goto 4, 3) := by decide +kernel
theorem dX10_test_31 : decode cX10_test 31 = .ok (.iconst 0, 1) := by decide +kernel
theorem dX10_test_32 : decode cX10_test 32 = .ok (.ireturn, 1) := by decide +kernel
theorem dX10_assemble_0 : decode cX10_assemble 0 = .ok (.aload_n 0, 1) := by decide +kernel
theorem dX10_assemble_1 : decode cX10_assemble 1 = .ok (.getfield 25, 3) := by decide +kernel
theorem dX10_assemble_4 : decode cX10_assemble 4 = .ok (.aload_n 0, 1) := by decide +kernel
theorem dX10_assemble_5 : decode cX10_assemble 5 = .ok (.getfield 10, 3) := by decide +kernel
theorem dX10_assemble_8 : decode cX10_assemble 8 = .ok (.invokevirtual 61, 3) := by decide +kernel
theorem dX10_assemble_11 : decode cX10_assemble 11 = .ok (.aload_n 0, 1) := by decide +kernel
theorem dX10_assemble_12 : decode cX10_assemble 12 = .ok (.aload_n 0, 1) := by decide +kernel
theorem dX10_assemble_13 : decode cX10_assemble 13 = .ok (.getfield 10, 3) := by decide +kernel
theorem dX10_assemble_16 : decode cX10_assemble 16 = .ok (.iload_n 1, 1) := by decide +kernel
theorem dX10_assemble_17 : decode cX10_assemble 17 = .ok (.iload_n 2, 1) := by decide +kernel
theorem dX10_assemble_18 : decode cX10_assemble 18 = .ok (.iload_n 3, 1) := by decide +kernel
theorem dX10_assemble_19 : decode cX10_assemble 19 = .ok (.iload 4, 2) := by decide +kernel
theorem dX10_assemble_21 : decode cX10_assemble 21 = .ok (.invokevirtual 101, 3) := by decide +kernel
theorem dX10_assemble_24 : decode cX10_assemble 24 = .ok (.invokevirtual 69, 3) := by decide +kernel
theorem dX10_assemble_27 : decode cX10_assemble 27 = .ok (.ireturn, 1) := by decide +kernel
theorem dX10_scrap_0 : decode cX10_scrap 0 = .ok (.aload_n 0, 1) := by decide +kernel
theorem dX10_scrap_1 : decode cX10_scrap 1 = .ok (.getfield 25, 3) := by decide +kernel
theorem dX10_scrap_4 : decode cX10_scrap 4 = .ok (.aload_n 0, 1) := by decide +kernel
theorem dX10_scrap_5 : decode cX10_scrap 5 = .ok (.getfield 10, 3) := by decide +kernel
theorem dX10_scrap_8 : decode cX10_scrap 8 = .ok (.invokevirtual 61, 3) := by decide +kernel
theorem dX10_scrap_11 : decode cX10_scrap 11 = .ok (.aload_n 0, 1) := by decide +kernel
theorem dX10_scrap_12 : decode cX10_scrap 12 = .ok (.aload_n 0, 1) := by decide +kernel
theorem dX10_scrap_13 : decode cX10_scrap 13 = .ok (.getfield 10, 3) := by decide +kernel
theorem dX10_scrap_16 : decode cX10_scrap 16 = .ok (.iload_n 1, 1) := by decide +kernel
theorem dX10_scrap_17 : decode cX10_scrap 17 = .ok (.invokevirtual 105, 3) := by decide +kernel
theorem dX10_scrap_20 : decode cX10_scrap 20 = .ok (.invokevirtual 69, 3) := by decide +kernel
theorem dX10_scrap_23 : decode cX10_scrap 23 = .ok (.ireturn, 1) := by decide +kernel
theorem dX10_settle_0 : decode cX10_settle 0 = .ok (.iload_n 1, 1) := by decide +kernel
theorem dX10_settle_1 : decode cX10_settle 1 = .ok (.tableswitch 85 (-5) (-1) #[75, 65, 55, 45, 35], 35) := by decide +kernel
theorem dX10_settle_36 : decode cX10_settle 36 = .ok (.new 108, 3) := by decide +kernel
theorem dX10_settle_39 : decode cX10_settle 39 = .ok (.dup, 1) := by decide +kernel
theorem dX10_settle_40 : decode cX10_settle 40 = .ok (.ldc 110, 2) := by decide +kernel
theorem dX10_settle_42 : decode cX10_settle 42 = .ok (.invokespecial 112, 3) := by decide +kernel
theorem dX10_settle_45 : decode cX10_settle 45 = .ok (.athrow, 1) := by decide +kernel
theorem dX10_settle_46 : decode cX10_settle 46 = .ok (.new 115, 3) := by decide +kernel
theorem dX10_settle_49 : decode cX10_settle 49 = .ok (.dup, 1) := by decide +kernel
theorem dX10_settle_50 : decode cX10_settle 50 = .ok (.ldc 117, 2) := by decide +kernel
theorem dX10_settle_52 : decode cX10_settle 52 = .ok (.invokespecial 119, 3) := by decide +kernel
theorem dX10_settle_55 : decode cX10_settle 55 = .ok (.athrow, 1) := by decide +kernel
theorem dX10_settle_56 : decode cX10_settle 56 = .ok (.new 120, 3) := by decide +kernel
theorem dX10_settle_59 : decode cX10_settle 59 = .ok (.dup, 1) := by decide +kernel
theorem dX10_settle_60 : decode cX10_settle 60 = .ok (.ldc 122, 2) := by decide +kernel
theorem dX10_settle_62 : decode cX10_settle 62 = .ok (.invokespecial 124, 3) := by decide +kernel
theorem dX10_settle_65 : decode cX10_settle 65 = .ok (.athrow, 1) := by decide +kernel
theorem dX10_settle_66 : decode cX10_settle 66 = .ok (.new 125, 3) := by decide +kernel
theorem dX10_settle_69 : decode cX10_settle 69 = .ok (.dup, 1) := by decide +kernel
theorem dX10_settle_70 : decode cX10_settle 70 = .ok (.ldc 127, 2) := by decide +kernel
theorem dX10_settle_72 : decode cX10_settle 72 = .ok (.invokespecial 129, 3) := by decide +kernel
theorem dX10_settle_75 : decode cX10_settle 75 = .ok (.athrow, 1) := by decide +kernel
theorem dX10_settle_76 : decode cX10_settle 76 = .ok (.new 130, 3) := by decide +kernel
theorem dX10_settle_79 : decode cX10_settle 79 = .ok (.dup, 1) := by decide +kernel
theorem dX10_settle_80 : decode cX10_settle 80 = .ok (.ldc 132, 2) := by decide +kernel
theorem dX10_settle_82 : decode cX10_settle 82 = .ok (.invokespecial 134, 3) := by decide +kernel
theorem dX10_settle_85 : decode cX10_settle 85 = .ok (.athrow, 1) := by decide +kernel
theorem dX10_settle_86 : decode cX10_settle 86 = .ok (.aload_n 0, 1) := by decide +kernel
theorem dX10_settle_87 : decode cX10_settle 87 = .ok (.getfield 25, 3) := by decide +kernel
theorem dX10_settle_90 : decode cX10_settle 90 = .ok (.invokevirtual 135, 3) := by decide +kernel
theorem dX10_settle_93 : decode cX10_settle 93 = .ok (.iload_n 1, 1) := by decide +kernel
theorem dX10_settle_94 : decode cX10_settle 94 = .ok (.ireturn, 1) := by decide +kernel
theorem dX10_time_0 : decode cX10_time 0 = .ok (.aload_n 0, 1) := by decide +kernel
theorem dX10_time_1 : decode cX10_time 1 = .ok (.getfield 10, 3) := by decide +kernel
theorem dX10_time_4 : decode cX10_time 4 = .ok (.getfield 138, 3) := by decide +kernel
theorem dX10_time_7 : decode cX10_time 7 = .ok (.ireturn, 1) := by decide +kernel
theorem dX10_furnace_0 : decode cX10_furnace 0 = .ok (.aload_n 0, 1) := by decide +kernel
theorem dX10_furnace_1 : decode cX10_furnace 1 = .ok (.getfield 10, 3) := by decide +kernel
theorem dX10_furnace_4 : decode cX10_furnace 4 = .ok (.getfield 141, 3) := by decide +kernel
theorem dX10_furnace_7 : decode cX10_furnace 7 = .ok (.getfield 145, 3) := by decide +kernel
theorem dX10_furnace_10 : decode cX10_furnace 10 = .ok (.ireturn, 1) := by decide +kernel
theorem dX10_bellows_0 : decode cX10_bellows 0 = .ok (.aload_n 0, 1) := by decide +kernel
theorem dX10_bellows_1 : decode cX10_bellows 1 = .ok (.getfield 10, 3) := by decide +kernel
theorem dX10_bellows_4 : decode cX10_bellows 4 = .ok (.getfield 141, 3) := by decide +kernel
theorem dX10_bellows_7 : decode cX10_bellows 7 = .ok (.getfield 150, 3) := by decide +kernel
theorem dX10_bellows_10 : decode cX10_bellows 10 = .ok (.ireturn, 1) := by decide +kernel
theorem dX10_coal_0 : decode cX10_coal 0 = .ok (.aload_n 0, 1) := by decide +kernel
theorem dX10_coal_1 : decode cX10_coal 1 = .ok (.getfield 10, 3) := by decide +kernel
theorem dX10_coal_4 : decode cX10_coal 4 = .ok (.getfield 141, 3) := by decide +kernel
theorem dX10_coal_7 : decode cX10_coal 7 = .ok (.getfield 153, 3) := by decide +kernel
theorem dX10_coal_10 : decode cX10_coal 10 = .ok (.ireturn, 1) := by decide +kernel
theorem dX10_coalMinutes_0 : decode cX10_coalMinutes 0 = .ok (.aload_n 0, 1) := by decide +kernel
theorem dX10_coalMinutes_1 : decode cX10_coalMinutes 1 = .ok (.getfield 10, 3) := by decide +kernel
theorem dX10_coalMinutes_4 : decode cX10_coalMinutes 4 = .ok (.getfield 141, 3) := by decide +kernel
theorem dX10_coalMinutes_7 : decode cX10_coalMinutes 7 = .ok (.getfield 150, 3) := by decide +kernel
theorem dX10_coalMinutes_10 : decode cX10_coalMinutes 10 = .ok (.istore_n 1, 1) := by decide +kernel
theorem dX10_coalMinutes_11 : decode cX10_coalMinutes 11 = .ok (.iload_n 1, 1) := by decide +kernel
theorem dX10_coalMinutes_12 : decode cX10_coalMinutes 12 = .ok (.ifCond .ne 13, 3) := by decide +kernel
theorem dX10_coalMinutes_15 : decode cX10_coalMinutes 15 = .ok (.new 156, 3) := by decide +kernel
theorem dX10_coalMinutes_18 : decode cX10_coalMinutes 18 = .ok (.dup, 1) := by decide +kernel
theorem dX10_coalMinutes_19 : decode cX10_coalMinutes 19 = .ok (.ldc 158, 2) := by decide +kernel
theorem dX10_coalMinutes_21 : decode cX10_coalMinutes 21 = .ok (.invokespecial 160, 3) := by decide +kernel
theorem dX10_coalMinutes_24 : decode cX10_coalMinutes 24 = .ok (.athrow, 1) := by decide +kernel
theorem dX10_coalMinutes_25 : decode cX10_coalMinutes 25 = .ok (.aload_n 0, 1) := by decide +kernel
theorem dX10_coalMinutes_26 : decode cX10_coalMinutes 26 = .ok (.getfield 10, 3) := by decide +kernel
theorem dX10_coalMinutes_29 : decode cX10_coalMinutes 29 = .ok (.getfield 141, 3) := by decide +kernel
theorem dX10_coalMinutes_32 : decode cX10_coalMinutes 32 = .ok (.getfield 153, 3) := by decide +kernel
theorem dX10_coalMinutes_35 : decode cX10_coalMinutes 35 = .ok (.iload_n 1, 1) := by decide +kernel
theorem dX10_coalMinutes_36 : decode cX10_coalMinutes 36 = .ok (.idiv, 1) := by decide +kernel
theorem dX10_coalMinutes_37 : decode cX10_coalMinutes 37 = .ok (.ireturn, 1) := by decide +kernel
theorem dX10_piecesInFurnace_0 : decode cX10_piecesInFurnace 0 = .ok (.aload_n 0, 1) := by decide +kernel
theorem dX10_piecesInFurnace_1 : decode cX10_piecesInFurnace 1 = .ok (.getfield 10, 3) := by decide +kernel
theorem dX10_piecesInFurnace_4 : decode cX10_piecesInFurnace 4 = .ok (.invokevirtual 161, 3) := by decide +kernel
theorem dX10_piecesInFurnace_7 : decode cX10_piecesInFurnace 7 = .ok (.ireturn, 1) := by decide +kernel
theorem dX10_furnaceAfter_0 : decode cX10_furnaceAfter 0 = .ok (.iload_n 1, 1) := by decide +kernel
theorem dX10_furnaceAfter_1 : decode cX10_furnaceAfter 1 = .ok (.ifCond .lt 10, 3) := by decide +kernel
theorem dX10_furnaceAfter_4 : decode cX10_furnaceAfter 4 = .ok (.iload_n 1, 1) := by decide +kernel
theorem dX10_furnaceAfter_5 : decode cX10_furnaceAfter 5 = .ok (.sipush 200, 3) := by decide +kernel
theorem dX10_furnaceAfter_8 : decode cX10_furnaceAfter 8 = .ok (.if_icmp .le 13, 3) := by decide +kernel
theorem dX10_furnaceAfter_11 : decode cX10_furnaceAfter 11 = .ok (.new 120, 3) := by decide +kernel
theorem dX10_furnaceAfter_14 : decode cX10_furnaceAfter 14 = .ok (.dup, 1) := by decide +kernel
theorem dX10_furnaceAfter_15 : decode cX10_furnaceAfter 15 = .ok (.ldc 165, 2) := by decide +kernel
theorem dX10_furnaceAfter_17 : decode cX10_furnaceAfter 17 = .ok (.invokespecial 124, 3) := by decide +kernel
theorem dX10_furnaceAfter_20 : decode cX10_furnaceAfter 20 = .ok (.athrow, 1) := by decide +kernel
theorem dX10_furnaceAfter_21 : decode cX10_furnaceAfter 21 = .ok (.aload_n 0, 1) := by decide +kernel
theorem dX10_furnaceAfter_22 : decode cX10_furnaceAfter 22 = .ok (.getfield 32, 3) := by decide +kernel
theorem dX10_furnaceAfter_25 : decode cX10_furnaceAfter 25 = .ok (.aload_n 0, 1) := by decide +kernel
theorem dX10_furnaceAfter_26 : decode cX10_furnaceAfter 26 = .ok (.getfield 10, 3) := by decide +kernel
theorem dX10_furnaceAfter_29 : decode cX10_furnaceAfter 29 = .ok (.iload_n 1, 1) := by decide +kernel
theorem dX10_furnaceAfter_30 : decode cX10_furnaceAfter 30 = .ok (.invokevirtual 167, 3) := by decide +kernel
theorem dX10_furnaceAfter_33 : decode cX10_furnaceAfter 33 = .ok (.ireturn, 1) := by decide +kernel
theorem dX10_pieceCount_0 : decode cX10_pieceCount 0 = .ok (.aload_n 0, 1) := by decide +kernel
theorem dX10_pieceCount_1 : decode cX10_pieceCount 1 = .ok (.getfield 10, 3) := by decide +kernel
theorem dX10_pieceCount_4 : decode cX10_pieceCount 4 = .ok (.getfield 171, 3) := by decide +kernel
theorem dX10_pieceCount_7 : decode cX10_pieceCount 7 = .ok (.ireturn, 1) := by decide +kernel
theorem dX10_exists_0 : decode cX10_exists 0 = .ok (.aload_n 0, 1) := by decide +kernel
theorem dX10_exists_1 : decode cX10_exists 1 = .ok (.getfield 10, 3) := by decide +kernel
theorem dX10_exists_4 : decode cX10_exists 4 = .ok (.iload_n 1, 1) := by decide +kernel
theorem dX10_exists_5 : decode cX10_exists 5 = .ok (.invokevirtual 174, 3) := by decide +kernel
theorem dX10_exists_8 : decode cX10_exists 8 = .ok (.ifnull 7, 3) := by decide +kernel
theorem dX10_exists_11 : decode cX10_exists 11 = .ok (.iconst 1, 1) := by decide +kernel
theorem dX10_exists_12 : decode cX10_exists 12 = .ok (.goto 4, 3) := by decide +kernel
theorem dX10_exists_15 : decode cX10_exists 15 = .ok (.iconst 0, 1) := by decide +kernel
theorem dX10_exists_16 : decode cX10_exists 16 = .ok (.ireturn, 1) := by decide +kernel
theorem dX10_pieceAt_0 : decode cX10_pieceAt 0 = .ok (.aload_n 0, 1) := by decide +kernel
theorem dX10_pieceAt_1 : decode cX10_pieceAt 1 = .ok (.getfield 10, 3) := by decide +kernel
theorem dX10_pieceAt_4 : decode cX10_pieceAt 4 = .ok (.iload_n 1, 1) := by decide +kernel
theorem dX10_pieceAt_5 : decode cX10_pieceAt 5 = .ok (.invokevirtual 178, 3) := by decide +kernel
