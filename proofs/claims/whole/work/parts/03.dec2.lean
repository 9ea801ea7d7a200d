theorem dX11_stroke_1 : decode cX11_stroke 1 = .ok (.aload_n 0, 1) := by decide +kernel
theorem dX11_stroke_2 : decode cX11_stroke 2 = .ok (.iload_n 1, 1) := by decide +kernel
theorem dX11_stroke_3 : decode cX11_stroke 3 = .ok (.invokevirtual 108, 3) := by decide +kernel
theorem dX11_stroke_6 : decode cX11_stroke 6 = .ok (.ifCond .ge 7, 3) := by decide +kernel
theorem dX11_stroke_9 : decode cX11_stroke 9 = .ok (.iconst 1, 1) := by decide +kernel
theorem dX11_stroke_10 : decode cX11_stroke 10 = .ok (.goto 16, 3) := by decide +kernel
theorem dX11_stroke_13 : decode cX11_stroke 13 = .ok (.aload_n 0, 1) := by decide +kernel
theorem dX11_stroke_14 : decode cX11_stroke 14 = .ok (.iload_n 2, 1) := by decide +kernel
theorem dX11_stroke_15 : decode cX11_stroke 15 = .ok (.invokevirtual 120, 3) := by decide +kernel
theorem dX11_stroke_18 : decode cX11_stroke 18 = .ok (.ifCond .eq 7, 3) := by decide +kernel
theorem dX11_stroke_21 : decode cX11_stroke 21 = .ok (.iconst 0, 1) := by decide +kernel
theorem dX11_stroke_22 : decode cX11_stroke 22 = .ok (.goto 4, 3) := by decide +kernel
theorem dX11_stroke_25 : decode cX11_stroke 25 = .ok (.iconst 2, 1) := by decide +kernel
theorem dX11_stroke_26 : decode cX11_stroke 26 = .ok (.putfield 50, 3) := by decide +kernel
theorem dX11_stroke_29 : decode cX11_stroke 29 = .ok (.aload_n 0, 1) := by decide +kernel
theorem dX11_stroke_30 : decode cX11_stroke 30 = .ok (.getfield 50, 3) := by decide +kernel
theorem dX11_stroke_33 : decode cX11_stroke 33 = .ok (.ifCond .ne 16, 3) := by decide +kernel
theorem dX11_stroke_36 : decode cX11_stroke 36 = .ok (.aload_n 0, 1) := by decide +kernel
theorem dX11_stroke_37 : decode cX11_stroke 37 = .ok (.aload_n 0, 1) := by decide +kernel
theorem dX11_stroke_38 : decode cX11_stroke 38 = .ok (.iload_n 1, 1) := by decide +kernel
theorem dX11_stroke_39 : decode cX11_stroke 39 = .ok (.invokevirtual 108, 3) := by decide +kernel
theorem dX11_stroke_42 : decode cX11_stroke 42 = .ok (.iload_n 2, 1) := by decide +kernel
theorem dX11_stroke_43 : decode cX11_stroke 43 = .ok (.invokevirtual 127, 3) := by decide +kernel
theorem dX11_stroke_46 : decode cX11_stroke 46 = .ok (.goto 4, 3) := by decide +kernel
theorem dX11_stroke_49 : decode cX11_stroke 49 = .ok (.iconst 0, 1) := by decide +kernel
theorem dX11_stroke_50 : decode cX11_stroke 50 = .ok (.ireturn, 1) := by decide +kernel
theorem dX11_minutesToCool_0 : decode cX11_minutesToCool 0 = .ok (.aload_n 0, 1) := by decide +kernel
theorem dX11_minutesToCool_1 : decode cX11_minutesToCool 1 = .ok (.iload_n 1, 1) := by decide +kernel
theorem dX11_minutesToCool_2 : decode cX11_minutesToCool 2 = .ok (.invokevirtual 108, 3) := by decide +kernel
theorem dX11_minutesToCool_5 : decode cX11_minutesToCool 5 = .ok (.istore_n 3, 1) := by decide +kernel
theorem dX11_minutesToCool_6 : decode cX11_minutesToCool 6 = .ok (.aload_n 0, 1) := by decide +kernel
theorem dX11_minutesToCool_7 : decode cX11_minutesToCool 7 = .ok (.iload_n 3, 1) := by decide +kernel
theorem dX11_minutesToCool_8 : decode cX11_minutesToCool 8 = .ok (.ifCond .ge 7, 3) := by decide +kernel
theorem dX11_minutesToCool_11 : decode cX11_minutesToCool 11 = .ok (.iconst 1, 1) := by decide +kernel
theorem dX11_minutesToCool_12 : decode cX11_minutesToCool 12 = .ok (.goto 20, 3) := by decide +kernel
theorem dX11_minutesToCool_15 : decode cX11_minutesToCool 15 = .ok (.iload_n 2, 1) := by decide +kernel
theorem dX11_minutesToCool_16 : decode cX11_minutesToCool 16 = .ok (.bipush 20, 2) := by decide +kernel
theorem dX11_minutesToCool_18 : decode cX11_minutesToCool 18 = .ok (.sipush 1200, 3) := by decide +kernel
theorem dX11_minutesToCool_21 : decode cX11_minutesToCool 21 = .ok (.invokestatic 64, 3) := by decide +kernel
theorem dX11_minutesToCool_24 : decode cX11_minutesToCool 24 = .ok (.ifCond .eq 7, 3) := by decide +kernel
theorem dX11_minutesToCool_27 : decode cX11_minutesToCool 27 = .ok (.iconst 0, 1) := by decide +kernel
theorem dX11_minutesToCool_28 : decode cX11_minutesToCool 28 = .ok (.goto 4, 3) := by decide +kernel
theorem dX11_minutesToCool_31 : decode cX11_minutesToCool 31 = .ok (.iconst 2, 1) := by decide +kernel
theorem dX11_minutesToCool_32 : decode cX11_minutesToCool 32 = .ok (.putfield 50, 3) := by decide +kernel
theorem dX11_minutesToCool_35 : decode cX11_minutesToCool 35 = .ok (.aload_n 0, 1) := by decide +kernel
theorem dX11_minutesToCool_36 : decode cX11_minutesToCool 36 = .ok (.getfield 50, 3) := by decide +kernel
theorem dX11_minutesToCool_39 : decode cX11_minutesToCool 39 = .ok (.ifCond .eq 5, 3) := by decide +kernel
theorem dX11_minutesToCool_42 : decode cX11_minutesToCool 42 = .ok (.iconst 0, 1) := by decide +kernel
theorem dX11_minutesToCool_43 : decode cX11_minutesToCool 43 = .ok (.ireturn, 1) := by decide +kernel
theorem dX11_minutesToCool_44 : decode cX11_minutesToCool 44 = .ok (.aload_n 0, 1) := by decide +kernel
theorem dX11_minutesToCool_45 : decode cX11_minutesToCool 45 = .ok (.invokevirtual 160, 3) := by decide +kernel
theorem dX11_minutesToCool_48 : decode cX11_minutesToCool 48 = .ok (.aload_n 0, 1) := by decide +kernel
theorem dX11_minutesToCool_49 : decode cX11_minutesToCool 49 = .ok (.getfield 16, 3) := by decide +kernel
theorem dX11_minutesToCool_52 : decode cX11_minutesToCool 52 = .ok (.iload_n 3, 1) := by decide +kernel
theorem dX11_minutesToCool_53 : decode cX11_minutesToCool 53 = .ok (.iconst 2, 1) := by decide +kernel
theorem dX11_minutesToCool_54 : decode cX11_minutesToCool 54 = .ok (.invokestatic 60, 3) := by decide +kernel
theorem dX11_minutesToCool_57 : decode cX11_minutesToCool 57 = .ok (.iaload, 1) := by decide +kernel
theorem dX11_minutesToCool_58 : decode cX11_minutesToCool 58 = .ok (.istore 4, 2) := by decide +kernel
theorem dX11_minutesToCool_60 : decode cX11_minutesToCool 60 = .ok (.iconst 0, 1) := by decide +kernel
theorem dX11_minutesToCool_61 : decode cX11_minutesToCool 61 = .ok (.istore 5, 2) := by decide +kernel
theorem dX11_minutesToCool_63 : decode cX11_minutesToCool 63 = .ok (.iload 4, 2) := by decide +kernel
theorem dX11_minutesToCool_65 : decode cX11_minutesToCool 65 = .ok (.iload_n 2, 1) := by decide +kernel
theorem dX11_minutesToCool_66 : decode cX11_minutesToCool 66 = .ok (.if_icmp .le 56, 3) := by decide +kernel
theorem dX11_minutesToCool_69 : decode cX11_minutesToCool 69 = .ok (.iload 5, 2) := by decide +kernel
theorem dX11_minutesToCool_71 : decode cX11_minutesToCool 71 = .ok (.sipush 200, 3) := by decide +kernel
theorem dX11_minutesToCool_74 : decode cX11_minutesToCool 74 = .ok (.if_icmp .ge 48, 3) := by decide +kernel
theorem dX11_minutesToCool_77 : decode cX11_minutesToCool 77 = .ok (.aload_n 0, 1) := by decide +kernel
theorem dX11_minutesToCool_78 : decode cX11_minutesToCool 78 = .ok (.getfield 29, 3) := by decide +kernel
theorem dX11_minutesToCool_81 : decode cX11_minutesToCool 81 = .ok (.invokestatic 84, 3) := by decide +kernel
theorem dX11_minutesToCool_84 : decode cX11_minutesToCool 84 = .ok (.iload 4, 2) := by decide +kernel
theorem dX11_minutesToCool_86 : decode cX11_minutesToCool 86 = .ok (.aload_n 0, 1) := by decide +kernel
theorem dX11_minutesToCool_87 : decode cX11_minutesToCool 87 = .ok (.getfield 16, 3) := by decide +kernel
theorem dX11_minutesToCool_90 : decode cX11_minutesToCool 90 = .ok (.iload_n 3, 1) := by decide +kernel
theorem dX11_minutesToCool_91 : decode cX11_minutesToCool 91 = .ok (.iconst 5, 1) := by decide +kernel
theorem dX11_minutesToCool_92 : decode cX11_minutesToCool 92 = .ok (.invokestatic 60, 3) := by decide +kernel
theorem dX11_minutesToCool_95 : decode cX11_minutesToCool 95 = .ok (.iaload, 1) := by decide +kernel
theorem dX11_minutesToCool_96 : decode cX11_minutesToCool 96 = .ok (.iconst 1, 1) := by decide +kernel
theorem dX11_minutesToCool_97 : decode cX11_minutesToCool 97 = .ok (.if_icmp .ne 7, 3) := by decide +kernel
theorem dX11_minutesToCool_100 : decode cX11_minutesToCool 100 = .ok (.iconst 1, 1) := by decide +kernel
theorem dX11_minutesToCool_101 : decode cX11_minutesToCool 101 = .ok (.goto 4, 3) := by decide +kernel
theorem dX11_minutesToCool_104 : decode cX11_minutesToCool 104 = .ok (.iconst 0, 1) := by decide +kernel
theorem dX11_minutesToCool_105 : decode cX11_minutesToCool 105 = .ok (.aload_n 0, 1) := by decide +kernel
theorem dX11_minutesToCool_106 : decode cX11_minutesToCool 106 = .ok (.getfield 29, 3) := by decide +kernel
theorem dX11_minutesToCool_109 : decode cX11_minutesToCool 109 = .ok (.iconst 1, 1) := by decide +kernel
theorem dX11_minutesToCool_110 : decode cX11_minutesToCool 110 = .ok (.iaload, 1) := by decide +kernel
theorem dX11_minutesToCool_111 : decode cX11_minutesToCool 111 = .ok (.invokestatic 88, 3) := by decide +kernel
theorem dX11_minutesToCool_114 : decode cX11_minutesToCool 114 = .ok (.istore 4, 2) := by decide +kernel
theorem dX11_minutesToCool_116 : decode cX11_minutesToCool 116 = .ok (.iinc 5 1, 3) := by decide +kernel
theorem dX11_minutesToCool_119 : decode cX11_minutesToCool 119 = .ok (.goto (-56), 3) := by decide +kernel
theorem dX11_minutesToCool_122 : decode cX11_minutesToCool 122 = .ok (.aload_n 0, 1) := by decide +kernel
theorem dX11_minutesToCool_123 : decode cX11_minutesToCool 123 = .ok (.iload 4, 2) := by decide +kernel
theorem dX11_minutesToCool_125 : decode cX11_minutesToCool 125 = .ok (.iload_n 2, 1) := by decide +kernel
theorem dX11_minutesToCool_126 : decode cX11_minutesToCool 126 = .ok (.if_icmp .le 7, 3) := by decide +kernel
theorem dX11_minutesToCool_129 : decode cX11_minutesToCool 129 = .ok (.iconst 3, 1) := by decide +kernel
theorem dX11_minutesToCool_130 : decode cX11_minutesToCool 130 = .ok (.goto 4, 3) := by decide +kernel
theorem dX11_minutesToCool_133 : decode cX11_minutesToCool 133 = .ok (.iconst 0, 1) := by decide +kernel
theorem dX11_minutesToCool_134 : decode cX11_minutesToCool 134 = .ok (.putfield 50, 3) := by decide +kernel
theorem dX11_minutesToCool_137 : decode cX11_minutesToCool 137 = .ok (.aload_n 0, 1) := by decide +kernel
theorem dX11_minutesToCool_138 : decode cX11_minutesToCool 138 = .ok (.getfield 50, 3) := by decide +kernel
theorem dX11_minutesToCool_141 : decode cX11_minutesToCool 141 = .ok (.ifCond .ne 8, 3) := by decide +kernel
theorem dX11_minutesToCool_144 : decode cX11_minutesToCool 144 = .ok (.iload 5, 2) := by decide +kernel
theorem dX11_minutesToCool_146 : decode cX11_minutesToCool 146 = .ok (.goto 4, 3) := by decide +kernel
theorem dX11_minutesToCool_149 : decode cX11_minutesToCool 149 = .ok (.iconst 0, 1) := by decide +kernel
theorem dX11_minutesToCool_150 : decode cX11_minutesToCool 150 = .ok (.ireturn, 1) := by decide +kernel
theorem dX11_minutesToCoolAlone_0 : decode cX11_minutesToCoolAlone 0 = .ok (.aload_n 0, 1) := by decide +kernel
theorem dX11_minutesToCoolAlone_1 : decode cX11_minutesToCoolAlone 1 = .ok (.iload_n 1, 1) := by decide +kernel
theorem dX11_minutesToCoolAlone_2 : decode cX11_minutesToCoolAlone 2 = .ok (.iload_n 2, 1) := by decide +kernel
theorem dX11_minutesToCoolAlone_3 : decode cX11_minutesToCoolAlone 3 = .ok (.invokevirtual 166, 3) := by decide +kernel
theorem dX11_minutesToCoolAlone_6 : decode cX11_minutesToCoolAlone 6 = .ok (.ireturn, 1) := by decide +kernel
theorem dX11_pieceAtRank_0 : decode cX11_pieceAtRank 0 = .ok (.aload_n 0, 1) := by decide +kernel
theorem dX11_pieceAtRank_1 : decode cX11_pieceAtRank 1 = .ok (.iconst 0, 1) := by decide +kernel
theorem dX11_pieceAtRank_2 : decode cX11_pieceAtRank 2 = .ok (.putfield 50, 3) := by decide +kernel
theorem dX11_pieceAtRank_5 : decode cX11_pieceAtRank 5 = .ok (.iconst 0, 1) := by decide +kernel
theorem dX11_pieceAtRank_6 : decode cX11_pieceAtRank 6 = .ok (.istore_n 2, 1) := by decide +kernel
theorem dX11_pieceAtRank_7 : decode cX11_pieceAtRank 7 = .ok (.iload_n 2, 1) := by decide +kernel
theorem dX11_pieceAtRank_8 : decode cX11_pieceAtRank 8 = .ok (.aload_n 0, 1) := by decide +kernel
theorem dX11_pieceAtRank_9 : decode cX11_pieceAtRank 9 = .ok (.getfield 16, 3) := by decide +kernel
theorem dX11_pieceAtRank_12 : decode cX11_pieceAtRank 12 = .ok (.iconst 5, 1) := by decide +kernel
theorem dX11_pieceAtRank_13 : decode cX11_pieceAtRank 13 = .ok (.iaload, 1) := by decide +kernel
theorem dX11_pieceAtRank_14 : decode cX11_pieceAtRank 14 = .ok (.if_icmp .ge 129, 3) := by decide +kernel
theorem dX11_pieceAtRank_17 : decode cX11_pieceAtRank 17 = .ok (.iconst 0, 1) := by decide +kernel
theorem dX11_pieceAtRank_18 : decode cX11_pieceAtRank 18 = .ok (.istore_n 3, 1) := by decide +kernel
theorem dX11_pieceAtRank_19 : decode cX11_pieceAtRank 19 = .ok (.iconst 0, 1) := by decide +kernel
theorem dX11_pieceAtRank_20 : decode cX11_pieceAtRank 20 = .ok (.istore 4, 2) := by decide +kernel
theorem dX11_pieceAtRank_22 : decode cX11_pieceAtRank 22 = .ok (.iload 4, 2) := by decide +kernel
theorem dX11_pieceAtRank_24 : decode cX11_pieceAtRank 24 = .ok (.aload_n 0, 1) := by decide +kernel
theorem dX11_pieceAtRank_25 : decode cX11_pieceAtRank 25 = .ok (.getfield 16, 3) := by decide +kernel
theorem dX11_pieceAtRank_28 : decode cX11_pieceAtRank 28 = .ok (.iconst 5, 1) := by decide +kernel
theorem dX11_pieceAtRank_29 : decode cX11_pieceAtRank 29 = .ok (.iaload, 1) := by decide +kernel
theorem dX11_pieceAtRank_30 : decode cX11_pieceAtRank 30 = .ok (.if_icmp .ge 91, 3) := by decide +kernel
theorem dX11_pieceAtRank_33 : decode cX11_pieceAtRank 33 = .ok (.aload_n 0, 1) := by decide +kernel
theorem dX11_pieceAtRank_34 : decode cX11_pieceAtRank 34 = .ok (.getfield 16, 3) := by decide +kernel
theorem dX11_pieceAtRank_37 : decode cX11_pieceAtRank 37 = .ok (.iload 4, 2) := by decide +kernel
theorem dX11_pieceAtRank_39 : decode cX11_pieceAtRank 39 = .ok (.iconst 4, 1) := by decide +kernel
theorem dX11_pieceAtRank_40 : decode cX11_pieceAtRank 40 = .ok (.invokestatic 60, 3) := by decide +kernel
theorem dX11_pieceAtRank_43 : decode cX11_pieceAtRank 43 = .ok (.iaload, 1) := by decide +kernel
theorem dX11_pieceAtRank_44 : decode cX11_pieceAtRank 44 = .ok (.aload_n 0, 1) := by decide +kernel
theorem dX11_pieceAtRank_45 : decode cX11_pieceAtRank 45 = .ok (.getfield 16, 3) := by decide +kernel
theorem dX11_pieceAtRank_48 : decode cX11_pieceAtRank 48 = .ok (.iload_n 2, 1) := by decide +kernel
theorem dX11_pieceAtRank_49 : decode cX11_pieceAtRank 49 = .ok (.iconst 4, 1) := by decide +kernel
theorem dX11_pieceAtRank_50 : decode cX11_pieceAtRank 50 = .ok (.invokestatic 60, 3) := by decide +kernel
theorem dX11_pieceAtRank_53 : decode cX11_pieceAtRank 53 = .ok (.iaload, 1) := by decide +kernel
theorem dX11_pieceAtRank_54 : decode cX11_pieceAtRank 54 = .ok (.isub, 1) := by decide +kernel
theorem dX11_pieceAtRank_55 : decode cX11_pieceAtRank 55 = .ok (.istore 5, 2) := by decide +kernel
theorem dX11_pieceAtRank_57 : decode cX11_pieceAtRank 57 = .ok (.iload 5, 2) := by decide +kernel
theorem dX11_pieceAtRank_59 : decode cX11_pieceAtRank 59 = .ok (.ifCond .eq 8, 3) := by decide +kernel
theorem dX11_pieceAtRank_62 : decode cX11_pieceAtRank 62 = .ok (.iload 5, 2) := by decide +kernel
theorem dX11_pieceAtRank_64 : decode cX11_pieceAtRank 64 = .ok (.goto 25, 3) := by decide +kernel
theorem dX11_pieceAtRank_67 : decode cX11_pieceAtRank 67 = .ok (.aload_n 0, 1) := by decide +kernel
theorem dX11_pieceAtRank_68 : decode cX11_pieceAtRank 68 = .ok (.getfield 16, 3) := by decide +kernel
theorem dX11_pieceAtRank_71 : decode cX11_pieceAtRank 71 = .ok (.iload 4, 2) := by decide +kernel
theorem dX11_pieceAtRank_73 : decode cX11_pieceAtRank 73 = .ok (.iconst 3, 1) := by decide +kernel
theorem dX11_pieceAtRank_74 : decode cX11_pieceAtRank 74 = .ok (.invokestatic 60, 3) := by decide +kernel
theorem dX11_pieceAtRank_77 : decode cX11_pieceAtRank 77 = .ok (.iaload, 1) := by decide +kernel
theorem dX11_pieceAtRank_78 : decode cX11_pieceAtRank 78 = .ok (.aload_n 0, 1) := by decide +kernel
theorem dX11_pieceAtRank_79 : decode cX11_pieceAtRank 79 = .ok (.getfield 16, 3) := by decide +kernel
theorem dX11_pieceAtRank_82 : decode cX11_pieceAtRank 82 = .ok (.iload_n 2, 1) := by decide +kernel
theorem dX11_pieceAtRank_83 : decode cX11_pieceAtRank 83 = .ok (.iconst 3, 1) := by decide +kernel
theorem dX11_pieceAtRank_84 : decode cX11_pieceAtRank 84 = .ok (.invokestatic 60, 3) := by decide +kernel
theorem dX11_pieceAtRank_87 : decode cX11_pieceAtRank 87 = .ok (.iaload, 1) := by decide +kernel
theorem dX11_pieceAtRank_88 : decode cX11_pieceAtRank 88 = .ok (.isub, 1) := by decide +kernel
theorem dX11_pieceAtRank_89 : decode cX11_pieceAtRank 89 = .ok (.istore 5, 2) := by decide +kernel
theorem dX11_pieceAtRank_91 : decode cX11_pieceAtRank 91 = .ok (.iload_n 3, 1) := by decide +kernel
theorem dX11_pieceAtRank_92 : decode cX11_pieceAtRank 92 = .ok (.iload 5, 2) := by decide +kernel
theorem dX11_pieceAtRank_94 : decode cX11_pieceAtRank 94 = .ok (.ifCond .gt 14, 3) := by decide +kernel
theorem dX11_pieceAtRank_97 : decode cX11_pieceAtRank 97 = .ok (.iload 5, 2) := by decide +kernel
theorem dX11_pieceAtRank_99 : decode cX11_pieceAtRank 99 = .ok (.ifCond .ne 13, 3) := by decide +kernel
theorem dX11_pieceAtRank_102 : decode cX11_pieceAtRank 102 = .ok (.iload 4, 2) := by decide +kernel
theorem dX11_pieceAtRank_104 : decode cX11_pieceAtRank 104 = .ok (.iload_n 2, 1) := by decide +kernel
theorem dX11_pieceAtRank_105 : decode cX11_pieceAtRank 105 = .ok (.if_icmp .ge 7, 3) := by decide +kernel
theorem dX11_pieceAtRank_108 : decode cX11_pieceAtRank 108 = .ok (.iconst 1, 1) := by decide +kernel
theorem dX11_pieceAtRank_109 : decode cX11_pieceAtRank 109 = .ok (.goto 4, 3) := by decide +kernel
theorem dX11_pieceAtRank_112 : decode cX11_pieceAtRank 112 = .ok (.iconst 0, 1) := by decide +kernel
theorem dX11_pieceAtRank_113 : decode cX11_pieceAtRank 113 = .ok (.iadd, 1) := by decide +kernel
theorem dX11_pieceAtRank_114 : decode cX11_pieceAtRank 114 = .ok (.istore_n 3, 1) := by decide +kernel
theorem dX11_pieceAtRank_115 : decode cX11_pieceAtRank 115 = .ok (.iinc 4 1, 3) := by decide +kernel
theorem dX11_pieceAtRank_118 : decode cX11_pieceAtRank 118 = .ok (.goto (-96), 3) := by decide +kernel
theorem dX11_pieceAtRank_121 : decode cX11_pieceAtRank 121 = .ok (.iload_n 3, 1) := by decide +kernel
theorem dX11_pieceAtRank_122 : decode cX11_pieceAtRank 122 = .ok (.iload_n 1, 1) := by decide +kernel
theorem dX11_pieceAtRank_123 : decode cX11_pieceAtRank 123 = .ok (.if_icmp .ne 14, 3) := by decide +kernel
theorem dX11_pieceAtRank_126 : decode cX11_pieceAtRank 126 = .ok (.aload_n 0, 1) := by decide +kernel
theorem dX11_pieceAtRank_127 : decode cX11_pieceAtRank 127 = .ok (.getfield 16, 3) := by decide +kernel
theorem dX11_pieceAtRank_130 : decode cX11_pieceAtRank 130 = .ok (.iload_n 2, 1) := by decide +kernel
theorem dX11_pieceAtRank_131 : decode cX11_pieceAtRank 131 = .ok (.iconst 0, 1) := by decide +kernel
theorem dX11_pieceAtRank_132 : decode cX11_pieceAtRank 132 = .ok (.invokestatic 60, 3) := by decide +kernel
theorem dX11_pieceAtRank_135 : decode cX11_pieceAtRank 135 = .ok (.iaload, 1) := by decide +kernel
theorem dX11_pieceAtRank_136 : decode cX11_pieceAtRank 136 = .ok (.ireturn, 1) := by decide +kernel
theorem dX11_pieceAtRank_137 : decode cX11_pieceAtRank 137 = .ok (.iinc 2 1, 3) := by decide +kernel
theorem dX11_pieceAtRank_140 : decode cX11_pieceAtRank 140 = .ok (.goto (-133), 3) := by decide +kernel
theorem dX11_pieceAtRank_143 : decode cX11_pieceAtRank 143 = .ok (.aload_n 0, 1) := by decide +kernel
theorem dX11_pieceAtRank_144 : decode cX11_pieceAtRank 144 = .ok (.iconst 1, 1) := by decide +kernel
theorem dX11_pieceAtRank_145 : decode cX11_pieceAtRank 145 = .ok (.invokevirtual 68, 3) := by decide +kernel
theorem dX11_pieceAtRank_148 : decode cX11_pieceAtRank 148 = .ok (.ireturn, 1) := by decide +kernel
theorem dX11_hammerCount_0 : decode cX11_hammerCount 0 = .ok (.aload_n 0, 1) := by decide +kernel
theorem dX11_hammerCount_1 : decode cX11_hammerCount 1 = .ok (.bipush 6, 2) := by decide +kernel
theorem dX11_hammerCount_3 : decode cX11_hammerCount 3 = .ok (.invokevirtual 157, 3) := by decide +kernel
theorem dX11_hammerCount_6 : decode cX11_hammerCount 6 = .ok (.ireturn, 1) := by decide +kernel
theorem dX11_weight_0 : decode cX11_weight 0 = .ok (.aload_n 0, 1) := by decide +kernel
theorem dX11_weight_1 : decode cX11_weight 1 = .ok (.aload_n 0, 1) := by decide +kernel
theorem dX11_weight_2 : decode cX11_weight 2 = .ok (.iload_n 1, 1) := by decide +kernel
theorem dX11_weight_3 : decode cX11_weight 3 = .ok (.invokevirtual 120, 3) := by decide +kernel
theorem dX11_weight_6 : decode cX11_weight 6 = .ok (.ifCond .eq 7, 3) := by decide +kernel
theorem dX11_weight_9 : decode cX11_weight 9 = .ok (.iconst 0, 1) := by decide +kernel
theorem dX11_weight_10 : decode cX11_weight 10 = .ok (.goto 4, 3) := by decide +kernel
theorem dX11_weight_13 : decode cX11_weight 13 = .ok (.iconst 1, 1) := by decide +kernel
theorem dX11_weight_14 : decode cX11_weight 14 = .ok (.putfield 50, 3) := by decide +kernel
theorem dX11_weight_17 : decode cX11_weight 17 = .ok (.aload_n 0, 1) := by decide +kernel
theorem dX11_weight_18 : decode cX11_weight 18 = .ok (.getfield 50, 3) := by decide +kernel
theorem dX11_weight_21 : decode cX11_weight 21 = .ok (.ifCond .ne 11, 3) := by decide +kernel
theorem dX11_weight_24 : decode cX11_weight 24 = .ok (.aload_n 0, 1) := by decide +kernel
theorem dX11_weight_25 : decode cX11_weight 25 = .ok (.iload_n 1, 1) := by decide +kernel
theorem dX11_weight_26 : decode cX11_weight 26 = .ok (.invokevirtual 117, 3) := by decide +kernel
theorem dX11_weight_29 : decode cX11_weight 29 = .ok (.goto 4, 3) := by decide +kernel
theorem dX11_weight_32 : decode cX11_weight 32 = .ok (.iconst 0, 1) := by decide +kernel
theorem dX11_weight_33 : decode cX11_weight 33 = .ok (.ireturn, 1) := by decide +kernel
theorem dX11_wear_0 : decode cX11_wear 0 = .ok (.aload_n 0, 1) := by decide +kernel
theorem dX11_wear_1 : decode cX11_wear 1 = .ok (.aload_n 0, 1) := by decide +kernel
theorem dX11_wear_2 : decode cX11_wear 2 = .ok (.iload_n 1, 1) := by decide +kernel
theorem dX11_wear_3 : decode cX11_wear 3 = .ok (.invokevirtual 120, 3) := by decide +kernel
theorem dX11_wear_6 : decode cX11_wear 6 = .ok (.ifCond .eq 7, 3) := by decide +kernel
theorem dX11_wear_9 : decode cX11_wear 9 = .ok (.iconst 0, 1) := by decide +kernel
theorem dX11_wear_10 : decode cX11_wear 10 = .ok (.goto 4, 3) := by decide +kernel
theorem dX11_wear_13 : decode cX11_wear 13 = .ok (.iconst 1, 1) := by decide +kernel
theorem dX11_wear_14 : decode cX11_wear 14 = .ok (.putfield 50, 3) := by decide +kernel
theorem dX11_wear_17 : decode cX11_wear 17 = .ok (.aload_n 0, 1) := by decide +kernel
theorem dX11_wear_18 : decode cX11_wear 18 = .ok (.getfield 50, 3) := by decide +kernel
theorem dX11_wear_21 : decode cX11_wear 21 = .ok (.ifCond .ne 11, 3) := by decide +kernel
theorem dX11_wear_24 : decode cX11_wear 24 = .ok (.aload_n 0, 1) := by decide +kernel
theorem dX11_wear_25 : decode cX11_wear 25 = .ok (.iload_n 1, 1) := by decide +kernel
theorem dX11_wear_26 : decode cX11_wear 26 = .ok (.invokevirtual 124, 3) := by decide +kernel
theorem dX11_wear_29 : decode cX11_wear 29 = .ok (.goto 4, 3) := by decide +kernel
theorem dX11_wear_32 : decode cX11_wear 32 = .ok (.iconst 0, 1) := by decide +kernel
theorem dX11_wear_33 : decode cX11_wear 33 = .ok (.ireturn, 1) := by decide +kernel
theorem dX11_heaviestHammer_0 : decode cX11_heaviestHammer 0 = .ok (.iconst (-1), 1) := by decide +kernel
theorem dX11_heaviestHammer_1 : decode cX11_heaviestHammer 1 = .ok (.istore_n 1, 1) := by decide +kernel
theorem dX11_heaviestHammer_2 : decode cX11_heaviestHammer 2 = .ok (.iconst 0, 1) := by decide +kernel
theorem dX11_heaviestHammer_3 : decode cX11_heaviestHammer 3 = .ok (.istore_n 2, 1) := by decide +kernel
theorem dX11_heaviestHammer_4 : decode cX11_heaviestHammer 4 = .ok (.iload_n 2, 1) := by decide +kernel
theorem dX11_heaviestHammer_5 : decode cX11_heaviestHammer 5 = .ok (.aload_n 0, 1) := by decide +kernel
theorem dX11_heaviestHammer_6 : decode cX11_heaviestHammer 6 = .ok (.getfield 16, 3) := by decide +kernel
theorem dX11_heaviestHammer_9 : decode cX11_heaviestHammer 9 = .ok (.bipush 6, 2) := by decide +kernel
theorem dX11_heaviestHammer_11 : decode cX11_heaviestHammer 11 = .ok (.iaload, 1) := by decide +kernel
theorem dX11_heaviestHammer_12 : decode cX11_heaviestHammer 12 = .ok (.if_icmp .ge 67, 3) := by decide +kernel
theorem dX11_heaviestHammer_15 : decode cX11_heaviestHammer 15 = .ok (.aload_n 0, 1) := by decide +kernel
theorem dX11_heaviestHammer_16 : decode cX11_heaviestHammer 16 = .ok (.iload_n 2, 1) := by decide +kernel
theorem dX11_heaviestHammer_17 : decode cX11_heaviestHammer 17 = .ok (.invokevirtual 124, 3) := by decide +kernel
theorem dX11_heaviestHammer_20 : decode cX11_heaviestHammer 20 = .ok (.bipush 20, 2) := by decide +kernel
theorem dX11_heaviestHammer_22 : decode cX11_heaviestHammer 22 = .ok (.if_icmp .ne 6, 3) := by decide +kernel
theorem dX11_heaviestHammer_25 : decode cX11_heaviestHammer 25 = .ok (.goto 48, 3) := by decide +kernel
theorem dX11_heaviestHammer_28 : decode cX11_heaviestHammer 28 = .ok (.iload_n 1, 1) := by decide +kernel
theorem dX11_heaviestHammer_29 : decode cX11_heaviestHammer 29 = .ok (.ifCond .lt 42, 3) := by decide +kernel
theorem dX11_heaviestHammer_32 : decode cX11_heaviestHammer 32 = .ok (.aload_n 0, 1) := by decide +kernel
theorem dX11_heaviestHammer_33 : decode cX11_heaviestHammer 33 = .ok (.iload_n 2, 1) := by decide +kernel
theorem dX11_heaviestHammer_34 : decode cX11_heaviestHammer 34 = .ok (.invokevirtual 117, 3) := by decide +kernel
theorem dX11_heaviestHammer_37 : decode cX11_heaviestHammer 37 = .ok (.aload_n 0, 1) := by decide +kernel
theorem dX11_heaviestHammer_38 : decode cX11_heaviestHammer 38 = .ok (.iload_n 1, 1) := by decide +kernel
theorem dX11_heaviestHammer_39 : decode cX11_heaviestHammer 39 = .ok (.invokevirtual 117, 3) := by decide +kernel
theorem dX11_heaviestHammer_42 : decode cX11_heaviestHammer 42 = .ok (.if_icmp .gt 29, 3) := by decide +kernel
theorem dX11_heaviestHammer_45 : decode cX11_heaviestHammer 45 = .ok (.aload_n 0, 1) := by decide +kernel
theorem dX11_heaviestHammer_46 : decode cX11_heaviestHammer 46 = .ok (.iload_n 2, 1) := by decide +kernel
theorem dX11_heaviestHammer_47 : decode cX11_heaviestHammer 47 = .ok (.invokevirtual 117, 3) := by decide +kernel
theorem dX11_heaviestHammer_50 : decode cX11_heaviestHammer 50 = .ok (.aload_n 0, 1) := by decide +kernel
theorem dX11_heaviestHammer_51 : decode cX11_heaviestHammer 51 = .ok (.iload_n 1, 1) := by decide +kernel
theorem dX11_heaviestHammer_52 : decode cX11_heaviestHammer 52 = .ok (.invokevirtual 117, 3) := by decide +kernel
theorem dX11_heaviestHammer_55 : decode cX11_heaviestHammer 55 = .ok (.if_icmp .ne 18, 3) := by decide +kernel
theorem dX11_heaviestHammer_58 : decode cX11_heaviestHammer 58 = .ok (.aload_n 0, 1) := by decide +kernel
theorem dX11_heaviestHammer_59 : decode cX11_heaviestHammer 59 = .ok (.iload_n 2, 1) := by decide +kernel
theorem dX11_heaviestHammer_60 : decode cX11_heaviestHammer 60 = .ok (.invokevirtual 124, 3) := by decide +kernel
theorem dX11_heaviestHammer_63 : decode cX11_heaviestHammer 63 = .ok (.aload_n 0, 1) := by decide +kernel
theorem dX11_heaviestHammer_64 : decode cX11_heaviestHammer 64 = .ok (.iload_n 1, 1) := by decide +kernel
theorem dX11_heaviestHammer_65 : decode cX11_heaviestHammer 65 = .ok (.invokevirtual 124, 3) := by decide +kernel
theorem dX11_heaviestHammer_68 : decode cX11_heaviestHammer 68 = .ok (.if_icmp .ge 5, 3) := by decide +kernel
theorem dX11_heaviestHammer_71 : decode cX11_heaviestHammer 71 = .ok (.iload_n 2, 1) := by decide +kernel
theorem dX11_heaviestHammer_72 : decode cX11_heaviestHammer 72 = .ok (.istore_n 1, 1) := by decide +kernel
theorem dX11_heaviestHammer_73 : decode cX11_heaviestHammer 73 = .ok (.iinc 2 1, 3) := by decide +kernel
theorem dX11_heaviestHammer_76 : decode cX11_heaviestHammer 76 = .ok (.goto (-72), 3) := by decide +kernel
theorem dX11_heaviestHammer_79 : decode cX11_heaviestHammer 79 = .ok (.aload_n 0, 1) := by decide +kernel
theorem dX11_heaviestHammer_80 : decode cX11_heaviestHammer 80 = .ok (.iload_n 1, 1) := by decide +kernel
theorem dX11_heaviestHammer_81 : decode cX11_heaviestHammer 81 = .ok (.ifCond .ge 7, 3) := by decide +kernel
theorem dX11_heaviestHammer_84 : decode cX11_heaviestHammer 84 = .ok (.iconst 1, 1) := by decide +kernel
theorem dX11_heaviestHammer_85 : decode cX11_heaviestHammer 85 = .ok (.goto 4, 3) := by decide +kernel
theorem dX11_heaviestHammer_88 : decode cX11_heaviestHammer 88 = .ok (.iconst 0, 1) := by decide +kernel
theorem dX11_heaviestHammer_89 : decode cX11_heaviestHammer 89 = .ok (.putfield 50, 3) := by decide +kernel
theorem dX11_heaviestHammer_92 : decode cX11_heaviestHammer 92 = .ok (.aload_n 0, 1) := by decide +kernel
theorem dX11_heaviestHammer_93 : decode cX11_heaviestHammer 93 = .ok (.getfield 50, 3) := by decide +kernel
theorem dX11_heaviestHammer_96 : decode cX11_heaviestHammer 96 = .ok (.ifCond .ne 7, 3) := by decide +kernel
theorem dX11_heaviestHammer_99 : decode cX11_heaviestHammer 99 = .ok (.iload_n 1, 1) := by decide +kernel
theorem dX11_heaviestHammer_100 : decode cX11_heaviestHammer 100 = .ok (.goto 4, 3) := by decide +kernel
theorem dX11_heaviestHammer_103 : decode cX11_heaviestHammer 103 = .ok (.iconst 0, 1) := by decide +kernel
theorem dX11_heaviestHammer_104 : decode cX11_heaviestHammer 104 = .ok (.ireturn, 1) := by decide +kernel
theorem dX11_strokeTotal_0 : decode cX11_strokeTotal 0 = .ok (.aload_n 0, 1) := by decide +kernel
theorem dX11_strokeTotal_1 : decode cX11_strokeTotal 1 = .ok (.bipush 7, 2) := by decide +kernel
theorem dX11_strokeTotal_3 : decode cX11_strokeTotal 3 = .ok (.invokevirtual 157, 3) := by decide +kernel
theorem dX11_strokeTotal_6 : decode cX11_strokeTotal 6 = .ok (.ireturn, 1) := by decide +kernel
theorem dX11_birdTotal_0 : decode cX11_birdTotal 0 = .ok (.aload_n 0, 1) := by decide +kernel
theorem dX11_birdTotal_1 : decode cX11_birdTotal 1 = .ok (.bipush 8, 2) := by decide +kernel
theorem dX11_birdTotal_3 : decode cX11_birdTotal 3 = .ok (.invokevirtual 157, 3) := by decide +kernel
theorem dX11_birdTotal_6 : decode cX11_birdTotal 6 = .ok (.ireturn, 1) := by decide +kernel
theorem dX11_burntTotal_0 : decode cX11_burntTotal 0 = .ok (.aload_n 0, 1) := by decide +kernel
theorem dX11_burntTotal_1 : decode cX11_burntTotal 1 = .ok (.bipush 9, 2) := by decide +kernel
theorem dX11_burntTotal_3 : decode cX11_burntTotal 3 = .ok (.invokevirtual 157, 3) := by decide +kernel
theorem dX11_burntTotal_6 : decode cX11_burntTotal 6 = .ok (.i2l, 1) := by decide +kernel
theorem dX11_burntTotal_7 : decode cX11_burntTotal 7 = .ok (.lreturn, 1) := by decide +kernel
theorem dX11_meanHardness_0 : decode cX11_meanHardness 0 = .ok (.aload_n 0, 1) := by decide +kernel
theorem dX11_meanHardness_1 : decode cX11_meanHardness 1 = .ok (.aload_n 0, 1) := by decide +kernel
theorem dX11_meanHardness_2 : decode cX11_meanHardness 2 = .ok (.getfield 16, 3) := by decide +kernel
theorem dX11_meanHardness_5 : decode cX11_meanHardness 5 = .ok (.iconst 5, 1) := by decide +kernel
theorem dX11_meanHardness_6 : decode cX11_meanHardness 6 = .ok (.iaload, 1) := by decide +kernel
theorem dX11_meanHardness_7 : decode cX11_meanHardness 7 = .ok (.ifCond .ne 7, 3) := by decide +kernel
theorem dX11_meanHardness_10 : decode cX11_meanHardness 10 = .ok (.iconst 1, 1) := by decide +kernel
theorem dX11_meanHardness_11 : decode cX11_meanHardness 11 = .ok (.goto 4, 3) := by decide +kernel
theorem dX11_meanHardness_14 : decode cX11_meanHardness 14 = .ok (.iconst 0, 1) := by decide +kernel
theorem dX11_meanHardness_15 : decode cX11_meanHardness 15 = .ok (.putfield 50, 3) := by decide +kernel
theorem dX11_meanHardness_18 : decode cX11_meanHardness 18 = .ok (.iconst 0, 1) := by decide +kernel
theorem dX11_meanHardness_19 : decode cX11_meanHardness 19 = .ok (.istore_n 1, 1) := by decide +kernel
theorem dX11_meanHardness_20 : decode cX11_meanHardness 20 = .ok (.iconst 0, 1) := by decide +kernel
theorem dX11_meanHardness_21 : decode cX11_meanHardness 21 = .ok (.istore_n 2, 1) := by decide +kernel
theorem dX11_meanHardness_22 : decode cX11_meanHardness 22 = .ok (.iload_n 2, 1) := by decide +kernel
theorem dX11_meanHardness_23 : decode cX11_meanHardness 23 = .ok (.aload_n 0, 1) := by decide +kernel
theorem dX11_meanHardness_24 : decode cX11_meanHardness 24 = .ok (.getfield 16, 3) := by decide +kernel
theorem dX11_meanHardness_27 : decode cX11_meanHardness 27 = .ok (.iconst 5, 1) := by decide +kernel
theorem dX11_meanHardness_28 : decode cX11_meanHardness 28 = .ok (.iaload, 1) := by decide +kernel
theorem dX11_meanHardness_29 : decode cX11_meanHardness 29 = .ok (.if_icmp .ge 22, 3) := by decide +kernel
theorem dX11_meanHardness_32 : decode cX11_meanHardness 32 = .ok (.iload_n 1, 1) := by decide +kernel
theorem dX11_meanHardness_33 : decode cX11_meanHardness 33 = .ok (.aload_n 0, 1) := by decide +kernel
theorem dX11_meanHardness_34 : decode cX11_meanHardness 34 = .ok (.getfield 16, 3) := by decide +kernel
theorem dX11_meanHardness_37 : decode cX11_meanHardness 37 = .ok (.iload_n 2, 1) := by decide +kernel
theorem dX11_meanHardness_38 : decode cX11_meanHardness 38 = .ok (.iconst 4, 1) := by decide +kernel
theorem dX11_meanHardness_39 : decode cX11_meanHardness 39 = .ok (.invokestatic 60, 3) := by decide +kernel
theorem dX11_meanHardness_42 : decode cX11_meanHardness 42 = .ok (.iaload, 1) := by decide +kernel
theorem dX11_meanHardness_43 : decode cX11_meanHardness 43 = .ok (.iadd, 1) := by decide +kernel
theorem dX11_meanHardness_44 : decode cX11_meanHardness 44 = .ok (.istore_n 1, 1) := by decide +kernel
theorem dX11_meanHardness_45 : decode cX11_meanHardness 45 = .ok (.iinc 2 1, 3) := by decide +kernel
theorem dX11_meanHardness_48 : decode cX11_meanHardness 48 = .ok (.goto (-26), 3) := by decide +kernel
theorem dX11_meanHardness_51 : decode cX11_meanHardness 51 = .ok (.aload_n 0, 1) := by decide +kernel
theorem dX11_meanHardness_52 : decode cX11_meanHardness 52 = .ok (.getfield 50, 3) := by decide +kernel
theorem dX11_meanHardness_55 : decode cX11_meanHardness 55 = .ok (.ifCond .ne 16, 3) := by decide +kernel
theorem dX11_meanHardness_58 : decode cX11_meanHardness 58 = .ok (.iload_n 1, 1) := by decide +kernel
theorem dX11_meanHardness_59 : decode cX11_meanHardness 59 = .ok (.i2d, 1) := by decide +kernel
theorem dX11_meanHardness_60 : decode cX11_meanHardness 60 = .ok (.aload_n 0, 1) := by decide +kernel
theorem dX11_meanHardness_61 : decode cX11_meanHardness 61 = .ok (.getfield 16, 3) := by decide +kernel
theorem dX11_meanHardness_64 : decode cX11_meanHardness 64 = .ok (.iconst 5, 1) := by decide +kernel
theorem dX11_meanHardness_65 : decode cX11_meanHardness 65 = .ok (.iaload, 1) := by decide +kernel
theorem dX11_meanHardness_66 : decode cX11_meanHardness 66 = .ok (.i2d, 1) := by decide +kernel
theorem dX11_meanHardness_67 : decode cX11_meanHardness 67 = .ok (.ddiv, 1) := by decide +kernel
theorem dX11_meanHardness_68 : decode cX11_meanHardness 68 = .ok (.goto 4, 3) := by decide +kernel
theorem dX11_meanHardness_71 : decode cX11_meanHardness 71 = .ok (.dconst 0, 1) := by decide +kernel
theorem dX11_meanHardness_72 : decode cX11_meanHardness 72 = .ok (.dreturn, 1) := by decide +kernel
theorem dX11_passShare_0 : decode cX11_passShare 0 = .ok (.aload_n 0, 1) := by decide +kernel
theorem dX11_passShare_1 : decode cX11_passShare 1 = .ok (.aload_n 0, 1) := by decide +kernel
theorem dX11_passShare_2 : decode cX11_passShare 2 = .ok (.getfield 16, 3) := by decide +kernel
theorem dX11_passShare_5 : decode cX11_passShare 5 = .ok (.bipush 11, 2) := by decide +kernel
theorem dX11_passShare_7 : decode cX11_passShare 7 = .ok (.iaload, 1) := by decide +kernel
theorem dX11_passShare_8 : decode cX11_passShare 8 = .ok (.ifCond .ne 7, 3) := by decide +kernel
theorem dX11_passShare_11 : decode cX11_passShare 11 = .ok (.iconst 1, 1) := by decide +kernel
theorem dX11_passShare_12 : decode cX11_passShare 12 = .ok (.goto 4, 3) := by decide +kernel
theorem dX11_passShare_15 : decode cX11_passShare 15 = .ok (.iconst 0, 1) := by decide +kernel
theorem dX11_passShare_16 : decode cX11_passShare 16 = .ok (.putfield 50, 3) := by decide +kernel
theorem dX11_passShare_19 : decode cX11_passShare 19 = .ok (.aload_n 0, 1) := by decide +kernel
theorem dX11_passShare_20 : decode cX11_passShare 20 = .ok (.getfield 50, 3) := by decide +kernel
theorem dX11_passShare_23 : decode cX11_passShare 23 = .ok (.ifCond .ne 23, 3) := by decide +kernel
theorem dX11_passShare_26 : decode cX11_passShare 26 = .ok (.aload_n 0, 1) := by decide +kernel
theorem dX11_passShare_27 : decode cX11_passShare 27 = .ok (.getfield 16, 3) := by decide +kernel
theorem dX11_passShare_30 : decode cX11_passShare 30 = .ok (.bipush 12, 2) := by decide +kernel
theorem dX11_passShare_32 : decode cX11_passShare 32 = .ok (.iaload, 1) := by decide +kernel
theorem dX11_passShare_33 : decode cX11_passShare 33 = .ok (.i2f, 1) := by decide +kernel
theorem dX11_passShare_34 : decode cX11_passShare 34 = .ok (.aload_n 0, 1) := by decide +kernel
theorem dX11_passShare_35 : decode cX11_passShare 35 = .ok (.getfield 16, 3) := by decide +kernel
theorem dX11_passShare_38 : decode cX11_passShare 38 = .ok (.bipush 11, 2) := by decide +kernel
theorem dX11_passShare_40 : decode cX11_passShare 40 = .ok (.iaload, 1) := by decide +kernel
theorem dX11_passShare_41 : decode cX11_passShare 41 = .ok (.i2f, 1) := by decide +kernel
theorem dX11_passShare_42 : decode cX11_passShare 42 = .ok (.fdiv, 1) := by decide +kernel
theorem dX11_passShare_43 : decode cX11_passShare 43 = .ok (.goto 4, 3) := by decide +kernel
theorem dX11_passShare_46 : decode cX11_passShare 46 = .ok (.fconst 0, 1) := by decide +kernel
theorem dX11_passShare_47 : decode cX11_passShare 47 = .ok (.freturn, 1) := by decide +kernel
theorem dX11_isConsistent_0 : decode cX11_isConsistent 0 = .ok (.aload_n 0, 1) := by decide +kernel
theorem dX11_isConsistent_1 : decode cX11_isConsistent 1 = .ok (.iconst 0, 1) := by decide +kernel
theorem dX11_isConsistent_2 : decode cX11_isConsistent 2 = .ok (.putfield 50, 3) := by decide +kernel
theorem dX11_isConsistent_5 : decode cX11_isConsistent 5 = .ok (.iconst 0, 1) := by decide +kernel
theorem dX11_isConsistent_6 : decode cX11_isConsistent 6 = .ok (.istore_n 1, 1) := by decide +kernel
theorem dX11_isConsistent_7 : decode cX11_isConsistent 7 = .ok (.iconst 0, 1) := by decide +kernel
theorem dX11_isConsistent_8 : decode cX11_isConsistent 8 = .ok (.istore_n 2, 1) := by decide +kernel
theorem dX11_isConsistent_9 : decode cX11_isConsistent 9 = .ok (.iload_n 2, 1) := by decide +kernel
theorem dX11_isConsistent_10 : decode cX11_isConsistent 10 = .ok (.aload_n 0, 1) := by decide +kernel
theorem dX11_isConsistent_11 : decode cX11_isConsistent 11 = .ok (.getfield 16, 3) := by decide +kernel
theorem dX11_isConsistent_14 : decode cX11_isConsistent 14 = .ok (.bipush 6, 2) := by decide +kernel
theorem dX11_isConsistent_16 : decode cX11_isConsistent 16 = .ok (.iaload, 1) := by decide +kernel
theorem dX11_isConsistent_17 : decode cX11_isConsistent 17 = .ok (.if_icmp .ge 17, 3) := by decide +kernel
theorem dX11_isConsistent_20 : decode cX11_isConsistent 20 = .ok (.iload_n 1, 1) := by decide +kernel
theorem dX11_isConsistent_21 : decode cX11_isConsistent 21 = .ok (.aload_n 0, 1) := by decide +kernel
theorem dX11_isConsistent_22 : decode cX11_isConsistent 22 = .ok (.iload_n 2, 1) := by decide +kernel
theorem dX11_isConsistent_23 : decode cX11_isConsistent 23 = .ok (.invokevirtual 124, 3) := by decide +kernel
theorem dX11_isConsistent_26 : decode cX11_isConsistent 26 = .ok (.iadd, 1) := by decide +kernel
theorem dX11_isConsistent_27 : decode cX11_isConsistent 27 = .ok (.istore_n 1, 1) := by decide +kernel
theorem dX11_isConsistent_28 : decode cX11_isConsistent 28 = .ok (.iinc 2 1, 3) := by decide +kernel
theorem dX11_isConsistent_31 : decode cX11_isConsistent 31 = .ok (.goto (-22), 3) := by decide +kernel
theorem dX11_isConsistent_34 : decode cX11_isConsistent 34 = .ok (.iload_n 1, 1) := by decide +kernel
theorem dX11_isConsistent_35 : decode cX11_isConsistent 35 = .ok (.aload_n 0, 1) := by decide +kernel
theorem dX11_isConsistent_36 : decode cX11_isConsistent 36 = .ok (.getfield 16, 3) := by decide +kernel
theorem dX11_isConsistent_39 : decode cX11_isConsistent 39 = .ok (.bipush 7, 2) := by decide +kernel
theorem dX11_isConsistent_41 : decode cX11_isConsistent 41 = .ok (.iaload, 1) := by decide +kernel
theorem dX11_isConsistent_42 : decode cX11_isConsistent 42 = .ok (.if_icmp .ne 34, 3) := by decide +kernel
theorem dX11_isConsistent_45 : decode cX11_isConsistent 45 = .ok (.aload_n 0, 1) := by decide +kernel
theorem dX11_isConsistent_46 : decode cX11_isConsistent 46 = .ok (.getfield 16, 3) := by decide +kernel
theorem dX11_isConsistent_49 : decode cX11_isConsistent 49 = .ok (.bipush 10, 2) := by decide +kernel
theorem dX11_isConsistent_51 : decode cX11_isConsistent 51 = .ok (.iaload, 1) := by decide +kernel
theorem dX11_isConsistent_52 : decode cX11_isConsistent 52 = .ok (.bipush 20, 2) := by decide +kernel
theorem dX11_isConsistent_54 : decode cX11_isConsistent 54 = .ok (.iadd, 1) := by decide +kernel
theorem dX11_isConsistent_55 : decode cX11_isConsistent 55 = .ok (.aload_n 0, 1) := by decide +kernel
theorem dX11_isConsistent_56 : decode cX11_isConsistent 56 = .ok (.getfield 16, 3) := by decide +kernel
theorem dX11_isConsistent_59 : decode cX11_isConsistent 59 = .ok (.iconst 3, 1) := by decide +kernel
theorem dX11_isConsistent_60 : decode cX11_isConsistent 60 = .ok (.iaload, 1) := by decide +kernel
theorem dX11_isConsistent_61 : decode cX11_isConsistent 61 = .ok (.aload_n 0, 1) := by decide +kernel
theorem dX11_isConsistent_62 : decode cX11_isConsistent 62 = .ok (.getfield 16, 3) := by decide +kernel
theorem dX11_isConsistent_65 : decode cX11_isConsistent 65 = .ok (.bipush 9, 2) := by decide +kernel
theorem dX11_isConsistent_67 : decode cX11_isConsistent 67 = .ok (.iaload, 1) := by decide +kernel
theorem dX11_isConsistent_68 : decode cX11_isConsistent 68 = .ok (.iadd, 1) := by decide +kernel
theorem dX11_isConsistent_69 : decode cX11_isConsistent 69 = .ok (.if_icmp .ne 7, 3) := by decide +kernel
theorem dX11_isConsistent_72 : decode cX11_isConsistent 72 = .ok (.iconst 1, 1) := by decide +kernel
theorem dX11_isConsistent_73 : decode cX11_isConsistent 73 = .ok (.goto 4, 3) := by decide +kernel
theorem dX11_isConsistent_76 : decode cX11_isConsistent 76 = .ok (.iconst 0, 1) := by decide +kernel
theorem dX11_isConsistent_77 : decode cX11_isConsistent 77 = .ok (.ireturn, 1) := by decide +kernel
theorem dX11_append_0 : decode cX11_append 0 = .ok (.aload_n 0, 1) := by decide +kernel
theorem dX11_append_1 : decode cX11_append 1 = .ok (.aload_n 0, 1) := by decide +kernel
theorem dX11_append_2 : decode cX11_append 2 = .ok (.getfield 169, 3) := by decide +kernel
theorem dX11_append_5 : decode cX11_append 5 = .ok (.bipush 60, 2) := by decide +kernel
theorem dX11_append_7 : decode cX11_append 7 = .ok (.if_icmp .ne 7, 3) := by decide +kernel
theorem dX11_append_10 : decode cX11_append 10 = .ok (.iconst 1, 1) := by decide +kernel
theorem dX11_append_11 : decode cX11_append 11 = .ok (.goto 4, 3) := by decide +kernel
theorem dX11_append_14 : decode cX11_append 14 = .ok (.iconst 0, 1) := by decide +kernel
theorem dX11_append_15 : decode cX11_append 15 = .ok (.putfield 50, 3) := by decide +kernel
theorem dX11_append_18 : decode cX11_append 18 = .ok (.aload_n 0, 1) := by decide +kernel
theorem dX11_append_19 : decode cX11_append 19 = .ok (.getfield 50, 3) := by decide +kernel
theorem dX11_append_22 : decode cX11_append 22 = .ok (.ifCond .eq 5, 3) := by decide +kernel
theorem dX11_append_25 : decode cX11_append 25 = .ok (.iconst 0, 1) := by decide +kernel
theorem dX11_append_26 : decode cX11_append 26 = .ok (.ireturn, 1) := by decide +kernel
theorem dX11_append_27 : decode cX11_append 27 = .ok (.aload_n 0, 1) := by decide +kernel
theorem dX11_append_28 : decode cX11_append 28 = .ok (.getfield 32, 3) := by decide +kernel
theorem dX11_append_31 : decode cX11_append 31 = .ok (.aload_n 0, 1) := by decide +kernel
theorem dX11_append_32 : decode cX11_append 32 = .ok (.getfield 169, 3) := by decide +kernel
theorem dX11_append_35 : decode cX11_append 35 = .ok (.iload_n 1, 1) := by decide +kernel
theorem dX11_append_36 : decode cX11_append 36 = .ok (.iastore, 1) := by decide +kernel
theorem dX11_append_37 : decode cX11_append 37 = .ok (.aload_n 0, 1) := by decide +kernel
theorem dX11_append_38 : decode cX11_append 38 = .ok (.dup, 1) := by decide +kernel
theorem dX11_append_39 : decode cX11_append 39 = .ok (.getfield 169, 3) := by decide +kernel
theorem dX11_append_42 : decode cX11_append 42 = .ok (.iconst 1, 1) := by decide +kernel
theorem dX11_append_43 : decode cX11_append 43 = .ok (.iadd, 1) := by decide +kernel
theorem dX11_append_44 : decode cX11_append 44 = .ok (.putfield 169, 3) := by decide +kernel
theorem dX11_append_47 : decode cX11_append 47 = .ok (.aload_n 0, 1) := by decide +kernel
theorem dX11_append_48 : decode cX11_append 48 = .ok (.getfield 169, 3) := by decide +kernel
theorem dX11_append_51 : decode cX11_append 51 = .ok (.ireturn, 1) := by decide +kernel
theorem dX11_sign_0 : decode cX11_sign 0 = .ok (.aload_n 0, 1) := by decide +kernel
theorem dX11_sign_1 : decode cX11_sign 1 = .ok (.getfield 172, 3) := by decide +kernel
theorem dX11_sign_4 : decode cX11_sign 4 = .ok (.aload_n 0, 1) := by decide +kernel
theorem dX11_sign_5 : decode cX11_sign 5 = .ok (.getfield 175, 3) := by decide +kernel
theorem dX11_sign_8 : decode cX11_sign 8 = .ok (.if_icmp .ge 15, 3) := by decide +kernel
theorem dX11_sign_11 : decode cX11_sign 11 = .ok (.aload_n 0, 1) := by decide +kernel
theorem dX11_sign_12 : decode cX11_sign 12 = .ok (.getfield 32, 3) := by decide +kernel
theorem dX11_sign_15 : decode cX11_sign 15 = .ok (.aload_n 0, 1) := by decide +kernel
theorem dX11_sign_16 : decode cX11_sign 16 = .ok (.getfield 172, 3) := by decide +kernel
theorem dX11_sign_19 : decode cX11_sign 19 = .ok (.iaload, 1) := by decide +kernel
theorem dX11_sign_20 : decode cX11_sign 20 = .ok (.goto 4, 3) := by decide +kernel
theorem dX11_sign_23 : decode cX11_sign 23 = .ok (.iconst (-1), 1) := by decide +kernel
theorem dX11_sign_24 : decode cX11_sign 24 = .ok (.ireturn, 1) := by decide +kernel
theorem dX11_mark_0 : decode cX11_mark 0 = .ok (.aload_n 0, 1) := by decide +kernel
theorem dX11_mark_1 : decode cX11_mark 1 = .ok (.getfield 178, 3) := by decide +kernel
theorem dX11_mark_4 : decode cX11_mark 4 = .ok (.ifCond .eq 4, 3) := by decide +kernel
theorem dX11_mark_7 : decode cX11_mark 7 = .ok (.return_, 1) := by decide +kernel
theorem dX11_mark_8 : decode cX11_mark 8 = .ok (.aload_n 0, 1) := by decide +kernel
theorem dX11_mark_9 : decode cX11_mark 9 = .ok (.aload_n 0, 1) := by decide +kernel
theorem dX11_mark_10 : decode cX11_mark 10 = .ok (.invokevirtual 182, 3) := by decide +kernel
theorem dX11_mark_13 : decode cX11_mark 13 = .ok (.iload_n 1, 1) := by decide +kernel
theorem dX11_mark_14 : decode cX11_mark 14 = .ok (.if_icmp .eq 7, 3) := by decide +kernel
theorem dX11_mark_17 : decode cX11_mark 17 = .ok (.iconst 1, 1) := by decide +kernel
theorem dX11_mark_18 : decode cX11_mark 18 = .ok (.goto 4, 3) := by decide +kernel
theorem dX11_mark_21 : decode cX11_mark 21 = .ok (.iconst 0, 1) := by decide +kernel
theorem dX11_mark_22 : decode cX11_mark 22 = .ok (.putfield 178, 3) := by decide +kernel
theorem dX11_mark_25 : decode cX11_mark 25 = .ok (.aload_n 0, 1) := by decide +kernel
theorem dX11_mark_26 : decode cX11_mark 26 = .ok (.dup, 1) := by decide +kernel
theorem dX11_mark_27 : decode cX11_mark 27 = .ok (.getfield 172, 3) := by decide +kernel
theorem dX11_mark_30 : decode cX11_mark 30 = .ok (.aload_n 0, 1) := by decide +kernel
theorem dX11_mark_31 : decode cX11_mark 31 = .ok (.getfield 178, 3) := by decide +kernel
theorem dX11_mark_34 : decode cX11_mark 34 = .ok (.ifCond .eq 7, 3) := by decide +kernel
theorem dX11_mark_37 : decode cX11_mark 37 = .ok (.iconst 0, 1) := by decide +kernel
theorem dX11_mark_38 : decode cX11_mark 38 = .ok (.goto 4, 3) := by decide +kernel
theorem dX11_mark_41 : decode cX11_mark 41 = .ok (.iconst 1, 1) := by decide +kernel
theorem dX11_mark_42 : decode cX11_mark 42 = .ok (.iadd, 1) := by decide +kernel
theorem dX11_mark_43 : decode cX11_mark 43 = .ok (.putfield 172, 3) := by decide +kernel
theorem dX11_mark_46 : decode cX11_mark 46 = .ok (.return_, 1) := by decide +kernel
theorem dX11_digits_0 : decode cX11_digits 0 = .ok (.iconst 0, 1) := by decide +kernel
theorem dX11_digits_1 : decode cX11_digits 1 = .ok (.istore_n 2, 1) := by decide +kernel
theorem dX11_digits_2 : decode cX11_digits 2 = .ok (.iconst 0, 1) := by decide +kernel
theorem dX11_digits_3 : decode cX11_digits 3 = .ok (.istore_n 3, 1) := by decide +kernel
theorem dX11_digits_4 : decode cX11_digits 4 = .ok (.aload_n 0, 1) := by decide +kernel
theorem dX11_digits_5 : decode cX11_digits 5 = .ok (.getfield 178, 3) := by decide +kernel
theorem dX11_digits_8 : decode cX11_digits 8 = .ok (.ifCond .ne 51, 3) := by decide +kernel
theorem dX11_digits_11 : decode cX11_digits 11 = .ok (.iload_n 3, 1) := by decide +kernel
theorem dX11_digits_12 : decode cX11_digits 12 = .ok (.iload_n 1, 1) := by decide +kernel
theorem dX11_digits_13 : decode cX11_digits 13 = .ok (.if_icmp .ge 46, 3) := by decide +kernel
theorem dX11_digits_16 : decode cX11_digits 16 = .ok (.aload_n 0, 1) := by decide +kernel
theorem dX11_digits_17 : decode cX11_digits 17 = .ok (.invokevirtual 182, 3) := by decide +kernel
theorem dX11_digits_20 : decode cX11_digits 20 = .ok (.bipush 48, 2) := by decide +kernel
theorem dX11_digits_22 : decode cX11_digits 22 = .ok (.bipush 57, 2) := by decide +kernel
theorem dX11_digits_24 : decode cX11_digits 24 = .ok (.invokestatic 64, 3) := by decide +kernel
theorem dX11_digits_27 : decode cX11_digits 27 = .ok (.ifCond .eq 32, 3) := by decide +kernel
theorem dX11_digits_30 : decode cX11_digits 30 = .ok (.bipush 10, 2) := by decide +kernel
theorem dX11_digits_32 : decode cX11_digits 32 = .ok (.iload_n 2, 1) := by decide +kernel
theorem dX11_digits_33 : decode cX11_digits 33 = .ok (.imul, 1) := by decide +kernel
theorem dX11_digits_34 : decode cX11_digits 34 = .ok (.aload_n 0, 1) := by decide +kernel
theorem dX11_digits_35 : decode cX11_digits 35 = .ok (.invokevirtual 182, 3) := by decide +kernel
theorem dX11_digits_38 : decode cX11_digits 38 = .ok (.iadd, 1) := by decide +kernel
theorem dX11_digits_39 : decode cX11_digits 39 = .ok (.bipush 48, 2) := by decide +kernel
theorem dX11_digits_41 : decode cX11_digits 41 = .ok (.isub, 1) := by decide +kernel
theorem dX11_digits_42 : decode cX11_digits 42 = .ok (.istore_n 2, 1) := by decide +kernel
theorem dX11_digits_43 : decode cX11_digits 43 = .ok (.aload_n 0, 1) := by decide +kernel
theorem dX11_digits_44 : decode cX11_digits 44 = .ok (.dup, 1) := by decide +kernel
theorem dX11_digits_45 : decode cX11_digits 45 = .ok (.getfield 172, 3) := by decide +kernel
theorem dX11_digits_48 : decode cX11_digits 48 = .ok (.iconst 1, 1) := by decide +kernel
theorem dX11_digits_49 : decode cX11_digits 49 = .ok (.iadd, 1) := by decide +kernel
theorem dX11_digits_50 : decode cX11_digits 50 = .ok (.putfield 172, 3) := by decide +kernel
theorem dX11_digits_53 : decode cX11_digits 53 = .ok (.iinc 3 1, 3) := by decide +kernel
theorem dX11_digits_56 : decode cX11_digits 56 = .ok (.goto (-52), 3) := by decide +kernel
theorem dX11_digits_59 : decode cX11_digits 59 = .ok (.aload_n 0, 1) := by decide +kernel
theorem dX11_digits_60 : decode cX11_digits 60 = .ok (.dup, 1) := by decide +kernel
theorem dX11_digits_61 : decode cX11_digits 61 = .ok (.getfield 178, 3) := by decide +kernel
theorem dX11_digits_64 : decode cX11_digits 64 = .ok (.iload_n 3, 1) := by decide +kernel
theorem dX11_digits_65 : decode cX11_digits 65 = .ok (.ifCond .ne 7, 3) := by decide +kernel
theorem dX11_digits_68 : decode cX11_digits 68 = .ok (.iconst 1, 1) := by decide +kernel
theorem dX11_digits_69 : decode cX11_digits 69 = .ok (.goto 4, 3) := by decide +kernel
theorem dX11_digits_72 : decode cX11_digits 72 = .ok (.iconst 0, 1) := by decide +kernel
theorem dX11_digits_73 : decode cX11_digits 73 = .ok (.ior, 1) := by decide +kernel
theorem dX11_digits_74 : decode cX11_digits 74 = .ok (.putfield 178, 3) := by decide +kernel
theorem dX11_digits_77 : decode cX11_digits 77 = .ok (.iload_n 2, 1) := by decide +kernel
theorem dX11_digits_78 : decode cX11_digits 78 = .ok (.ireturn, 1) := by decide +kernel
theorem dX11_behind_0 : decode cX11_behind 0 = .ok (.aload_n 0, 1) := by decide +kernel
theorem dX11_behind_1 : decode cX11_behind 1 = .ok (.bipush 32, 2) := by decide +kernel
theorem dX11_behind_3 : decode cX11_behind 3 = .ok (.invokevirtual 185, 3) := by decide +kernel
theorem dX11_behind_6 : decode cX11_behind 6 = .ok (.aload_n 0, 1) := by decide +kernel
theorem dX11_behind_7 : decode cX11_behind 7 = .ok (.getfield 178, 3) := by decide +kernel
theorem dX11_behind_10 : decode cX11_behind 10 = .ok (.ifCond .eq 7, 3) := by decide +kernel
theorem dX11_behind_13 : decode cX11_behind 13 = .ok (.iconst 0, 1) := by decide +kernel
theorem dX11_behind_14 : decode cX11_behind 14 = .ok (.goto 8, 3) := by decide +kernel
theorem dX11_behind_17 : decode cX11_behind 17 = .ok (.aload_n 0, 1) := by decide +kernel
theorem dX11_behind_18 : decode cX11_behind 18 = .ok (.iload_n 1, 1) := by decide +kernel
theorem dX11_behind_19 : decode cX11_behind 19 = .ok (.invokevirtual 188, 3) := by decide +kernel
theorem dX11_behind_22 : decode cX11_behind 22 = .ok (.ireturn, 1) := by decide +kernel
theorem dX11_letter_0 : decode cX11_letter 0 = .ok (.aload_n 0, 1) := by decide +kernel
theorem dX11_letter_1 : decode cX11_letter 1 = .ok (.invokevirtual 182, 3) := by decide +kernel
theorem dX11_letter_4 : decode cX11_letter 4 = .ok (.istore_n 1, 1) := by decide +kernel
theorem dX11_letter_5 : decode cX11_letter 5 = .ok (.aload_n 0, 1) := by decide +kernel
theorem dX11_letter_6 : decode cX11_letter 6 = .ok (.dup, 1) := by decide +kernel
theorem dX11_letter_7 : decode cX11_letter 7 = .ok (.getfield 178, 3) := by decide +kernel
theorem dX11_letter_10 : decode cX11_letter 10 = .ok (.iload_n 1, 1) := by decide +kernel
theorem dX11_letter_11 : decode cX11_letter 11 = .ok (.bipush 98, 2) := by decide +kernel
theorem dX11_letter_13 : decode cX11_letter 13 = .ok (.if_icmp .eq 19, 3) := by decide +kernel
theorem dX11_letter_16 : decode cX11_letter 16 = .ok (.iload_n 1, 1) := by decide +kernel
theorem dX11_letter_17 : decode cX11_letter 17 = .ok (.bipush 110, 2) := by decide +kernel
theorem dX11_letter_19 : decode cX11_letter 19 = .ok (.if_icmp .eq 13, 3) := by decide +kernel
theorem dX11_letter_22 : decode cX11_letter 22 = .ok (.iload_n 1, 1) := by decide +kernel
theorem dX11_letter_23 : decode cX11_letter 23 = .ok (.bipush 119, 2) := by decide +kernel
theorem dX11_letter_25 : decode cX11_letter 25 = .ok (.if_icmp .eq 7, 3) := by decide +kernel
theorem dX11_letter_28 : decode cX11_letter 28 = .ok (.iconst 1, 1) := by decide +kernel
theorem dX11_letter_29 : decode cX11_letter 29 = .ok (.goto 4, 3) := by decide +kernel
theorem dX11_letter_32 : decode cX11_letter 32 = .ok (.iconst 0, 1) := by decide +kernel
theorem dX11_letter_33 : decode cX11_letter 33 = .ok (.ior, 1) := by decide +kernel
theorem dX11_letter_34 : decode cX11_letter 34 = .ok (.putfield 178, 3) := by decide +kernel
theorem dX11_letter_37 : decode cX11_letter 37 = .ok (.aload_n 0, 1) := by decide +kernel
theorem dX11_letter_38 : decode cX11_letter 38 = .ok (.dup, 1) := by decide +kernel
theorem dX11_letter_39 : decode cX11_letter 39 = .ok (.getfield 172, 3) := by decide +kernel
theorem dX11_letter_42 : decode cX11_letter 42 = .ok (.aload_n 0, 1) := by decide +kernel
theorem dX11_letter_43 : decode cX11_letter 43 = .ok (.getfield 178, 3) := by decide +kernel
theorem dX11_letter_46 : decode cX11_letter 46 = .ok (.ifCond .eq 7, 3) := by decide +kernel
theorem dX11_letter_49 : decode cX11_letter 49 = .ok (.iconst 0, 1) := by decide +kernel
theorem dX11_letter_50 : decode cX11_letter 50 = .ok (.goto 4, 3) := by decide +kernel
theorem dX11_letter_53 : decode cX11_letter 53 = .ok (.iconst 1, 1) := by decide +kernel
theorem dX11_letter_54 : decode cX11_letter 54 = .ok (.iadd, 1) := by decide +kernel
theorem dX11_letter_55 : decode cX11_letter 55 = .ok (.putfield 172, 3) := by decide +kernel
theorem dX11_letter_58 : decode cX11_letter 58 = .ok (.iload_n 1, 1) := by decide +kernel
theorem dX11_letter_59 : decode cX11_letter 59 = .ok (.ireturn, 1) := by decide +kernel
theorem dX11_word_0 : decode cX11_word 0 = .ok (.iconst 0, 1) := by decide +kernel
theorem dX11_word_1 : decode cX11_word 1 = .ok (.istore_n 1, 1) := by decide +kernel
theorem dX11_word_2 : decode cX11_word 2 = .ok (.iload_n 1, 1) := by decide +kernel
theorem dX11_word_3 : decode cX11_word 3 = .ok (.bipush 12, 2) := by decide +kernel
theorem dX11_word_5 : decode cX11_word 5 = .ok (.if_icmp .ge 16, 3) := by decide +kernel
theorem dX11_word_8 : decode cX11_word 8 = .ok (.aload_n 0, 1) := by decide +kernel
theorem dX11_word_9 : decode cX11_word 9 = .ok (.getfield 38, 3) := by decide +kernel
theorem dX11_word_12 : decode cX11_word 12 = .ok (.iload_n 1, 1) := by decide +kernel
theorem dX11_word_13 : decode cX11_word 13 = .ok (.iconst 1, 1) := by decide +kernel
theorem dX11_word_14 : decode cX11_word 14 = .ok (.iastore, 1) := by decide +kernel
theorem dX11_word_15 : decode cX11_word 15 = .ok (.iinc 1 1, 3) := by decide +kernel
theorem dX11_word_18 : decode cX11_word 18 = .ok (.goto (-16), 3) := by decide +kernel
theorem dX11_word_21 : decode cX11_word 21 = .ok (.iconst 0, 1) := by decide +kernel
theorem dX11_word_22 : decode cX11_word 22 = .ok (.istore_n 1, 1) := by decide +kernel
theorem dX11_word_23 : decode cX11_word 23 = .ok (.iconst (-1), 1) := by decide +kernel
theorem dX11_word_24 : decode cX11_word 24 = .ok (.istore_n 2, 1) := by decide +kernel
theorem dX11_word_25 : decode cX11_word 25 = .ok (.iload_n 2, 1) := by decide +kernel
theorem dX11_word_26 : decode cX11_word 26 = .ok (.ifCond .ge 196, 3) := by decide +kernel
theorem dX11_word_29 : decode cX11_word 29 = .ok (.aload_n 0, 1) := by decide +kernel
theorem dX11_word_30 : decode cX11_word 30 = .ok (.getfield 178, 3) := by decide +kernel
theorem dX11_word_33 : decode cX11_word 33 = .ok (.ifCond .ne 189, 3) := by decide +kernel
theorem dX11_word_36 : decode cX11_word 36 = .ok (.iconst 0, 1) := by decide +kernel
theorem dX11_word_37 : decode cX11_word 37 = .ok (.istore_n 3, 1) := by decide +kernel
theorem dX11_word_38 : decode cX11_word 38 = .ok (.iconst 0, 1) := by decide +kernel
theorem dX11_word_39 : decode cX11_word 39 = .ok (.istore 4, 2) := by decide +kernel
theorem dX11_word_41 : decode cX11_word 41 = .ok (.iload 4, 2) := by decide +kernel
theorem dX11_word_43 : decode cX11_word 43 = .ok (.bipush 12, 2) := by decide +kernel
theorem dX11_word_45 : decode cX11_word 45 = .ok (.if_icmp .ge 85, 3) := by decide +kernel
theorem dX11_word_48 : decode cX11_word 48 = .ok (.aload_n 0, 1) := by decide +kernel
theorem dX11_word_49 : decode cX11_word 49 = .ok (.getfield 38, 3) := by decide +kernel
theorem dX11_word_52 : decode cX11_word 52 = .ok (.iload 4, 2) := by decide +kernel
theorem dX11_word_54 : decode cX11_word 54 = .ok (.dup2, 1) := by decide +kernel
theorem dX11_word_55 : decode cX11_word 55 = .ok (.iaload, 1) := by decide +kernel
theorem dX11_word_56 : decode cX11_word 56 = .ok (.aload_n 0, 1) := by decide +kernel
theorem dX11_word_57 : decode cX11_word 57 = .ok (.getfield 47, 3) := by decide +kernel
theorem dX11_word_60 : decode cX11_word 60 = .ok (.iload 4, 2) := by decide +kernel
theorem dX11_word_62 : decode cX11_word 62 = .ok (.iaload, 1) := by decide +kernel
theorem dX11_word_63 : decode cX11_word 63 = .ok (.iload_n 1, 1) := by decide +kernel
theorem dX11_word_64 : decode cX11_word 64 = .ok (.iadd, 1) := by decide +kernel
theorem dX11_word_65 : decode cX11_word 65 = .ok (.aload_n 0, 1) := by decide +kernel
theorem dX11_word_66 : decode cX11_word 66 = .ok (.getfield 47, 3) := by decide +kernel
theorem dX11_word_69 : decode cX11_word 69 = .ok (.iload 4, 2) := by decide +kernel
theorem dX11_word_71 : decode cX11_word 71 = .ok (.iconst 1, 1) := by decide +kernel
theorem dX11_word_72 : decode cX11_word 72 = .ok (.iadd, 1) := by decide +kernel
theorem dX11_word_73 : decode cX11_word 73 = .ok (.iaload, 1) := by decide +kernel
theorem dX11_word_74 : decode cX11_word 74 = .ok (.if_icmp .ge 28, 3) := by decide +kernel
theorem dX11_word_77 : decode cX11_word 77 = .ok (.aload_n 0, 1) := by decide +kernel
theorem dX11_word_78 : decode cX11_word 78 = .ok (.getfield 44, 3) := by decide +kernel
theorem dX11_word_81 : decode cX11_word 81 = .ok (.aload_n 0, 1) := by decide +kernel
theorem dX11_word_82 : decode cX11_word 82 = .ok (.getfield 47, 3) := by decide +kernel
theorem dX11_word_85 : decode cX11_word 85 = .ok (.iload 4, 2) := by decide +kernel
theorem dX11_word_87 : decode cX11_word 87 = .ok (.iaload, 1) := by decide +kernel
theorem dX11_word_88 : decode cX11_word 88 = .ok (.iload_n 1, 1) := by decide +kernel
theorem dX11_word_89 : decode cX11_word 89 = .ok (.iadd, 1) := by decide +kernel
theorem dX11_word_90 : decode cX11_word 90 = .ok (.iaload, 1) := by decide +kernel
theorem dX11_word_91 : decode cX11_word 91 = .ok (.aload_n 0, 1) := by decide +kernel
theorem dX11_word_92 : decode cX11_word 92 = .ok (.invokevirtual 182, 3) := by decide +kernel
theorem dX11_word_95 : decode cX11_word 95 = .ok (.if_icmp .ne 7, 3) := by decide +kernel
theorem dX11_word_98 : decode cX11_word 98 = .ok (.iconst 1, 1) := by decide +kernel
theorem dX11_word_99 : decode cX11_word 99 = .ok (.goto 4, 3) := by decide +kernel
theorem dX11_word_102 : decode cX11_word 102 = .ok (.iconst 0, 1) := by decide +kernel
theorem dX11_word_103 : decode cX11_word 103 = .ok (.iand, 1) := by decide +kernel
theorem dX11_word_104 : decode cX11_word 104 = .ok (.iastore, 1) := by decide +kernel
theorem dX11_word_105 : decode cX11_word 105 = .ok (.iload_n 3, 1) := by decide +kernel
theorem dX11_word_106 : decode cX11_word 106 = .ok (.aload_n 0, 1) := by decide +kernel
theorem dX11_word_107 : decode cX11_word 107 = .ok (.getfield 38, 3) := by decide +kernel
theorem dX11_word_110 : decode cX11_word 110 = .ok (.iload 4, 2) := by decide +kernel
theorem dX11_word_112 : decode cX11_word 112 = .ok (.iaload, 1) := by decide +kernel
theorem dX11_word_113 : decode cX11_word 113 = .ok (.iconst 1, 1) := by decide +kernel
theorem dX11_word_114 : decode cX11_word 114 = .ok (.if_icmp .ne 7, 3) := by decide +kernel
theorem dX11_word_117 : decode cX11_word 117 = .ok (.iconst 1, 1) := by decide +kernel
theorem dX11_word_118 : decode cX11_word 118 = .ok (.goto 4, 3) := by decide +kernel
theorem dX11_word_121 : decode cX11_word 121 = .ok (.iconst 0, 1) := by decide +kernel
theorem dX11_word_122 : decode cX11_word 122 = .ok (.ior, 1) := by decide +kernel
theorem dX11_word_123 : decode cX11_word 123 = .ok (.istore_n 3, 1) := by decide +kernel
theorem dX11_word_124 : decode cX11_word 124 = .ok (.iinc 4 1, 3) := by decide +kernel
theorem dX11_word_127 : decode cX11_word 127 = .ok (.goto (-86), 3) := by decide +kernel
theorem dX11_word_130 : decode cX11_word 130 = .ok (.aload_n 0, 1) := by decide +kernel
theorem dX11_word_131 : decode cX11_word 131 = .ok (.iload_n 3, 1) := by decide +kernel
theorem dX11_word_132 : decode cX11_word 132 = .ok (.ifCond .ne 7, 3) := by decide +kernel
theorem dX11_word_135 : decode cX11_word 135 = .ok (.iconst 1, 1) := by decide +kernel
theorem dX11_word_136 : decode cX11_word 136 = .ok (.goto 4, 3) := by decide +kernel
theorem dX11_word_139 : decode cX11_word 139 = .ok (.iconst 0, 1) := by decide +kernel
theorem dX11_word_140 : decode cX11_word 140 = .ok (.putfield 178, 3) := by decide +kernel
theorem dX11_word_143 : decode cX11_word 143 = .ok (.aload_n 0, 1) := by decide +kernel
theorem dX11_word_144 : decode cX11_word 144 = .ok (.dup, 1) := by decide +kernel
theorem dX11_word_145 : decode cX11_word 145 = .ok (.getfield 172, 3) := by decide +kernel
theorem dX11_word_148 : decode cX11_word 148 = .ok (.iload_n 3, 1) := by decide +kernel
theorem dX11_word_149 : decode cX11_word 149 = .ok (.ifCond .eq 7, 3) := by decide +kernel
theorem dX11_word_152 : decode cX11_word 152 = .ok (.iconst 1, 1) := by decide +kernel
theorem dX11_word_153 : decode cX11_word 153 = .ok (.goto 4, 3) := by decide +kernel
theorem dX11_word_156 : decode cX11_word 156 = .ok (.iconst 0, 1) := by decide +kernel
theorem dX11_word_157 : decode cX11_word 157 = .ok (.iadd, 1) := by decide +kernel
theorem dX11_word_158 : decode cX11_word 158 = .ok (.putfield 172, 3) := by decide +kernel
theorem dX11_word_161 : decode cX11_word 161 = .ok (.iinc 1 1, 3) := by decide +kernel
theorem dX11_word_164 : decode cX11_word 164 = .ok (.iconst 0, 1) := by decide +kernel
theorem dX11_word_165 : decode cX11_word 165 = .ok (.istore 4, 2) := by decide +kernel
theorem dX11_word_167 : decode cX11_word 167 = .ok (.iload 4, 2) := by decide +kernel
theorem dX11_word_169 : decode cX11_word 169 = .ok (.bipush 12, 2) := by decide +kernel
theorem dX11_word_171 : decode cX11_word 171 = .ok (.if_icmp .ge 48, 3) := by decide +kernel
theorem dX11_word_174 : decode cX11_word 174 = .ok (.aload_n 0, 1) := by decide +kernel
theorem dX11_word_175 : decode cX11_word 175 = .ok (.getfield 38, 3) := by decide +kernel
theorem dX11_word_178 : decode cX11_word 178 = .ok (.iload 4, 2) := by decide +kernel
theorem dX11_word_180 : decode cX11_word 180 = .ok (.iaload, 1) := by decide +kernel
theorem dX11_word_181 : decode cX11_word 181 = .ok (.iconst 1, 1) := by decide +kernel
theorem dX11_word_182 : decode cX11_word 182 = .ok (.if_icmp .ne 29, 3) := by decide +kernel
theorem dX11_word_185 : decode cX11_word 185 = .ok (.aload_n 0, 1) := by decide +kernel
theorem dX11_word_186 : decode cX11_word 186 = .ok (.getfield 47, 3) := by decide +kernel
theorem dX11_word_189 : decode cX11_word 189 = .ok (.iload 4, 2) := by decide +kernel
theorem dX11_word_191 : decode cX11_word 191 = .ok (.iaload, 1) := by decide +kernel
theorem dX11_word_192 : decode cX11_word 192 = .ok (.iload_n 1, 1) := by decide +kernel
theorem dX11_word_193 : decode cX11_word 193 = .ok (.iadd, 1) := by decide +kernel
theorem dX11_word_194 : decode cX11_word 194 = .ok (.aload_n 0, 1) := by decide +kernel
theorem dX11_word_195 : decode cX11_word 195 = .ok (.getfield 47, 3) := by decide +kernel
theorem dX11_word_198 : decode cX11_word 198 = .ok (.iload 4, 2) := by decide +kernel
theorem dX11_word_200 : decode cX11_word 200 = .ok (.iconst 1, 1) := by decide +kernel
theorem dX11_word_201 : decode cX11_word 201 = .ok (.iadd, 1) := by decide +kernel
theorem dX11_word_202 : decode cX11_word 202 = .ok (.iaload, 1) := by decide +kernel
theorem dX11_word_203 : decode cX11_word 203 = .ok (.if_icmp .ne 8, 3) := by decide +kernel
theorem dX11_word_206 : decode cX11_word 206 = .ok (.iload 4, 2) := by decide +kernel
theorem dX11_word_208 : decode cX11_word 208 = .ok (.goto 4, 3) := by decide +kernel
theorem dX11_word_211 : decode cX11_word 211 = .ok (.iload_n 2, 1) := by decide +kernel
theorem dX11_word_212 : decode cX11_word 212 = .ok (.istore_n 2, 1) := by decide +kernel
theorem dX11_word_213 : decode cX11_word 213 = .ok (.iinc 4 1, 3) := by decide +kernel
theorem dX11_word_216 : decode cX11_word 216 = .ok (.goto (-49), 3) := by decide +kernel
theorem dX11_word_219 : decode cX11_word 219 = .ok (.goto (-194), 3) := by decide +kernel
theorem dX11_word_222 : decode cX11_word 222 = .ok (.iload_n 2, 1) := by decide +kernel
theorem dX11_word_223 : decode cX11_word 223 = .ok (.ireturn, 1) := by decide +kernel
theorem dX11_does_0 : decode cX11_does 0 = .ok (.iload_n 1, 1) := by decide +kernel
theorem dX11_does_1 : decode cX11_does 1 = .ok (.tableswitch 228 0 10 #[59, 70, 81, 92, 103, 118, 133, 154, 169, 184, 213], 59) := by decide +kernel
theorem dX11_does_60 : decode cX11_does 60 = .ok (.aload_n 0, 1) := by decide +kernel
theorem dX11_does_61 : decode cX11_does 61 = .ok (.aload_n 0, 1) := by decide +kernel
theorem dX11_does_62 : decode cX11_does 62 = .ok (.getfield 41, 3) := by decide +kernel
theorem dX11_does_65 : decode cX11_does 65 = .ok (.iconst 0, 1) := by decide +kernel
theorem dX11_does_66 : decode cX11_does 66 = .ok (.iaload, 1) := by decide +kernel
theorem dX11_does_67 : decode cX11_does 67 = .ok (.invokevirtual 75, 3) := by decide +kernel
theorem dX11_does_70 : decode cX11_does 70 = .ok (.ireturn, 1) := by decide +kernel
theorem dX11_does_71 : decode cX11_does 71 = .ok (.aload_n 0, 1) := by decide +kernel
theorem dX11_does_72 : decode cX11_does 72 = .ok (.aload_n 0, 1) := by decide +kernel
theorem dX11_does_73 : decode cX11_does 73 = .ok (.getfield 41, 3) := by decide +kernel
theorem dX11_does_76 : decode cX11_does 76 = .ok (.iconst 0, 1) := by decide +kernel
theorem dX11_does_77 : decode cX11_does 77 = .ok (.iaload, 1) := by decide +kernel
theorem dX11_does_78 : decode cX11_does 78 = .ok (.invokevirtual 81, 3) := by decide +kernel
theorem dX11_does_81 : decode cX11_does 81 = .ok (.ireturn, 1) := by decide +kernel
theorem dX11_does_82 : decode cX11_does 82 = .ok (.aload_n 0, 1) := by decide +kernel
theorem dX11_does_83 : decode cX11_does 83 = .ok (.aload_n 0, 1) := by decide +kernel
theorem dX11_does_84 : decode cX11_does 84 = .ok (.getfield 41, 3) := by decide +kernel
theorem dX11_does_87 : decode cX11_does 87 = .ok (.iconst 0, 1) := by decide +kernel
theorem dX11_does_88 : decode cX11_does 88 = .ok (.iaload, 1) := by decide +kernel
theorem dX11_does_89 : decode cX11_does 89 = .ok (.invokevirtual 98, 3) := by decide +kernel
theorem dX11_does_92 : decode cX11_does 92 = .ok (.ireturn, 1) := by decide +kernel
theorem dX11_does_93 : decode cX11_does 93 = .ok (.aload_n 0, 1) := by decide +kernel
theorem dX11_does_94 : decode cX11_does 94 = .ok (.aload_n 0, 1) := by decide +kernel
theorem dX11_does_95 : decode cX11_does 95 = .ok (.getfield 41, 3) := by decide +kernel
theorem dX11_does_98 : decode cX11_does 98 = .ok (.iconst 0, 1) := by decide +kernel
theorem dX11_does_99 : decode cX11_does 99 = .ok (.iaload, 1) := by decide +kernel
theorem dX11_does_100 : decode cX11_does 100 = .ok (.invokevirtual 101, 3) := by decide +kernel
theorem dX11_does_103 : decode cX11_does 103 = .ok (.ireturn, 1) := by decide +kernel
theorem dX11_does_104 : decode cX11_does 104 = .ok (.aload_n 0, 1) := by decide +kernel
theorem dX11_does_105 : decode cX11_does 105 = .ok (.aload_n 0, 1) := by decide +kernel
theorem dX11_does_106 : decode cX11_does 106 = .ok (.aload_n 0, 1) := by decide +kernel
theorem dX11_does_107 : decode cX11_does 107 = .ok (.getfield 41, 3) := by decide +kernel
theorem dX11_does_110 : decode cX11_does 110 = .ok (.iconst 0, 1) := by decide +kernel
theorem dX11_does_111 : decode cX11_does 111 = .ok (.iaload, 1) := by decide +kernel
theorem dX11_does_112 : decode cX11_does 112 = .ok (.invokevirtual 108, 3) := by decide +kernel
theorem dX11_does_115 : decode cX11_does 115 = .ok (.invokevirtual 111, 3) := by decide +kernel
theorem dX11_does_118 : decode cX11_does 118 = .ok (.ireturn, 1) := by decide +kernel
theorem dX11_does_119 : decode cX11_does 119 = .ok (.aload_n 0, 1) := by decide +kernel
theorem dX11_does_120 : decode cX11_does 120 = .ok (.aload_n 0, 1) := by decide +kernel
theorem dX11_does_121 : decode cX11_does 121 = .ok (.aload_n 0, 1) := by decide +kernel
theorem dX11_does_122 : decode cX11_does 122 = .ok (.getfield 41, 3) := by decide +kernel
theorem dX11_does_125 : decode cX11_does 125 = .ok (.iconst 0, 1) := by decide +kernel
theorem dX11_does_126 : decode cX11_does 126 = .ok (.iaload, 1) := by decide +kernel
theorem dX11_does_127 : decode cX11_does 127 = .ok (.invokevirtual 108, 3) := by decide +kernel
theorem dX11_does_130 : decode cX11_does 130 = .ok (.invokevirtual 114, 3) := by decide +kernel
theorem dX11_does_133 : decode cX11_does 133 = .ok (.ireturn, 1) := by decide +kernel
theorem dX11_does_134 : decode cX11_does 134 = .ok (.aload_n 0, 1) := by decide +kernel
theorem dX11_does_135 : decode cX11_does 135 = .ok (.aload_n 0, 1) := by decide +kernel
theorem dX11_does_136 : decode cX11_does 136 = .ok (.aload_n 0, 1) := by decide +kernel
theorem dX11_does_137 : decode cX11_does 137 = .ok (.getfield 41, 3) := by decide +kernel
theorem dX11_does_140 : decode cX11_does 140 = .ok (.iconst 0, 1) := by decide +kernel
theorem dX11_does_141 : decode cX11_does 141 = .ok (.iaload, 1) := by decide +kernel
theorem dX11_does_142 : decode cX11_does 142 = .ok (.invokevirtual 108, 3) := by decide +kernel
theorem dX11_does_145 : decode cX11_does 145 = .ok (.aload_n 0, 1) := by decide +kernel
theorem dX11_does_146 : decode cX11_does 146 = .ok (.getfield 41, 3) := by decide +kernel
theorem dX11_does_149 : decode cX11_does 149 = .ok (.iconst 1, 1) := by decide +kernel
theorem dX11_does_150 : decode cX11_does 150 = .ok (.iaload, 1) := by decide +kernel
theorem dX11_does_151 : decode cX11_does 151 = .ok (.invokevirtual 134, 3) := by decide +kernel
theorem dX11_does_154 : decode cX11_does 154 = .ok (.ireturn, 1) := by decide +kernel
theorem dX11_does_155 : decode cX11_does 155 = .ok (.aload_n 0, 1) := by decide +kernel
theorem dX11_does_156 : decode cX11_does 156 = .ok (.aload_n 0, 1) := by decide +kernel
theorem dX11_does_157 : decode cX11_does 157 = .ok (.aload_n 0, 1) := by decide +kernel
theorem dX11_does_158 : decode cX11_does 158 = .ok (.getfield 41, 3) := by decide +kernel
theorem dX11_does_161 : decode cX11_does 161 = .ok (.iconst 0, 1) := by decide +kernel
theorem dX11_does_162 : decode cX11_does 162 = .ok (.iaload, 1) := by decide +kernel
theorem dX11_does_163 : decode cX11_does 163 = .ok (.invokevirtual 108, 3) := by decide +kernel
theorem dX11_does_166 : decode cX11_does 166 = .ok (.invokevirtual 137, 3) := by decide +kernel
theorem dX11_does_169 : decode cX11_does 169 = .ok (.ireturn, 1) := by decide +kernel
theorem dX11_does_170 : decode cX11_does 170 = .ok (.aload_n 0, 1) := by decide +kernel
theorem dX11_does_171 : decode cX11_does 171 = .ok (.aload_n 0, 1) := by decide +kernel
theorem dX11_does_172 : decode cX11_does 172 = .ok (.aload_n 0, 1) := by decide +kernel
theorem dX11_does_173 : decode cX11_does 173 = .ok (.getfield 41, 3) := by decide +kernel
theorem dX11_does_176 : decode cX11_does 176 = .ok (.iconst 0, 1) := by decide +kernel
theorem dX11_does_177 : decode cX11_does 177 = .ok (.iaload, 1) := by decide +kernel
theorem dX11_does_178 : decode cX11_does 178 = .ok (.invokevirtual 108, 3) := by decide +kernel
theorem dX11_does_181 : decode cX11_does 181 = .ok (.invokevirtual 140, 3) := by decide +kernel
theorem dX11_does_184 : decode cX11_does 184 = .ok (.ireturn, 1) := by decide +kernel
theorem dX11_does_185 : decode cX11_does 185 = .ok (.aload_n 0, 1) := by decide +kernel
theorem dX11_does_186 : decode cX11_does 186 = .ok (.aload_n 0, 1) := by decide +kernel
theorem dX11_does_187 : decode cX11_does 187 = .ok (.getfield 41, 3) := by decide +kernel
theorem dX11_does_190 : decode cX11_does 190 = .ok (.iconst 0, 1) := by decide +kernel
theorem dX11_does_191 : decode cX11_does 191 = .ok (.iaload, 1) := by decide +kernel
theorem dX11_does_192 : decode cX11_does 192 = .ok (.aload_n 0, 1) := by decide +kernel
theorem dX11_does_193 : decode cX11_does 193 = .ok (.getfield 41, 3) := by decide +kernel
theorem dX11_does_196 : decode cX11_does 196 = .ok (.iconst 1, 1) := by decide +kernel
theorem dX11_does_197 : decode cX11_does 197 = .ok (.iaload, 1) := by decide +kernel
theorem dX11_does_198 : decode cX11_does 198 = .ok (.aload_n 0, 1) := by decide +kernel
theorem dX11_does_199 : decode cX11_does 199 = .ok (.getfield 41, 3) := by decide +kernel
theorem dX11_does_202 : decode cX11_does 202 = .ok (.iconst 2, 1) := by decide +kernel
theorem dX11_does_203 : decode cX11_does 203 = .ok (.iaload, 1) := by decide +kernel
theorem dX11_does_204 : decode cX11_does 204 = .ok (.aload_n 0, 1) := by decide +kernel
theorem dX11_does_205 : decode cX11_does 205 = .ok (.getfield 41, 3) := by decide +kernel
theorem dX11_does_208 : decode cX11_does 208 = .ok (.iconst 3, 1) := by decide +kernel
theorem dX11_does_209 : decode cX11_does 209 = .ok (.iaload, 1) := by decide +kernel
theorem dX11_does_210 : decode cX11_does 210 = .ok (.invokevirtual 150, 3) := by decide +kernel
theorem dX11_does_213 : decode cX11_does 213 = .ok (.ireturn, 1) := by decide +kernel
theorem dX11_does_214 : decode cX11_does 214 = .ok (.aload_n 0, 1) := by decide +kernel
theorem dX11_does_215 : decode cX11_does 215 = .ok (.aload_n 0, 1) := by decide +kernel
theorem dX11_does_216 : decode cX11_does 216 = .ok (.aload_n 0, 1) := by decide +kernel
theorem dX11_does_217 : decode cX11_does 217 = .ok (.getfield 41, 3) := by decide +kernel
theorem dX11_does_220 : decode cX11_does 220 = .ok (.iconst 0, 1) := by decide +kernel
theorem dX11_does_221 : decode cX11_does 221 = .ok (.iaload, 1) := by decide +kernel
theorem dX11_does_222 : decode cX11_does 222 = .ok (.invokevirtual 108, 3) := by decide +kernel
theorem dX11_does_225 : decode cX11_does 225 = .ok (.invokevirtual 154, 3) := by decide +kernel
theorem dX11_does_228 : decode cX11_does 228 = .ok (.ireturn, 1) := by decide +kernel
theorem dX11_does_229 : decode cX11_does 229 = .ok (.aload_n 0, 1) := by decide +kernel
theorem dX11_does_230 : decode cX11_does 230 = .ok (.aload_n 0, 1) := by decide +kernel
theorem dX11_does_231 : decode cX11_does 231 = .ok (.getfield 41, 3) := by decide +kernel
theorem dX11_does_234 : decode cX11_does 234 = .ok (.iconst 0, 1) := by decide +kernel
theorem dX11_does_235 : decode cX11_does 235 = .ok (.iaload, 1) := by decide +kernel
theorem dX11_does_236 : decode cX11_does 236 = .ok (.invokevirtual 95, 3) := by decide +kernel
theorem dX11_does_239 : decode cX11_does 239 = .ok (.ireturn, 1) := by decide +kernel
theorem dX11_command_0 : decode cX11_command 0 = .ok (.aload_n 0, 1) := by decide +kernel
theorem dX11_command_1 : decode cX11_command 1 = .ok (.invokevirtual 191, 3) := by decide +kernel
theorem dX11_command_4 : decode cX11_command 4 = .ok (.istore_n 1, 1) := by decide +kernel
theorem dX11_command_5 : decode cX11_command 5 = .ok (.aload_n 0, 1) := by decide +kernel
theorem dX11_command_6 : decode cX11_command 6 = .ok (.getfield 178, 3) := by decide +kernel
theorem dX11_command_9 : decode cX11_command 9 = .ok (.ifCond .eq 4, 3) := by decide +kernel
theorem dX11_command_12 : decode cX11_command 12 = .ok (.return_, 1) := by decide +kernel
theorem dX11_command_13 : decode cX11_command 13 = .ok (.aload_n 0, 1) := by decide +kernel
theorem dX11_command_14 : decode cX11_command 14 = .ok (.getfield 41, 3) := by decide +kernel
theorem dX11_command_17 : decode cX11_command 17 = .ok (.iconst 0, 1) := by decide +kernel
theorem dX11_command_18 : decode cX11_command 18 = .ok (.iload_n 1, 1) := by decide +kernel
theorem dX11_command_19 : decode cX11_command 19 = .ok (.iconst 2, 1) := by decide +kernel
theorem dX11_command_20 : decode cX11_command 20 = .ok (.if_icmp .ne 10, 3) := by decide +kernel
theorem dX11_command_23 : decode cX11_command 23 = .ok (.aload_n 0, 1) := by decide +kernel
theorem dX11_command_24 : decode cX11_command 24 = .ok (.invokevirtual 194, 3) := by decide +kernel
theorem dX11_command_27 : decode cX11_command 27 = .ok (.goto 22, 3) := by decide +kernel
theorem dX11_command_30 : decode cX11_command 30 = .ok (.aload_n 0, 1) := by decide +kernel
theorem dX11_command_31 : decode cX11_command 31 = .ok (.iload_n 1, 1) := by decide +kernel
theorem dX11_command_32 : decode cX11_command 32 = .ok (.iconst 1, 1) := by decide +kernel
theorem dX11_command_33 : decode cX11_command 33 = .ok (.if_icmp .eq 8, 3) := by decide +kernel
theorem dX11_command_36 : decode cX11_command 36 = .ok (.iload_n 1, 1) := by decide +kernel
theorem dX11_command_37 : decode cX11_command 37 = .ok (.iconst 3, 1) := by decide +kernel
theorem dX11_command_38 : decode cX11_command 38 = .ok (.if_icmp .ne 7, 3) := by decide +kernel
theorem dX11_command_41 : decode cX11_command 41 = .ok (.iconst 1, 1) := by decide +kernel
theorem dX11_command_42 : decode cX11_command 42 = .ok (.goto 4, 3) := by decide +kernel
theorem dX11_command_45 : decode cX11_command 45 = .ok (.iconst 2, 1) := by decide +kernel
theorem dX11_command_46 : decode cX11_command 46 = .ok (.invokevirtual 188, 3) := by decide +kernel
theorem dX11_command_49 : decode cX11_command 49 = .ok (.iastore, 1) := by decide +kernel
theorem dX11_command_50 : decode cX11_command 50 = .ok (.iload_n 1, 1) := by decide +kernel
theorem dX11_command_51 : decode cX11_command 51 = .ok (.bipush 6, 2) := by decide +kernel
theorem dX11_command_53 : decode cX11_command 53 = .ok (.if_icmp .ne 21, 3) := by decide +kernel
theorem dX11_command_56 : decode cX11_command 56 = .ok (.aload_n 0, 1) := by decide +kernel
theorem dX11_command_57 : decode cX11_command 57 = .ok (.getfield 178, 3) := by decide +kernel
theorem dX11_command_60 : decode cX11_command 60 = .ok (.ifCond .ne 14, 3) := by decide +kernel
theorem dX11_command_63 : decode cX11_command 63 = .ok (.aload_n 0, 1) := by decide +kernel
theorem dX11_command_64 : decode cX11_command 64 = .ok (.getfield 41, 3) := by decide +kernel
theorem dX11_command_67 : decode cX11_command 67 = .ok (.iconst 1, 1) := by decide +kernel
theorem dX11_command_68 : decode cX11_command 68 = .ok (.aload_n 0, 1) := by decide +kernel
theorem dX11_command_69 : decode cX11_command 69 = .ok (.iconst 1, 1) := by decide +kernel
theorem dX11_command_70 : decode cX11_command 70 = .ok (.invokevirtual 197, 3) := by decide +kernel
theorem dX11_command_73 : decode cX11_command 73 = .ok (.iastore, 1) := by decide +kernel
theorem dX11_command_74 : decode cX11_command 74 = .ok (.iconst 1, 1) := by decide +kernel
theorem dX11_command_75 : decode cX11_command 75 = .ok (.istore_n 2, 1) := by decide +kernel
theorem dX11_command_76 : decode cX11_command 76 = .ok (.iload_n 2, 1) := by decide +kernel
theorem dX11_command_77 : decode cX11_command 77 = .ok (.iconst 4, 1) := by decide +kernel
theorem dX11_command_78 : decode cX11_command 78 = .ok (.if_icmp .ge 33, 3) := by decide +kernel
theorem dX11_command_81 : decode cX11_command 81 = .ok (.iload_n 1, 1) := by decide +kernel
theorem dX11_command_82 : decode cX11_command 82 = .ok (.bipush 9, 2) := by decide +kernel
theorem dX11_command_84 : decode cX11_command 84 = .ok (.if_icmp .ne 27, 3) := by decide +kernel
theorem dX11_command_87 : decode cX11_command 87 = .ok (.aload_n 0, 1) := by decide +kernel
theorem dX11_command_88 : decode cX11_command 88 = .ok (.getfield 178, 3) := by decide +kernel
theorem dX11_command_91 : decode cX11_command 91 = .ok (.ifCond .ne 20, 3) := by decide +kernel
theorem dX11_command_94 : decode cX11_command 94 = .ok (.aload_n 0, 1) := by decide +kernel
theorem dX11_command_95 : decode cX11_command 95 = .ok (.getfield 41, 3) := by decide +kernel
theorem dX11_command_98 : decode cX11_command 98 = .ok (.iload_n 2, 1) := by decide +kernel
theorem dX11_command_99 : decode cX11_command 99 = .ok (.aload_n 0, 1) := by decide +kernel
theorem dX11_command_100 : decode cX11_command 100 = .ok (.iconst 2, 1) := by decide +kernel
theorem dX11_command_101 : decode cX11_command 101 = .ok (.invokevirtual 197, 3) := by decide +kernel
theorem dX11_command_104 : decode cX11_command 104 = .ok (.iastore, 1) := by decide +kernel
theorem dX11_command_105 : decode cX11_command 105 = .ok (.iinc 2 1, 3) := by decide +kernel
theorem dX11_command_108 : decode cX11_command 108 = .ok (.goto (-32), 3) := by decide +kernel
theorem dX11_command_111 : decode cX11_command 111 = .ok (.aload_n 0, 1) := by decide +kernel
theorem dX11_command_112 : decode cX11_command 112 = .ok (.getfield 178, 3) := by decide +kernel
theorem dX11_command_115 : decode cX11_command 115 = .ok (.ifCond .ne 10, 3) := by decide +kernel
theorem dX11_command_118 : decode cX11_command 118 = .ok (.aload_n 0, 1) := by decide +kernel
theorem dX11_command_119 : decode cX11_command 119 = .ok (.getfield 200, 3) := by decide +kernel
theorem dX11_command_122 : decode cX11_command 122 = .ok (.ifCond .ne 4, 3) := by decide +kernel
theorem dX11_command_125 : decode cX11_command 125 = .ok (.return_, 1) := by decide +kernel
theorem dX11_command_126 : decode cX11_command 126 = .ok (.aload_n 0, 1) := by decide +kernel
theorem dX11_command_127 : decode cX11_command 127 = .ok (.iload_n 1, 1) := by decide +kernel
theorem dX11_command_128 : decode cX11_command 128 = .ok (.invokevirtual 203, 3) := by decide +kernel
theorem dX11_command_131 : decode cX11_command 131 = .ok (.istore_n 2, 1) := by decide +kernel
theorem dX11_command_132 : decode cX11_command 132 = .ok (.return_, 1) := by decide +kernel
theorem dX11_commands_0 : decode cX11_commands 0 = .ok (.aload_n 0, 1) := by decide +kernel
theorem dX11_commands_1 : decode cX11_commands 1 = .ok (.iconst 0, 1) := by decide +kernel
theorem dX11_commands_2 : decode cX11_commands 2 = .ok (.putfield 172, 3) := by decide +kernel
theorem dX11_commands_5 : decode cX11_commands 5 = .ok (.aload_n 0, 1) := by decide +kernel
theorem dX11_commands_6 : decode cX11_commands 6 = .ok (.iconst 0, 1) := by decide +kernel
theorem dX11_commands_7 : decode cX11_commands 7 = .ok (.putfield 178, 3) := by decide +kernel
theorem dX11_commands_10 : decode cX11_commands 10 = .ok (.iconst 1, 1) := by decide +kernel
theorem dX11_commands_11 : decode cX11_commands 11 = .ok (.istore_n 1, 1) := by decide +kernel
theorem dX11_commands_12 : decode cX11_commands 12 = .ok (.aload_n 0, 1) := by decide +kernel
theorem dX11_commands_13 : decode cX11_commands 13 = .ok (.invokevirtual 206, 3) := by decide +kernel
theorem dX11_commands_16 : decode cX11_commands 16 = .ok (.aload_n 0, 1) := by decide +kernel
theorem dX11_commands_17 : decode cX11_commands 17 = .ok (.getfield 178, 3) := by decide +kernel
theorem dX11_commands_20 : decode cX11_commands 20 = .ok (.ifCond .ne 44, 3) := by decide +kernel
theorem dX11_commands_23 : decode cX11_commands 23 = .ok (.aload_n 0, 1) := by decide +kernel
theorem dX11_commands_24 : decode cX11_commands 24 = .ok (.getfield 50, 3) := by decide +kernel
theorem dX11_commands_27 : decode cX11_commands 27 = .ok (.ifCond .ne 37, 3) := by decide +kernel
theorem dX11_commands_30 : decode cX11_commands 30 = .ok (.aload_n 0, 1) := by decide +kernel
theorem dX11_commands_31 : decode cX11_commands 31 = .ok (.getfield 172, 3) := by decide +kernel
theorem dX11_commands_34 : decode cX11_commands 34 = .ok (.aload_n 0, 1) := by decide +kernel
theorem dX11_commands_35 : decode cX11_commands 35 = .ok (.getfield 175, 3) := by decide +kernel
theorem dX11_commands_38 : decode cX11_commands 38 = .ok (.if_icmp .ge 26, 3) := by decide +kernel
theorem dX11_commands_41 : decode cX11_commands 41 = .ok (.aload_n 0, 1) := by decide +kernel
theorem dX11_commands_42 : decode cX11_commands 42 = .ok (.bipush 59, 2) := by decide +kernel
theorem dX11_commands_44 : decode cX11_commands 44 = .ok (.invokevirtual 185, 3) := by decide +kernel
theorem dX11_commands_47 : decode cX11_commands 47 = .ok (.aload_n 0, 1) := by decide +kernel
theorem dX11_commands_48 : decode cX11_commands 48 = .ok (.getfield 178, 3) := by decide +kernel
theorem dX11_commands_51 : decode cX11_commands 51 = .ok (.ifCond .ne 7, 3) := by decide +kernel
theorem dX11_commands_54 : decode cX11_commands 54 = .ok (.aload_n 0, 1) := by decide +kernel
theorem dX11_commands_55 : decode cX11_commands 55 = .ok (.invokevirtual 206, 3) := by decide +kernel
theorem dX11_commands_58 : decode cX11_commands 58 = .ok (.iinc 1 1, 3) := by decide +kernel
theorem dX11_commands_61 : decode cX11_commands 61 = .ok (.goto (-45), 3) := by decide +kernel
theorem dX11_commands_64 : decode cX11_commands 64 = .ok (.iload_n 1, 1) := by decide +kernel
theorem dX11_commands_65 : decode cX11_commands 65 = .ok (.ireturn, 1) := by decide +kernel
theorem dX11_run_0 : decode cX11_run 0 = .ok (.aload_n 0, 1) := by decide +kernel
theorem dX11_run_1 : decode cX11_run 1 = .ok (.invokevirtual 72, 3) := by decide +kernel
theorem dX11_run_4 : decode cX11_run 4 = .ok (.aload_n 0, 1) := by decide +kernel
theorem dX11_run_5 : decode cX11_run 5 = .ok (.aload_n 0, 1) := by decide +kernel
theorem dX11_run_6 : decode cX11_run 6 = .ok (.getfield 169, 3) := by decide +kernel
theorem dX11_run_9 : decode cX11_run 9 = .ok (.putfield 175, 3) := by decide +kernel
theorem dX11_run_12 : decode cX11_run 12 = .ok (.aload_n 0, 1) := by decide +kernel
theorem dX11_run_13 : decode cX11_run 13 = .ok (.iconst 0, 1) := by decide +kernel
theorem dX11_run_14 : decode cX11_run 14 = .ok (.putfield 169, 3) := by decide +kernel
theorem dX11_run_17 : decode cX11_run 17 = .ok (.aload_n 0, 1) := by decide +kernel
theorem dX11_run_18 : decode cX11_run 18 = .ok (.iconst 0, 1) := by decide +kernel
theorem dX11_run_19 : decode cX11_run 19 = .ok (.putfield 200, 3) := by decide +kernel
theorem dX11_run_22 : decode cX11_run 22 = .ok (.aload_n 0, 1) := by decide +kernel
theorem dX11_run_23 : decode cX11_run 23 = .ok (.invokevirtual 209, 3) := by decide +kernel
theorem dX11_run_26 : decode cX11_run 26 = .ok (.istore_n 1, 1) := by decide +kernel
theorem dX11_run_27 : decode cX11_run 27 = .ok (.aload_n 0, 1) := by decide +kernel
theorem dX11_run_28 : decode cX11_run 28 = .ok (.getfield 178, 3) := by decide +kernel
theorem dX11_run_31 : decode cX11_run 31 = .ok (.ifCond .eq 17, 3) := by decide +kernel
theorem dX11_run_34 : decode cX11_run 34 = .ok (.aload_n 0, 1) := by decide +kernel
theorem dX11_run_35 : decode cX11_run 35 = .ok (.aload_n 0, 1) := by decide +kernel
theorem dX11_run_36 : decode cX11_run 36 = .ok (.getfield 172, 3) := by decide +kernel
theorem dX11_run_39 : decode cX11_run 39 = .ok (.putfield 7, 3) := by decide +kernel
theorem dX11_run_42 : decode cX11_run 42 = .ok (.aload_n 0, 1) := by decide +kernel
theorem dX11_run_43 : decode cX11_run 43 = .ok (.iconst 1, 1) := by decide +kernel
theorem dX11_run_44 : decode cX11_run 44 = .ok (.invokevirtual 68, 3) := by decide +kernel
theorem dX11_run_47 : decode cX11_run 47 = .ok (.ireturn, 1) := by decide +kernel
theorem dX11_run_48 : decode cX11_run 48 = .ok (.aload_n 0, 1) := by decide +kernel
theorem dX11_run_49 : decode cX11_run 49 = .ok (.iconst 1, 1) := by decide +kernel
theorem dX11_run_50 : decode cX11_run 50 = .ok (.putfield 200, 3) := by decide +kernel
theorem dX11_run_53 : decode cX11_run 53 = .ok (.aload_n 0, 1) := by decide +kernel
theorem dX11_run_54 : decode cX11_run 54 = .ok (.invokevirtual 209, 3) := by decide +kernel
theorem dX11_run_57 : decode cX11_run 57 = .ok (.istore_n 1, 1) := by decide +kernel
theorem dX11_run_58 : decode cX11_run 58 = .ok (.aload_n 0, 1) := by decide +kernel
theorem dX11_run_59 : decode cX11_run 59 = .ok (.getfield 50, 3) := by decide +kernel
theorem dX11_run_62 : decode cX11_run 62 = .ok (.ifCond .eq 15, 3) := by decide +kernel
theorem dX11_run_65 : decode cX11_run 65 = .ok (.aload_n 0, 1) := by decide +kernel
theorem dX11_run_66 : decode cX11_run 66 = .ok (.iload_n 1, 1) := by decide +kernel
theorem dX11_run_67 : decode cX11_run 67 = .ok (.iconst 1, 1) := by decide +kernel
theorem dX11_run_68 : decode cX11_run 68 = .ok (.isub, 1) := by decide +kernel
theorem dX11_run_69 : decode cX11_run 69 = .ok (.putfield 13, 3) := by decide +kernel
theorem dX11_run_72 : decode cX11_run 72 = .ok (.aload_n 0, 1) := by decide +kernel
theorem dX11_run_73 : decode cX11_run 73 = .ok (.iconst 2, 1) := by decide +kernel
theorem dX11_run_74 : decode cX11_run 74 = .ok (.putfield 50, 3) := by decide +kernel
theorem dX11_run_77 : decode cX11_run 77 = .ok (.aload_n 0, 1) := by decide +kernel
theorem dX11_run_78 : decode cX11_run 78 = .ok (.iload_n 1, 1) := by decide +kernel
theorem dX11_run_79 : decode cX11_run 79 = .ok (.invokevirtual 78, 3) := by decide +kernel
theorem dX11_run_82 : decode cX11_run 82 = .ok (.ireturn, 1) := by decide +kernel
theorem dX11_errorPosition_0 : decode cX11_errorPosition 0 = .ok (.aload_n 0, 1) := by decide +kernel
theorem dX11_errorPosition_1 : decode cX11_errorPosition 1 = .ok (.aload_n 0, 1) := by decide +kernel
theorem dX11_errorPosition_2 : decode cX11_errorPosition 2 = .ok (.getfield 7, 3) := by decide +kernel
theorem dX11_errorPosition_5 : decode cX11_errorPosition 5 = .ok (.ifCond .ge 7, 3) := by decide +kernel
theorem dX11_errorPosition_8 : decode cX11_errorPosition 8 = .ok (.iconst 1, 1) := by decide +kernel
theorem dX11_errorPosition_9 : decode cX11_errorPosition 9 = .ok (.goto 4, 3) := by decide +kernel
theorem dX11_errorPosition_12 : decode cX11_errorPosition 12 = .ok (.iconst 0, 1) := by decide +kernel
theorem dX11_errorPosition_13 : decode cX11_errorPosition 13 = .ok (.putfield 50, 3) := by decide +kernel
theorem dX11_errorPosition_16 : decode cX11_errorPosition 16 = .ok (.aload_n 0, 1) := by decide +kernel
theorem dX11_errorPosition_17 : decode cX11_errorPosition 17 = .ok (.getfield 50, 3) := by decide +kernel
theorem dX11_errorPosition_20 : decode cX11_errorPosition 20 = .ok (.ifCond .ne 10, 3) := by decide +kernel
theorem dX11_errorPosition_23 : decode cX11_errorPosition 23 = .ok (.aload_n 0, 1) := by decide +kernel
theorem dX11_errorPosition_24 : decode cX11_errorPosition 24 = .ok (.getfield 7, 3) := by decide +kernel
theorem dX11_errorPosition_27 : decode cX11_errorPosition 27 = .ok (.goto 4, 3) := by decide +kernel
theorem dX11_errorPosition_30 : decode cX11_errorPosition 30 = .ok (.iconst 0, 1) := by decide +kernel
theorem dX11_errorPosition_31 : decode cX11_errorPosition 31 = .ok (.ireturn, 1) := by decide +kernel
theorem dX11_failedCommand_0 : decode cX11_failedCommand 0 = .ok (.aload_n 0, 1) := by decide +kernel
theorem dX11_failedCommand_1 : decode cX11_failedCommand 1 = .ok (.aload_n 0, 1) := by decide +kernel
theorem dX11_failedCommand_2 : decode cX11_failedCommand 2 = .ok (.getfield 13, 3) := by decide +kernel
theorem dX11_failedCommand_5 : decode cX11_failedCommand 5 = .ok (.ifCond .ge 7, 3) := by decide +kernel
theorem dX11_failedCommand_8 : decode cX11_failedCommand 8 = .ok (.iconst 1, 1) := by decide +kernel
theorem dX11_failedCommand_9 : decode cX11_failedCommand 9 = .ok (.goto 4, 3) := by decide +kernel
theorem dX11_failedCommand_12 : decode cX11_failedCommand 12 = .ok (.iconst 0, 1) := by decide +kernel
theorem dX11_failedCommand_13 : decode cX11_failedCommand 13 = .ok (.putfield 50, 3) := by decide +kernel
theorem dX11_failedCommand_16 : decode cX11_failedCommand 16 = .ok (.aload_n 0, 1) := by decide +kernel
theorem dX11_failedCommand_17 : decode cX11_failedCommand 17 = .ok (.getfield 50, 3) := by decide +kernel
theorem dX11_failedCommand_20 : decode cX11_failedCommand 20 = .ok (.ifCond .ne 10, 3) := by decide +kernel
theorem dX11_failedCommand_23 : decode cX11_failedCommand 23 = .ok (.aload_n 0, 1) := by decide +kernel
theorem dX11_failedCommand_24 : decode cX11_failedCommand 24 = .ok (.getfield 13, 3) := by decide +kernel
theorem dX11_failedCommand_27 : decode cX11_failedCommand 27 = .ok (.goto 4, 3) := by decide +kernel
theorem dX11_failedCommand_30 : decode cX11_failedCommand 30 = .ok (.iconst 0, 1) := by decide +kernel
theorem dX11_failedCommand_31 : decode cX11_failedCommand 31 = .ok (.ireturn, 1) := by decide +kernel
theorem dX11_writes_0 : decode cX11_writes 0 = .ok (.aload_n 0, 1) := by decide +kernel
theorem dX11_writes_1 : decode cX11_writes 1 = .ok (.getfield 35, 3) := by decide +kernel
theorem dX11_writes_4 : decode cX11_writes 4 = .ok (.aload_n 0, 1) := by decide +kernel
theorem dX11_writes_5 : decode cX11_writes 5 = .ok (.getfield 212, 3) := by decide +kernel
theorem dX11_writes_8 : decode cX11_writes 8 = .ok (.iload_n 1, 1) := by decide +kernel
theorem dX11_writes_9 : decode cX11_writes 9 = .ok (.iastore, 1) := by decide +kernel
theorem dX11_writes_10 : decode cX11_writes 10 = .ok (.aload_n 0, 1) := by decide +kernel
theorem dX11_writes_11 : decode cX11_writes 11 = .ok (.dup, 1) := by decide +kernel
theorem dX11_writes_12 : decode cX11_writes 12 = .ok (.getfield 212, 3) := by decide +kernel
theorem dX11_writes_15 : decode cX11_writes 15 = .ok (.iconst 1, 1) := by decide +kernel
theorem dX11_writes_16 : decode cX11_writes 16 = .ok (.iadd, 1) := by decide +kernel
theorem dX11_writes_17 : decode cX11_writes 17 = .ok (.putfield 212, 3) := by decide +kernel
theorem dX11_writes_20 : decode cX11_writes 20 = .ok (.return_, 1) := by decide +kernel
theorem dX11_writesNumber_0 : decode cX11_writesNumber 0 = .ok (.iconst 1, 1) := by decide +kernel
theorem dX11_writesNumber_1 : decode cX11_writesNumber 1 = .ok (.istore_n 2, 1) := by decide +kernel
theorem dX11_writesNumber_2 : decode cX11_writesNumber 2 = .ok (.iload_n 1, 1) := by decide +kernel
theorem dX11_writesNumber_3 : decode cX11_writesNumber 3 = .ok (.iload_n 2, 1) := by decide +kernel
theorem dX11_writesNumber_4 : decode cX11_writesNumber 4 = .ok (.idiv, 1) := by decide +kernel
theorem dX11_writesNumber_5 : decode cX11_writesNumber 5 = .ok (.bipush 10, 2) := by decide +kernel
theorem dX11_writesNumber_7 : decode cX11_writesNumber 7 = .ok (.if_icmp .lt 11, 3) := by decide +kernel
theorem dX11_writesNumber_10 : decode cX11_writesNumber 10 = .ok (.iload_n 2, 1) := by decide +kernel
theorem dX11_writesNumber_11 : decode cX11_writesNumber 11 = .ok (.bipush 10, 2) := by decide +kernel
theorem dX11_writesNumber_13 : decode cX11_writesNumber 13 = .ok (.imul, 1) := by decide +kernel
theorem dX11_writesNumber_14 : decode cX11_writesNumber 14 = .ok (.istore_n 2, 1) := by decide +kernel
theorem dX11_writesNumber_15 : decode cX11_writesNumber 15 = .ok (.goto (-13), 3) := by decide +kernel
theorem dX11_writesNumber_18 : decode cX11_writesNumber 18 = .ok (.iload_n 2, 1) := by decide +kernel
theorem dX11_writesNumber_19 : decode cX11_writesNumber 19 = .ok (.ifCond .le 24, 3) := by decide +kernel
theorem dX11_writesNumber_22 : decode cX11_writesNumber 22 = .ok (.aload_n 0, 1) := by decide +kernel
theorem dX11_writesNumber_23 : decode cX11_writesNumber 23 = .ok (.bipush 48, 2) := by decide +kernel
theorem dX11_writesNumber_25 : decode cX11_writesNumber 25 = .ok (.iload_n 1, 1) := by decide +kernel
theorem dX11_writesNumber_26 : decode cX11_writesNumber 26 = .ok (.iload_n 2, 1) := by decide +kernel
theorem dX11_writesNumber_27 : decode cX11_writesNumber 27 = .ok (.idiv, 1) := by decide +kernel
theorem dX11_writesNumber_28 : decode cX11_writesNumber 28 = .ok (.bipush 10, 2) := by decide +kernel
theorem dX11_writesNumber_30 : decode cX11_writesNumber 30 = .ok (.irem, 1) := by decide +kernel
theorem dX11_writesNumber_31 : decode cX11_writesNumber 31 = .ok (.iadd, 1) := by decide +kernel
theorem dX11_writesNumber_32 : decode cX11_writesNumber 32 = .ok (.invokevirtual 215, 3) := by decide +kernel
theorem dX11_writesNumber_35 : decode cX11_writesNumber 35 = .ok (.iload_n 2, 1) := by decide +kernel
theorem dX11_writesNumber_36 : decode cX11_writesNumber 36 = .ok (.bipush 10, 2) := by decide +kernel
theorem dX11_writesNumber_38 : decode cX11_writesNumber 38 = .ok (.idiv, 1) := by decide +kernel
theorem dX11_writesNumber_39 : decode cX11_writesNumber 39 = .ok (.istore_n 2, 1) := by decide +kernel
theorem dX11_writesNumber_40 : decode cX11_writesNumber 40 = .ok (.goto (-22), 3) := by decide +kernel
theorem dX11_writesNumber_43 : decode cX11_writesNumber 43 = .ok (.return_, 1) := by decide +kernel
theorem dX11_writePiece_0 : decode cX11_writePiece 0 = .ok (.aload_n 0, 1) := by decide +kernel
theorem dX11_writePiece_1 : decode cX11_writePiece 1 = .ok (.iload_n 1, 1) := by decide +kernel
theorem dX11_writePiece_2 : decode cX11_writePiece 2 = .ok (.invokevirtual 108, 3) := by decide +kernel
theorem dX11_writePiece_5 : decode cX11_writePiece 5 = .ok (.istore_n 2, 1) := by decide +kernel
theorem dX11_writePiece_6 : decode cX11_writePiece 6 = .ok (.iload_n 2, 1) := by decide +kernel
theorem dX11_writePiece_7 : decode cX11_writePiece 7 = .ok (.ifCond .ge 9, 3) := by decide +kernel
theorem dX11_writePiece_10 : decode cX11_writePiece 10 = .ok (.aload_n 0, 1) := by decide +kernel
theorem dX11_writePiece_11 : decode cX11_writePiece 11 = .ok (.iconst 1, 1) := by decide +kernel
theorem dX11_writePiece_12 : decode cX11_writePiece 12 = .ok (.invokevirtual 68, 3) := by decide +kernel
theorem dX11_writePiece_15 : decode cX11_writePiece 15 = .ok (.ireturn, 1) := by decide +kernel
theorem dX11_writePiece_16 : decode cX11_writePiece 16 = .ok (.aload_n 0, 1) := by decide +kernel
theorem dX11_writePiece_17 : decode cX11_writePiece 17 = .ok (.iconst 0, 1) := by decide +kernel
theorem dX11_writePiece_18 : decode cX11_writePiece 18 = .ok (.putfield 50, 3) := by decide +kernel
theorem dX11_writePiece_21 : decode cX11_writePiece 21 = .ok (.aload_n 0, 1) := by decide +kernel
theorem dX11_writePiece_22 : decode cX11_writePiece 22 = .ok (.iconst 0, 1) := by decide +kernel
theorem dX11_writePiece_23 : decode cX11_writePiece 23 = .ok (.putfield 212, 3) := by decide +kernel
theorem dX11_writePiece_26 : decode cX11_writePiece 26 = .ok (.aload_n 0, 1) := by decide +kernel
theorem dX11_writePiece_27 : decode cX11_writePiece 27 = .ok (.iload_n 1, 1) := by decide +kernel
theorem dX11_writePiece_28 : decode cX11_writePiece 28 = .ok (.invokevirtual 218, 3) := by decide +kernel
theorem dX11_writePiece_31 : decode cX11_writePiece 31 = .ok (.aload_n 0, 1) := by decide +kernel
theorem dX11_writePiece_32 : decode cX11_writePiece 32 = .ok (.aload_n 0, 1) := by decide +kernel
theorem dX11_writePiece_33 : decode cX11_writePiece 33 = .ok (.getfield 16, 3) := by decide +kernel
theorem dX11_writePiece_36 : decode cX11_writePiece 36 = .ok (.iload_n 2, 1) := by decide +kernel
theorem dX11_writePiece_37 : decode cX11_writePiece 37 = .ok (.iconst 1, 1) := by decide +kernel
theorem dX11_writePiece_38 : decode cX11_writePiece 38 = .ok (.invokestatic 60, 3) := by decide +kernel
theorem dX11_writePiece_41 : decode cX11_writePiece 41 = .ok (.iaload, 1) := by decide +kernel
theorem dX11_writePiece_42 : decode cX11_writePiece 42 = .ok (.invokevirtual 215, 3) := by decide +kernel
theorem dX11_writePiece_45 : decode cX11_writePiece 45 = .ok (.aload_n 0, 1) := by decide +kernel
theorem dX11_writePiece_46 : decode cX11_writePiece 46 = .ok (.bipush 58, 2) := by decide +kernel
theorem dX11_writePiece_48 : decode cX11_writePiece 48 = .ok (.invokevirtual 215, 3) := by decide +kernel
theorem dX11_writePiece_51 : decode cX11_writePiece 51 = .ok (.aload_n 0, 1) := by decide +kernel
theorem dX11_writePiece_52 : decode cX11_writePiece 52 = .ok (.aload_n 0, 1) := by decide +kernel
theorem dX11_writePiece_53 : decode cX11_writePiece 53 = .ok (.getfield 16, 3) := by decide +kernel
theorem dX11_writePiece_56 : decode cX11_writePiece 56 = .ok (.iload_n 2, 1) := by decide +kernel
theorem dX11_writePiece_57 : decode cX11_writePiece 57 = .ok (.iconst 2, 1) := by decide +kernel
theorem dX11_writePiece_58 : decode cX11_writePiece 58 = .ok (.invokestatic 60, 3) := by decide +kernel
theorem dX11_writePiece_61 : decode cX11_writePiece 61 = .ok (.iaload, 1) := by decide +kernel
theorem dX11_writePiece_62 : decode cX11_writePiece 62 = .ok (.invokevirtual 218, 3) := by decide +kernel
theorem dX11_writePiece_65 : decode cX11_writePiece 65 = .ok (.aload_n 0, 1) := by decide +kernel
theorem dX11_writePiece_66 : decode cX11_writePiece 66 = .ok (.bipush 47, 2) := by decide +kernel
theorem dX11_writePiece_68 : decode cX11_writePiece 68 = .ok (.invokevirtual 215, 3) := by decide +kernel
theorem dX11_writePiece_71 : decode cX11_writePiece 71 = .ok (.aload_n 0, 1) := by decide +kernel
theorem dX11_writePiece_72 : decode cX11_writePiece 72 = .ok (.aload_n 0, 1) := by decide +kernel
theorem dX11_writePiece_73 : decode cX11_writePiece 73 = .ok (.getfield 16, 3) := by decide +kernel
theorem dX11_writePiece_76 : decode cX11_writePiece 76 = .ok (.iload_n 2, 1) := by decide +kernel
theorem dX11_writePiece_77 : decode cX11_writePiece 77 = .ok (.iconst 3, 1) := by decide +kernel
theorem dX11_writePiece_78 : decode cX11_writePiece 78 = .ok (.invokestatic 60, 3) := by decide +kernel
theorem dX11_writePiece_81 : decode cX11_writePiece 81 = .ok (.iaload, 1) := by decide +kernel
theorem dX11_writePiece_82 : decode cX11_writePiece 82 = .ok (.invokevirtual 218, 3) := by decide +kernel
theorem dX11_writePiece_85 : decode cX11_writePiece 85 = .ok (.aload_n 0, 1) := by decide +kernel
theorem dX11_writePiece_86 : decode cX11_writePiece 86 = .ok (.bipush 47, 2) := by decide +kernel
theorem dX11_writePiece_88 : decode cX11_writePiece 88 = .ok (.invokevirtual 215, 3) := by decide +kernel
theorem dX11_writePiece_91 : decode cX11_writePiece 91 = .ok (.aload_n 0, 1) := by decide +kernel
theorem dX11_writePiece_92 : decode cX11_writePiece 92 = .ok (.aload_n 0, 1) := by decide +kernel
theorem dX11_writePiece_93 : decode cX11_writePiece 93 = .ok (.getfield 16, 3) := by decide +kernel
theorem dX11_writePiece_96 : decode cX11_writePiece 96 = .ok (.iload_n 2, 1) := by decide +kernel
theorem dX11_writePiece_97 : decode cX11_writePiece 97 = .ok (.iconst 4, 1) := by decide +kernel
theorem dX11_writePiece_98 : decode cX11_writePiece 98 = .ok (.invokestatic 60, 3) := by decide +kernel
theorem dX11_writePiece_101 : decode cX11_writePiece 101 = .ok (.iaload, 1) := by decide +kernel
theorem dX11_writePiece_102 : decode cX11_writePiece 102 = .ok (.invokevirtual 218, 3) := by decide +kernel
theorem dX11_writePiece_105 : decode cX11_writePiece 105 = .ok (.aload_n 0, 1) := by decide +kernel
theorem dX11_writePiece_106 : decode cX11_writePiece 106 = .ok (.getfield 16, 3) := by decide +kernel
theorem dX11_writePiece_109 : decode cX11_writePiece 109 = .ok (.iload_n 2, 1) := by decide +kernel
theorem dX11_writePiece_110 : decode cX11_writePiece 110 = .ok (.iconst 5, 1) := by decide +kernel
theorem dX11_writePiece_111 : decode cX11_writePiece 111 = .ok (.invokestatic 60, 3) := by decide +kernel
theorem dX11_writePiece_114 : decode cX11_writePiece 114 = .ok (.iaload, 1) := by decide +kernel
theorem dX11_writePiece_115 : decode cX11_writePiece 115 = .ok (.iconst 1, 1) := by decide +kernel
theorem dX11_writePiece_116 : decode cX11_writePiece 116 = .ok (.if_icmp .ne 9, 3) := by decide +kernel
theorem dX11_writePiece_119 : decode cX11_writePiece 119 = .ok (.aload_n 0, 1) := by decide +kernel
theorem dX11_writePiece_120 : decode cX11_writePiece 120 = .ok (.bipush 42, 2) := by decide +kernel
theorem dX11_writePiece_122 : decode cX11_writePiece 122 = .ok (.invokevirtual 215, 3) := by decide +kernel
theorem dX11_writePiece_125 : decode cX11_writePiece 125 = .ok (.aload_n 0, 1) := by decide +kernel
theorem dX11_writePiece_126 : decode cX11_writePiece 126 = .ok (.getfield 16, 3) := by decide +kernel
theorem dX11_writePiece_129 : decode cX11_writePiece 129 = .ok (.iload_n 2, 1) := by decide +kernel
theorem dX11_writePiece_130 : decode cX11_writePiece 130 = .ok (.bipush 6, 2) := by decide +kernel
theorem dX11_writePiece_132 : decode cX11_writePiece 132 = .ok (.invokestatic 60, 3) := by decide +kernel
theorem dX11_writePiece_135 : decode cX11_writePiece 135 = .ok (.iaload, 1) := by decide +kernel
theorem dX11_writePiece_136 : decode cX11_writePiece 136 = .ok (.iconst 1, 1) := by decide +kernel
theorem dX11_writePiece_137 : decode cX11_writePiece 137 = .ok (.if_icmp .ne 9, 3) := by decide +kernel
theorem dX11_writePiece_140 : decode cX11_writePiece 140 = .ok (.aload_n 0, 1) := by decide +kernel
theorem dX11_writePiece_141 : decode cX11_writePiece 141 = .ok (.bipush 113, 2) := by decide +kernel
theorem dX11_writePiece_143 : decode cX11_writePiece 143 = .ok (.invokevirtual 215, 3) := by decide +kernel
theorem dX11_writePiece_146 : decode cX11_writePiece 146 = .ok (.aload_n 0, 1) := by decide +kernel
theorem dX11_writePiece_147 : decode cX11_writePiece 147 = .ok (.getfield 16, 3) := by decide +kernel
theorem dX11_writePiece_150 : decode cX11_writePiece 150 = .ok (.iload_n 2, 1) := by decide +kernel
theorem dX11_writePiece_151 : decode cX11_writePiece 151 = .ok (.bipush 7, 2) := by decide +kernel
theorem dX11_writePiece_153 : decode cX11_writePiece 153 = .ok (.invokestatic 60, 3) := by decide +kernel
theorem dX11_writePiece_156 : decode cX11_writePiece 156 = .ok (.iaload, 1) := by decide +kernel
theorem dX11_writePiece_157 : decode cX11_writePiece 157 = .ok (.ifCond .eq 29, 3) := by decide +kernel
theorem dX11_writePiece_160 : decode cX11_writePiece 160 = .ok (.aload_n 0, 1) := by decide +kernel
theorem dX11_writePiece_161 : decode cX11_writePiece 161 = .ok (.aload_n 0, 1) := by decide +kernel
theorem dX11_writePiece_162 : decode cX11_writePiece 162 = .ok (.getfield 16, 3) := by decide +kernel
theorem dX11_writePiece_165 : decode cX11_writePiece 165 = .ok (.iload_n 2, 1) := by decide +kernel
theorem dX11_writePiece_166 : decode cX11_writePiece 166 = .ok (.bipush 7, 2) := by decide +kernel
theorem dX11_writePiece_168 : decode cX11_writePiece 168 = .ok (.invokestatic 60, 3) := by decide +kernel
theorem dX11_writePiece_171 : decode cX11_writePiece 171 = .ok (.iaload, 1) := by decide +kernel
theorem dX11_writePiece_172 : decode cX11_writePiece 172 = .ok (.iconst 1, 1) := by decide +kernel
theorem dX11_writePiece_173 : decode cX11_writePiece 173 = .ok (.if_icmp .ne 8, 3) := by decide +kernel
theorem dX11_writePiece_176 : decode cX11_writePiece 176 = .ok (.bipush 43, 2) := by decide +kernel
theorem dX11_writePiece_178 : decode cX11_writePiece 178 = .ok (.goto 5, 3) := by decide +kernel
theorem dX11_writePiece_181 : decode cX11_writePiece 181 = .ok (.bipush 45, 2) := by decide +kernel
theorem dX11_writePiece_183 : decode cX11_writePiece 183 = .ok (.invokevirtual 215, 3) := by decide +kernel
theorem dX11_writePiece_186 : decode cX11_writePiece 186 = .ok (.aload_n 0, 1) := by decide +kernel
theorem dX11_writePiece_187 : decode cX11_writePiece 187 = .ok (.getfield 212, 3) := by decide +kernel
theorem dX11_writePiece_190 : decode cX11_writePiece 190 = .ok (.ireturn, 1) := by decide +kernel
theorem dX11_writeFurnace_0 : decode cX11_writeFurnace 0 = .ok (.aload_n 0, 1) := by decide +kernel
theorem dX11_writeFurnace_1 : decode cX11_writeFurnace 1 = .ok (.iconst 0, 1) := by decide +kernel
theorem dX11_writeFurnace_2 : decode cX11_writeFurnace 2 = .ok (.putfield 50, 3) := by decide +kernel
theorem dX11_writeFurnace_5 : decode cX11_writeFurnace 5 = .ok (.aload_n 0, 1) := by decide +kernel
theorem dX11_writeFurnace_6 : decode cX11_writeFurnace 6 = .ok (.iconst 0, 1) := by decide +kernel
theorem dX11_writeFurnace_7 : decode cX11_writeFurnace 7 = .ok (.putfield 212, 3) := by decide +kernel
theorem dX11_writeFurnace_10 : decode cX11_writeFurnace 10 = .ok (.aload_n 0, 1) := by decide +kernel
theorem dX11_writeFurnace_11 : decode cX11_writeFurnace 11 = .ok (.aload_n 0, 1) := by decide +kernel
theorem dX11_writeFurnace_12 : decode cX11_writeFurnace 12 = .ok (.getfield 16, 3) := by decide +kernel
theorem dX11_writeFurnace_15 : decode cX11_writeFurnace 15 = .ok (.iconst 1, 1) := by decide +kernel
theorem dX11_writeFurnace_16 : decode cX11_writeFurnace 16 = .ok (.iaload, 1) := by decide +kernel
theorem dX11_writeFurnace_17 : decode cX11_writeFurnace 17 = .ok (.invokevirtual 218, 3) := by decide +kernel
theorem dX11_writeFurnace_20 : decode cX11_writeFurnace 20 = .ok (.aload_n 0, 1) := by decide +kernel
theorem dX11_writeFurnace_21 : decode cX11_writeFurnace 21 = .ok (.bipush 64, 2) := by decide +kernel
theorem dX11_writeFurnace_23 : decode cX11_writeFurnace 23 = .ok (.invokevirtual 215, 3) := by decide +kernel
theorem dX11_writeFurnace_26 : decode cX11_writeFurnace 26 = .ok (.aload_n 0, 1) := by decide +kernel
theorem dX11_writeFurnace_27 : decode cX11_writeFurnace 27 = .ok (.aload_n 0, 1) := by decide +kernel
theorem dX11_writeFurnace_28 : decode cX11_writeFurnace 28 = .ok (.getfield 16, 3) := by decide +kernel
theorem dX11_writeFurnace_31 : decode cX11_writeFurnace 31 = .ok (.iconst 2, 1) := by decide +kernel
theorem dX11_writeFurnace_32 : decode cX11_writeFurnace 32 = .ok (.iaload, 1) := by decide +kernel
theorem dX11_writeFurnace_33 : decode cX11_writeFurnace 33 = .ok (.invokevirtual 218, 3) := by decide +kernel
theorem dX11_writeFurnace_36 : decode cX11_writeFurnace 36 = .ok (.aload_n 0, 1) := by decide +kernel
theorem dX11_writeFurnace_37 : decode cX11_writeFurnace 37 = .ok (.bipush 35, 2) := by decide +kernel
theorem dX11_writeFurnace_39 : decode cX11_writeFurnace 39 = .ok (.invokevirtual 215, 3) := by decide +kernel
theorem dX11_writeFurnace_42 : decode cX11_writeFurnace 42 = .ok (.aload_n 0, 1) := by decide +kernel
theorem dX11_writeFurnace_43 : decode cX11_writeFurnace 43 = .ok (.aload_n 0, 1) := by decide +kernel
theorem dX11_writeFurnace_44 : decode cX11_writeFurnace 44 = .ok (.getfield 16, 3) := by decide +kernel
theorem dX11_writeFurnace_47 : decode cX11_writeFurnace 47 = .ok (.iconst 3, 1) := by decide +kernel
theorem dX11_writeFurnace_48 : decode cX11_writeFurnace 48 = .ok (.iaload, 1) := by decide +kernel
theorem dX11_writeFurnace_49 : decode cX11_writeFurnace 49 = .ok (.invokevirtual 218, 3) := by decide +kernel
theorem dX11_writeFurnace_52 : decode cX11_writeFurnace 52 = .ok (.iconst 0, 1) := by decide +kernel
theorem dX11_writeFurnace_53 : decode cX11_writeFurnace 53 = .ok (.istore_n 1, 1) := by decide +kernel
theorem dX11_writeFurnace_54 : decode cX11_writeFurnace 54 = .ok (.iload_n 1, 1) := by decide +kernel
theorem dX11_writeFurnace_55 : decode cX11_writeFurnace 55 = .ok (.aload_n 0, 1) := by decide +kernel
theorem dX11_writeFurnace_56 : decode cX11_writeFurnace 56 = .ok (.getfield 16, 3) := by decide +kernel
theorem dX11_writeFurnace_59 : decode cX11_writeFurnace 59 = .ok (.iconst 5, 1) := by decide +kernel
theorem dX11_writeFurnace_60 : decode cX11_writeFurnace 60 = .ok (.iaload, 1) := by decide +kernel
theorem dX11_writeFurnace_61 : decode cX11_writeFurnace 61 = .ok (.if_icmp .ge 45, 3) := by decide +kernel
theorem dX11_writeFurnace_64 : decode cX11_writeFurnace 64 = .ok (.aload_n 0, 1) := by decide +kernel
theorem dX11_writeFurnace_65 : decode cX11_writeFurnace 65 = .ok (.getfield 16, 3) := by decide +kernel
theorem dX11_writeFurnace_68 : decode cX11_writeFurnace 68 = .ok (.iload_n 1, 1) := by decide +kernel
theorem dX11_writeFurnace_69 : decode cX11_writeFurnace 69 = .ok (.iconst 5, 1) := by decide +kernel
theorem dX11_writeFurnace_70 : decode cX11_writeFurnace 70 = .ok (.invokestatic 60, 3) := by decide +kernel
theorem dX11_writeFurnace_73 : decode cX11_writeFurnace 73 = .ok (.iaload, 1) := by decide +kernel
theorem dX11_writeFurnace_74 : decode cX11_writeFurnace 74 = .ok (.ifCond .ne 6, 3) := by decide +kernel
theorem dX11_writeFurnace_77 : decode cX11_writeFurnace 77 = .ok (.goto 23, 3) := by decide +kernel
theorem dX11_writeFurnace_80 : decode cX11_writeFurnace 80 = .ok (.aload_n 0, 1) := by decide +kernel
theorem dX11_writeFurnace_81 : decode cX11_writeFurnace 81 = .ok (.bipush 32, 2) := by decide +kernel
theorem dX11_writeFurnace_83 : decode cX11_writeFurnace 83 = .ok (.invokevirtual 215, 3) := by decide +kernel
theorem dX11_writeFurnace_86 : decode cX11_writeFurnace 86 = .ok (.aload_n 0, 1) := by decide +kernel
theorem dX11_writeFurnace_87 : decode cX11_writeFurnace 87 = .ok (.aload_n 0, 1) := by decide +kernel
theorem dX11_writeFurnace_88 : decode cX11_writeFurnace 88 = .ok (.getfield 16, 3) := by decide +kernel
theorem dX11_writeFurnace_91 : decode cX11_writeFurnace 91 = .ok (.iload_n 1, 1) := by decide +kernel
theorem dX11_writeFurnace_92 : decode cX11_writeFurnace 92 = .ok (.iconst 0, 1) := by decide +kernel
theorem dX11_writeFurnace_93 : decode cX11_writeFurnace 93 = .ok (.invokestatic 60, 3) := by decide +kernel
theorem dX11_writeFurnace_96 : decode cX11_writeFurnace 96 = .ok (.iaload, 1) := by decide +kernel
theorem dX11_writeFurnace_97 : decode cX11_writeFurnace 97 = .ok (.invokevirtual 218, 3) := by decide +kernel
theorem dX11_writeFurnace_100 : decode cX11_writeFurnace 100 = .ok (.iinc 1 1, 3) := by decide +kernel
theorem dX11_writeFurnace_103 : decode cX11_writeFurnace 103 = .ok (.goto (-49), 3) := by decide +kernel
theorem dX11_writeFurnace_106 : decode cX11_writeFurnace 106 = .ok (.aload_n 0, 1) := by decide +kernel
theorem dX11_writeFurnace_107 : decode cX11_writeFurnace 107 = .ok (.getfield 212, 3) := by decide +kernel
theorem dX11_writeFurnace_110 : decode cX11_writeFurnace 110 = .ok (.ireturn, 1) := by decide +kernel
theorem dX11_outputAt_0 : decode cX11_outputAt 0 = .ok (.aload_n 0, 1) := by decide +kernel
theorem dX11_outputAt_1 : decode cX11_outputAt 1 = .ok (.iload_n 1, 1) := by decide +kernel
theorem dX11_outputAt_2 : decode cX11_outputAt 2 = .ok (.iconst 0, 1) := by decide +kernel
theorem dX11_outputAt_3 : decode cX11_outputAt 3 = .ok (.aload_n 0, 1) := by decide +kernel
theorem dX11_outputAt_4 : decode cX11_outputAt 4 = .ok (.getfield 212, 3) := by decide +kernel
theorem dX11_outputAt_7 : decode cX11_outputAt 7 = .ok (.iconst 1, 1) := by decide +kernel
theorem dX11_outputAt_8 : decode cX11_outputAt 8 = .ok (.isub, 1) := by decide +kernel
theorem dX11_outputAt_9 : decode cX11_outputAt 9 = .ok (.invokestatic 64, 3) := by decide +kernel
theorem dX11_outputAt_12 : decode cX11_outputAt 12 = .ok (.ifCond .eq 7, 3) := by decide +kernel
theorem dX11_outputAt_15 : decode cX11_outputAt 15 = .ok (.iconst 0, 1) := by decide +kernel
theorem dX11_outputAt_16 : decode cX11_outputAt 16 = .ok (.goto 4, 3) := by decide +kernel
theorem dX11_outputAt_19 : decode cX11_outputAt 19 = .ok (.iconst 1, 1) := by decide +kernel
theorem dX11_outputAt_20 : decode cX11_outputAt 20 = .ok (.putfield 50, 3) := by decide +kernel
theorem dX11_outputAt_23 : decode cX11_outputAt 23 = .ok (.aload_n 0, 1) := by decide +kernel
theorem dX11_outputAt_24 : decode cX11_outputAt 24 = .ok (.getfield 50, 3) := by decide +kernel
theorem dX11_outputAt_27 : decode cX11_outputAt 27 = .ok (.ifCond .ne 13, 3) := by decide +kernel
theorem dX11_outputAt_30 : decode cX11_outputAt 30 = .ok (.aload_n 0, 1) := by decide +kernel
theorem dX11_outputAt_31 : decode cX11_outputAt 31 = .ok (.getfield 35, 3) := by decide +kernel
theorem dX11_outputAt_34 : decode cX11_outputAt 34 = .ok (.iload_n 1, 1) := by decide +kernel
theorem dX11_outputAt_35 : decode cX11_outputAt 35 = .ok (.iaload, 1) := by decide +kernel
theorem dX11_outputAt_36 : decode cX11_outputAt 36 = .ok (.i2c, 1) := by decide +kernel
theorem dX11_outputAt_37 : decode cX11_outputAt 37 = .ok (.goto 5, 3) := by decide +kernel
theorem dX11_outputAt_40 : decode cX11_outputAt 40 = .ok (.bipush 97, 2) := by decide +kernel
theorem dX11_outputAt_42 : decode cX11_outputAt 42 = .ok (.ireturn, 1) := by decide +kernel
theorem dX11_undo_0 : decode cX11_undo 0 = .ok (.aload_n 0, 1) := by decide +kernel
theorem dX11_undo_1 : decode cX11_undo 1 = .ok (.aload_n 0, 1) := by decide +kernel
theorem dX11_undo_2 : decode cX11_undo 2 = .ok (.getfield 57, 3) := by decide +kernel
theorem dX11_undo_5 : decode cX11_undo 5 = .ok (.ifCond .ne 7, 3) := by decide +kernel
theorem dX11_undo_8 : decode cX11_undo 8 = .ok (.iconst 1, 1) := by decide +kernel
theorem dX11_undo_9 : decode cX11_undo 9 = .ok (.goto 4, 3) := by decide +kernel
theorem dX11_undo_12 : decode cX11_undo 12 = .ok (.iconst 0, 1) := by decide +kernel
theorem dX11_undo_13 : decode cX11_undo 13 = .ok (.putfield 50, 3) := by decide +kernel
theorem dX11_undo_16 : decode cX11_undo 16 = .ok (.aload_n 0, 1) := by decide +kernel
theorem dX11_undo_17 : decode cX11_undo 17 = .ok (.getfield 50, 3) := by decide +kernel
theorem dX11_undo_20 : decode cX11_undo 20 = .ok (.ifCond .eq 5, 3) := by decide +kernel
theorem dX11_undo_23 : decode cX11_undo 23 = .ok (.iconst 0, 1) := by decide +kernel
theorem dX11_undo_24 : decode cX11_undo 24 = .ok (.ireturn, 1) := by decide +kernel
theorem dX11_undo_25 : decode cX11_undo 25 = .ok (.aload_n 0, 1) := by decide +kernel
theorem dX11_undo_26 : decode cX11_undo 26 = .ok (.dup, 1) := by decide +kernel
theorem dX11_undo_27 : decode cX11_undo 27 = .ok (.getfield 57, 3) := by decide +kernel
theorem dX11_undo_30 : decode cX11_undo 30 = .ok (.iconst 1, 1) := by decide +kernel
theorem dX11_undo_31 : decode cX11_undo 31 = .ok (.isub, 1) := by decide +kernel
theorem dX11_undo_32 : decode cX11_undo 32 = .ok (.putfield 57, 3) := by decide +kernel
theorem dX11_undo_35 : decode cX11_undo 35 = .ok (.iconst 0, 1) := by decide +kernel
theorem dX11_undo_36 : decode cX11_undo 36 = .ok (.istore_n 1, 1) := by decide +kernel
theorem dX11_undo_37 : decode cX11_undo 37 = .ok (.iload_n 1, 1) := by decide +kernel
theorem dX11_undo_38 : decode cX11_undo 38 = .ok (.bipush 85, 2) := by decide +kernel
theorem dX11_undo_40 : decode cX11_undo 40 = .ok (.if_icmp .ge 29, 3) := by decide +kernel
theorem dX11_undo_43 : decode cX11_undo 43 = .ok (.aload_n 0, 1) := by decide +kernel
theorem dX11_undo_44 : decode cX11_undo 44 = .ok (.getfield 16, 3) := by decide +kernel
theorem dX11_undo_47 : decode cX11_undo 47 = .ok (.iload_n 1, 1) := by decide +kernel
theorem dX11_undo_48 : decode cX11_undo 48 = .ok (.aload_n 0, 1) := by decide +kernel
theorem dX11_undo_49 : decode cX11_undo 49 = .ok (.getfield 26, 3) := by decide +kernel
theorem dX11_undo_52 : decode cX11_undo 52 = .ok (.aload_n 0, 1) := by decide +kernel
theorem dX11_undo_53 : decode cX11_undo 53 = .ok (.getfield 57, 3) := by decide +kernel
theorem dX11_undo_56 : decode cX11_undo 56 = .ok (.bipush 85, 2) := by decide +kernel
theorem dX11_undo_58 : decode cX11_undo 58 = .ok (.imul, 1) := by decide +kernel
theorem dX11_undo_59 : decode cX11_undo 59 = .ok (.iload_n 1, 1) := by decide +kernel
theorem dX11_undo_60 : decode cX11_undo 60 = .ok (.iadd, 1) := by decide +kernel
theorem dX11_undo_61 : decode cX11_undo 61 = .ok (.iaload, 1) := by decide +kernel
theorem dX11_undo_62 : decode cX11_undo 62 = .ok (.iastore, 1) := by decide +kernel
theorem dX11_undo_63 : decode cX11_undo 63 = .ok (.iinc 1 1, 3) := by decide +kernel
theorem dX11_undo_66 : decode cX11_undo 66 = .ok (.goto (-29), 3) := by decide +kernel
theorem dX11_undo_69 : decode cX11_undo 69 = .ok (.aload_n 0, 1) := by decide +kernel
theorem dX11_undo_70 : decode cX11_undo 70 = .ok (.getfield 57, 3) := by decide +kernel
theorem dX11_undo_73 : decode cX11_undo 73 = .ok (.ireturn, 1) := by decide +kernel
theorem dX11_save_0 : decode cX11_save 0 = .ok (.aload_n 0, 1) := by decide +kernel
theorem dX11_save_1 : decode cX11_save 1 = .ok (.iconst 0, 1) := by decide +kernel
theorem dX11_save_2 : decode cX11_save 2 = .ok (.putfield 50, 3) := by decide +kernel
theorem dX11_save_5 : decode cX11_save 5 = .ok (.aload_n 0, 1) := by decide +kernel
theorem dX11_save_6 : decode cX11_save 6 = .ok (.getfield 23, 3) := by decide +kernel
theorem dX11_save_9 : decode cX11_save 9 = .ok (.aload_n 0, 1) := by decide +kernel
theorem dX11_save_10 : decode cX11_save 10 = .ok (.getfield 16, 3) := by decide +kernel
theorem dX11_save_13 : decode cX11_save 13 = .ok (.invokestatic 53, 3) := by decide +kernel
theorem dX11_save_16 : decode cX11_save 16 = .ok (.aload_n 0, 1) := by decide +kernel
theorem dX11_save_17 : decode cX11_save 17 = .ok (.iconst 1, 1) := by decide +kernel
theorem dX11_save_18 : decode cX11_save 18 = .ok (.putfield 221, 3) := by decide +kernel
theorem dX11_save_21 : decode cX11_save 21 = .ok (.return_, 1) := by decide +kernel
theorem dX11_restore_0 : decode cX11_restore 0 = .ok (.aload_n 0, 1) := by decide +kernel
theorem dX11_restore_1 : decode cX11_restore 1 = .ok (.aload_n 0, 1) := by decide +kernel
theorem dX11_restore_2 : decode cX11_restore 2 = .ok (.getfield 221, 3) := by decide +kernel
theorem dX11_restore_5 : decode cX11_restore 5 = .ok (.ifCond .eq 7, 3) := by decide +kernel
theorem dX11_restore_8 : decode cX11_restore 8 = .ok (.iconst 0, 1) := by decide +kernel
theorem dX11_restore_9 : decode cX11_restore 9 = .ok (.goto 4, 3) := by decide +kernel
theorem dX11_restore_12 : decode cX11_restore 12 = .ok (.iconst 1, 1) := by decide +kernel
theorem dX11_restore_13 : decode cX11_restore 13 = .ok (.putfield 50, 3) := by decide +kernel
theorem dX11_restore_16 : decode cX11_restore 16 = .ok (.aload_n 0, 1) := by decide +kernel
theorem dX11_restore_17 : decode cX11_restore 17 = .ok (.getfield 50, 3) := by decide +kernel
theorem dX11_restore_20 : decode cX11_restore 20 = .ok (.ifCond .eq 4, 3) := by decide +kernel
theorem dX11_restore_23 : decode cX11_restore 23 = .ok (.return_, 1) := by decide +kernel
theorem dX11_restore_24 : decode cX11_restore 24 = .ok (.aload_n 0, 1) := by decide +kernel
theorem dX11_restore_25 : decode cX11_restore 25 = .ok (.getfield 16, 3) := by decide +kernel
theorem dX11_restore_28 : decode cX11_restore 28 = .ok (.aload_n 0, 1) := by decide +kernel
theorem dX11_restore_29 : decode cX11_restore 29 = .ok (.getfield 23, 3) := by decide +kernel
theorem dX11_restore_32 : decode cX11_restore 32 = .ok (.invokestatic 53, 3) := by decide +kernel
theorem dX11_restore_35 : decode cX11_restore 35 = .ok (.aload_n 0, 1) := by decide +kernel
theorem dX11_restore_36 : decode cX11_restore 36 = .ok (.iconst 0, 1) := by decide +kernel
theorem dX11_restore_37 : decode cX11_restore 37 = .ok (.putfield 57, 3) := by decide +kernel
theorem dX11_restore_40 : decode cX11_restore 40 = .ok (.return_, 1) := by decide +kernel
theorem dJ5_init_d00df_0 : decode cJ5_init_d00df 0 = .ok (.aload_n 0, 1) := by decide +kernel
theorem dJ5_init_d00df_1 : decode cJ5_init_d00df 1 = .ok (.invokespecial 3, 3) := by decide +kernel
theorem dJ5_init_d00df_4 : decode cJ5_init_d00df 4 = .ok (.getstatic 18, 3) := by decide +kernel
theorem dJ5_init_d00df_7 : decode cJ5_init_d00df 7 = .ok (.ifCond .eq 18, 3) := by decide +kernel
theorem dJ5_init_d00df_10 : decode cJ5_init_d00df 10 = .ok (.aload_n 0, 1) := by decide +kernel
theorem dJ5_init_d00df_11 : decode cJ5_init_d00df 11 = .ok (.iload_n 1, 1) := by decide +kernel
theorem dJ5_init_d00df_12 : decode cJ5_init_d00df 12 = .ok (.newarray .byte, 2) := by decide +kernel
theorem dJ5_init_d00df_14 : decode cJ5_init_d00df 14 = .ok (.putfield 15, 3) := by decide +kernel
theorem dJ5_init_d00df_17 : decode cJ5_init_d00df 17 = .ok (.aload_n 0, 1) := by decide +kernel
theorem dJ5_init_d00df_18 : decode cJ5_init_d00df 18 = .ok (.iconst 0, 1) := by decide +kernel
theorem dJ5_init_d00df_19 : decode cJ5_init_d00df 19 = .ok (.putfield 22, 3) := by decide +kernel
theorem dJ5_init_d00df_22 : decode cJ5_init_d00df 22 = .ok (.goto 16, 3) := by decide +kernel
theorem dJ5_init_d00df_25 : decode cJ5_init_d00df 25 = .ok (.aload_n 0, 1) := by decide +kernel
theorem dJ5_init_d00df_26 : decode cJ5_init_d00df 26 = .ok (.iload_n 1, 1) := by decide +kernel
theorem dJ5_init_d00df_27 : decode cJ5_init_d00df 27 = .ok (.invokestatic 26, 3) := by decide +kernel
theorem dJ5_init_d00df_30 : decode cJ5_init_d00df 30 = .ok (.putfield 15, 3) := by decide +kernel
theorem dJ5_init_d00df_33 : decode cJ5_init_d00df 33 = .ok (.aload_n 0, 1) := by decide +kernel
theorem dJ5_init_d00df_34 : decode cJ5_init_d00df 34 = .ok (.iconst 1, 1) := by decide +kernel
theorem dJ5_init_d00df_35 : decode cJ5_init_d00df 35 = .ok (.putfield 22, 3) := by decide +kernel
theorem dJ5_init_d00df_38 : decode cJ5_init_d00df 38 = .ok (.return_, 1) := by decide +kernel
theorem dJ5_length_8abf5_0 : decode cJ5_length_8abf5 0 = .ok (.aload_n 0, 1) := by decide +kernel
theorem dJ5_length_8abf5_1 : decode cJ5_length_8abf5 1 = .ok (.getfield 79, 3) := by decide +kernel
theorem dJ5_length_8abf5_4 : decode cJ5_length_8abf5 4 = .ok (.ireturn, 1) := by decide +kernel
theorem dJ5_ensureCapacityInternal_d00df_0 : decode cJ5_ensureCapacityInternal_d00df 0 = .ok (.aload_n 0, 1) := by decide +kernel
theorem dJ5_ensureCapacityInternal_d00df_1 : decode cJ5_ensureCapacityInternal_d00df 1 = .ok (.getfield 15, 3) := by decide +kernel
theorem dJ5_ensureCapacityInternal_d00df_4 : decode cJ5_ensureCapacityInternal_d00df 4 = .ok (.arraylength, 1) := by decide +kernel
theorem dJ5_ensureCapacityInternal_d00df_5 : decode cJ5_ensureCapacityInternal_d00df 5 = .ok (.aload_n 0, 1) := by decide +kernel
theorem dJ5_ensureCapacityInternal_d00df_6 : decode cJ5_ensureCapacityInternal_d00df 6 = .ok (.getfield 22, 3) := by decide +kernel
theorem dJ5_ensureCapacityInternal_d00df_9 : decode cJ5_ensureCapacityInternal_d00df 9 = .ok (.ishr, 1) := by decide +kernel
theorem dJ5_ensureCapacityInternal_d00df_10 : decode cJ5_ensureCapacityInternal_d00df 10 = .ok (.istore_n 2, 1) := by decide +kernel
theorem dJ5_ensureCapacityInternal_d00df_11 : decode cJ5_ensureCapacityInternal_d00df 11 = .ok (.iload_n 1, 1) := by decide +kernel
theorem dJ5_ensureCapacityInternal_d00df_12 : decode cJ5_ensureCapacityInternal_d00df 12 = .ok (.iload_n 2, 1) := by decide +kernel
theorem dJ5_ensureCapacityInternal_d00df_13 : decode cJ5_ensureCapacityInternal_d00df 13 = .ok (.isub, 1) := by decide +kernel
theorem dJ5_ensureCapacityInternal_d00df_14 : decode cJ5_ensureCapacityInternal_d00df 14 = .ok (.ifCond .le 24, 3) := by decide +kernel
theorem dJ5_ensureCapacityInternal_d00df_17 : decode cJ5_ensureCapacityInternal_d00df 17 = .ok (.aload_n 0, 1) := by decide +kernel
theorem dJ5_ensureCapacityInternal_d00df_18 : decode cJ5_ensureCapacityInternal_d00df 18 = .ok (.aload_n 0, 1) := by decide +kernel
theorem dJ5_ensureCapacityInternal_d00df_19 : decode cJ5_ensureCapacityInternal_d00df 19 = .ok (.getfield 15, 3) := by decide +kernel
theorem dJ5_ensureCapacityInternal_d00df_22 : decode cJ5_ensureCapacityInternal_d00df 22 = .ok (.aload_n 0, 1) := by decide +kernel
theorem dJ5_ensureCapacityInternal_d00df_23 : decode cJ5_ensureCapacityInternal_d00df 23 = .ok (.iload_n 1, 1) := by decide +kernel
theorem dJ5_ensureCapacityInternal_d00df_24 : decode cJ5_ensureCapacityInternal_d00df 24 = .ok (.invokevirtual 104, 3) := by decide +kernel
theorem dJ5_ensureCapacityInternal_d00df_27 : decode cJ5_ensureCapacityInternal_d00df 27 = .ok (.aload_n 0, 1) := by decide +kernel
theorem dJ5_ensureCapacityInternal_d00df_28 : decode cJ5_ensureCapacityInternal_d00df 28 = .ok (.getfield 22, 3) := by decide +kernel
theorem dJ5_ensureCapacityInternal_d00df_31 : decode cJ5_ensureCapacityInternal_d00df 31 = .ok (.ishl, 1) := by decide +kernel
theorem dJ5_ensureCapacityInternal_d00df_32 : decode cJ5_ensureCapacityInternal_d00df 32 = .ok (.invokestatic 108, 3) := by decide +kernel
theorem dJ5_ensureCapacityInternal_d00df_35 : decode cJ5_ensureCapacityInternal_d00df 35 = .ok (.putfield 15, 3) := by decide +kernel
theorem dJ5_ensureCapacityInternal_d00df_38 : decode cJ5_ensureCapacityInternal_d00df 38 = .ok (.return_, 1) := by decide +kernel
theorem dJ5_newCapacity_0f7a4_0 : decode cJ5_newCapacity_0f7a4 0 = .ok (.aload_n 0, 1) := by decide +kernel
theorem dJ5_newCapacity_0f7a4_1 : decode cJ5_newCapacity_0f7a4 1 = .ok (.getfield 15, 3) := by decide +kernel
theorem dJ5_newCapacity_0f7a4_4 : decode cJ5_newCapacity_0f7a4 4 = .ok (.arraylength, 1) := by decide +kernel
theorem dJ5_newCapacity_0f7a4_5 : decode cJ5_newCapacity_0f7a4 5 = .ok (.istore_n 2, 1) := by decide +kernel
theorem dJ5_newCapacity_0f7a4_6 : decode cJ5_newCapacity_0f7a4 6 = .ok (.iload_n 1, 1) := by decide +kernel
theorem dJ5_newCapacity_0f7a4_7 : decode cJ5_newCapacity_0f7a4 7 = .ok (.aload_n 0, 1) := by decide +kernel
theorem dJ5_newCapacity_0f7a4_8 : decode cJ5_newCapacity_0f7a4 8 = .ok (.getfield 22, 3) := by decide +kernel
theorem dJ5_newCapacity_0f7a4_11 : decode cJ5_newCapacity_0f7a4 11 = .ok (.ishl, 1) := by decide +kernel
theorem dJ5_newCapacity_0f7a4_12 : decode cJ5_newCapacity_0f7a4 12 = .ok (.istore_n 3, 1) := by decide +kernel
theorem dJ5_newCapacity_0f7a4_13 : decode cJ5_newCapacity_0f7a4 13 = .ok (.iload_n 3, 1) := by decide +kernel
theorem dJ5_newCapacity_0f7a4_14 : decode cJ5_newCapacity_0f7a4 14 = .ok (.iload_n 2, 1) := by decide +kernel
theorem dJ5_newCapacity_0f7a4_15 : decode cJ5_newCapacity_0f7a4 15 = .ok (.isub, 1) := by decide +kernel
theorem dJ5_newCapacity_0f7a4_16 : decode cJ5_newCapacity_0f7a4 16 = .ok (.istore 4, 2) := by decide +kernel
theorem dJ5_newCapacity_0f7a4_18 : decode cJ5_newCapacity_0f7a4 18 = .ok (.iload_n 2, 1) := by decide +kernel
theorem dJ5_newCapacity_0f7a4_19 : decode cJ5_newCapacity_0f7a4 19 = .ok (.iload 4, 2) := by decide +kernel
theorem dJ5_newCapacity_0f7a4_21 : decode cJ5_newCapacity_0f7a4 21 = .ok (.iload_n 2, 1) := by decide +kernel
theorem dJ5_newCapacity_0f7a4_22 : decode cJ5_newCapacity_0f7a4 22 = .ok (.iconst 2, 1) := by decide +kernel
theorem dJ5_newCapacity_0f7a4_23 : decode cJ5_newCapacity_0f7a4 23 = .ok (.aload_n 0, 1) := by decide +kernel
theorem dJ5_newCapacity_0f7a4_24 : decode cJ5_newCapacity_0f7a4 24 = .ok (.getfield 22, 3) := by decide +kernel
theorem dJ5_newCapacity_0f7a4_27 : decode cJ5_newCapacity_0f7a4 27 = .ok (.ishl, 1) := by decide +kernel
theorem dJ5_newCapacity_0f7a4_28 : decode cJ5_newCapacity_0f7a4 28 = .ok (.iadd, 1) := by decide +kernel
theorem dJ5_newCapacity_0f7a4_29 : decode cJ5_newCapacity_0f7a4 29 = .ok (.invokestatic 114, 3) := by decide +kernel
theorem dJ5_newCapacity_0f7a4_32 : decode cJ5_newCapacity_0f7a4 32 = .ok (.istore 5, 2) := by decide +kernel
theorem dJ5_newCapacity_0f7a4_34 : decode cJ5_newCapacity_0f7a4 34 = .ok (.iload 5, 2) := by decide +kernel
theorem dJ5_newCapacity_0f7a4_36 : decode cJ5_newCapacity_0f7a4 36 = .ok (.ldc 39, 2) := by decide +kernel
theorem dJ5_newCapacity_0f7a4_38 : decode cJ5_newCapacity_0f7a4 38 = .ok (.if_icmp .ne 13, 3) := by decide +kernel
theorem dJ5_newCapacity_0f7a4_41 : decode cJ5_newCapacity_0f7a4 41 = .ok (.new 120, 3) := by decide +kernel
theorem dJ5_newCapacity_0f7a4_44 : decode cJ5_newCapacity_0f7a4 44 = .ok (.dup, 1) := by decide +kernel
theorem dJ5_newCapacity_0f7a4_45 : decode cJ5_newCapacity_0f7a4 45 = .ok (.ldc 122, 2) := by decide +kernel
theorem dJ5_newCapacity_0f7a4_47 : decode cJ5_newCapacity_0f7a4 47 = .ok (.invokespecial 124, 3) := by decide +kernel
theorem dJ5_newCapacity_0f7a4_50 : decode cJ5_newCapacity_0f7a4 50 = .ok (.athrow, 1) := by decide +kernel
theorem dJ5_newCapacity_0f7a4_51 : decode cJ5_newCapacity_0f7a4 51 = .ok (.iload 5, 2) := by decide +kernel
theorem dJ5_newCapacity_0f7a4_53 : decode cJ5_newCapacity_0f7a4 53 = .ok (.aload_n 0, 1) := by decide +kernel
theorem dJ5_newCapacity_0f7a4_54 : decode cJ5_newCapacity_0f7a4 54 = .ok (.getfield 22, 3) := by decide +kernel
theorem dJ5_newCapacity_0f7a4_57 : decode cJ5_newCapacity_0f7a4 57 = .ok (.ishr, 1) := by decide +kernel
theorem dJ5_newCapacity_0f7a4_58 : decode cJ5_newCapacity_0f7a4 58 = .ok (.ireturn, 1) := by decide +kernel
theorem dJ5_inflate_da8c8_0 : decode cJ5_inflate_da8c8 0 = .ok (.aload_n 0, 1) := by decide +kernel
theorem dJ5_inflate_da8c8_1 : decode cJ5_inflate_da8c8 1 = .ok (.invokevirtual 83, 3) := by decide +kernel
theorem dJ5_inflate_da8c8_4 : decode cJ5_inflate_da8c8 4 = .ok (.ifCond .ne 4, 3) := by decide +kernel
theorem dJ5_inflate_da8c8_7 : decode cJ5_inflate_da8c8 7 = .ok (.return_, 1) := by decide +kernel
theorem dJ5_inflate_da8c8_8 : decode cJ5_inflate_da8c8 8 = .ok (.aload_n 0, 1) := by decide +kernel
theorem dJ5_inflate_da8c8_9 : decode cJ5_inflate_da8c8 9 = .ok (.getfield 15, 3) := by decide +kernel
theorem dJ5_inflate_da8c8_12 : decode cJ5_inflate_da8c8 12 = .ok (.arraylength, 1) := by decide +kernel
theorem dJ5_inflate_da8c8_13 : decode cJ5_inflate_da8c8 13 = .ok (.invokestatic 26, 3) := by decide +kernel
theorem dJ5_inflate_da8c8_16 : decode cJ5_inflate_da8c8 16 = .ok (.astore_n 1, 1) := by decide +kernel
theorem dJ5_inflate_da8c8_17 : decode cJ5_inflate_da8c8 17 = .ok (.aload_n 0, 1) := by decide +kernel
theorem dJ5_inflate_da8c8_18 : decode cJ5_inflate_da8c8 18 = .ok (.getfield 15, 3) := by decide +kernel
theorem dJ5_inflate_da8c8_21 : decode cJ5_inflate_da8c8 21 = .ok (.iconst 0, 1) := by decide +kernel
theorem dJ5_inflate_da8c8_22 : decode cJ5_inflate_da8c8 22 = .ok (.aload_n 1, 1) := by decide +kernel
theorem dJ5_inflate_da8c8_23 : decode cJ5_inflate_da8c8 23 = .ok (.iconst 0, 1) := by decide +kernel
theorem dJ5_inflate_da8c8_24 : decode cJ5_inflate_da8c8 24 = .ok (.aload_n 0, 1) := by decide +kernel
theorem dJ5_inflate_da8c8_25 : decode cJ5_inflate_da8c8 25 = .ok (.getfield 79, 3) := by decide +kernel
theorem dJ5_inflate_da8c8_28 : decode cJ5_inflate_da8c8 28 = .ok (.invokestatic 125, 3) := by decide +kernel
theorem dJ5_inflate_da8c8_31 : decode cJ5_inflate_da8c8 31 = .ok (.aload_n 0, 1) := by decide +kernel
theorem dJ5_inflate_da8c8_32 : decode cJ5_inflate_da8c8 32 = .ok (.aload_n 1, 1) := by decide +kernel
theorem dJ5_inflate_da8c8_33 : decode cJ5_inflate_da8c8 33 = .ok (.putfield 15, 3) := by decide +kernel
theorem dJ5_inflate_da8c8_36 : decode cJ5_inflate_da8c8 36 = .ok (.aload_n 0, 1) := by decide +kernel
theorem dJ5_inflate_da8c8_37 : decode cJ5_inflate_da8c8 37 = .ok (.iconst 1, 1) := by decide +kernel
theorem dJ5_inflate_da8c8_38 : decode cJ5_inflate_da8c8 38 = .ok (.putfield 22, 3) := by decide +kernel
theorem dJ5_inflate_da8c8_41 : decode cJ5_inflate_da8c8 41 = .ok (.return_, 1) := by decide +kernel
theorem dJ5_setLength_d00df_0 : decode cJ5_setLength_d00df 0 = .ok (.iload_n 1, 1) := by decide +kernel
theorem dJ5_setLength_d00df_1 : decode cJ5_setLength_d00df 1 = .ok (.ifCond .ge 12, 3) := by decide +kernel
theorem dJ5_setLength_d00df_4 : decode cJ5_setLength_d00df 4 = .ok (.new 129, 3) := by decide +kernel
theorem dJ5_setLength_d00df_7 : decode cJ5_setLength_d00df 7 = .ok (.dup, 1) := by decide +kernel
theorem dJ5_setLength_d00df_8 : decode cJ5_setLength_d00df 8 = .ok (.iload_n 1, 1) := by decide +kernel
theorem dJ5_setLength_d00df_9 : decode cJ5_setLength_d00df 9 = .ok (.invokespecial 131, 3) := by decide +kernel
theorem dJ5_setLength_d00df_12 : decode cJ5_setLength_d00df 12 = .ok (.athrow, 1) := by decide +kernel
theorem dJ5_setLength_d00df_13 : decode cJ5_setLength_d00df 13 = .ok (.aload_n 0, 1) := by decide +kernel
theorem dJ5_setLength_d00df_14 : decode cJ5_setLength_d00df 14 = .ok (.iload_n 1, 1) := by decide +kernel
theorem dJ5_setLength_d00df_15 : decode cJ5_setLength_d00df 15 = .ok (.invokevirtual 100, 3) := by decide +kernel
theorem dJ5_setLength_d00df_18 : decode cJ5_setLength_d00df 18 = .ok (.aload_n 0, 1) := by decide +kernel
theorem dJ5_setLength_d00df_19 : decode cJ5_setLength_d00df 19 = .ok (.getfield 79, 3) := by decide +kernel
theorem dJ5_setLength_d00df_22 : decode cJ5_setLength_d00df 22 = .ok (.iload_n 1, 1) := by decide +kernel
theorem dJ5_setLength_d00df_23 : decode cJ5_setLength_d00df 23 = .ok (.if_icmp .ge 40, 3) := by decide +kernel
theorem dJ5_setLength_d00df_26 : decode cJ5_setLength_d00df 26 = .ok (.aload_n 0, 1) := by decide +kernel
theorem dJ5_setLength_d00df_27 : decode cJ5_setLength_d00df 27 = .ok (.invokevirtual 83, 3) := by decide +kernel
theorem dJ5_setLength_d00df_30 : decode cJ5_setLength_d00df 30 = .ok (.ifCond .eq 18, 3) := by decide +kernel
theorem dJ5_setLength_d00df_33 : decode cJ5_setLength_d00df 33 = .ok (.aload_n 0, 1) := by decide +kernel
theorem dJ5_setLength_d00df_34 : decode cJ5_setLength_d00df 34 = .ok (.getfield 15, 3) := by decide +kernel
theorem dJ5_setLength_d00df_37 : decode cJ5_setLength_d00df 37 = .ok (.aload_n 0, 1) := by decide +kernel
theorem dJ5_setLength_d00df_38 : decode cJ5_setLength_d00df 38 = .ok (.getfield 79, 3) := by decide +kernel
theorem dJ5_setLength_d00df_41 : decode cJ5_setLength_d00df 41 = .ok (.iload_n 1, 1) := by decide +kernel
theorem dJ5_setLength_d00df_42 : decode cJ5_setLength_d00df 42 = .ok (.invokestatic 133, 3) := by decide +kernel
theorem dJ5_setLength_d00df_45 : decode cJ5_setLength_d00df 45 = .ok (.goto 31, 3) := by decide +kernel
theorem dJ5_setLength_d00df_48 : decode cJ5_setLength_d00df 48 = .ok (.aload_n 0, 1) := by decide +kernel
theorem dJ5_setLength_d00df_49 : decode cJ5_setLength_d00df 49 = .ok (.getfield 15, 3) := by decide +kernel
theorem dJ5_setLength_d00df_52 : decode cJ5_setLength_d00df 52 = .ok (.aload_n 0, 1) := by decide +kernel
theorem dJ5_setLength_d00df_53 : decode cJ5_setLength_d00df 53 = .ok (.getfield 79, 3) := by decide +kernel
theorem dJ5_setLength_d00df_56 : decode cJ5_setLength_d00df 56 = .ok (.iload_n 1, 1) := by decide +kernel
theorem dJ5_setLength_d00df_57 : decode cJ5_setLength_d00df 57 = .ok (.invokestatic 137, 3) := by decide +kernel
theorem dJ5_setLength_d00df_60 : decode cJ5_setLength_d00df 60 = .ok (.goto 16, 3) := by decide +kernel
theorem dJ5_setLength_d00df_63 : decode cJ5_setLength_d00df 63 = .ok (.aload_n 0, 1) := by decide +kernel
theorem dJ5_setLength_d00df_64 : decode cJ5_setLength_d00df 64 = .ok (.getfield 79, 3) := by decide +kernel
theorem dJ5_setLength_d00df_67 : decode cJ5_setLength_d00df 67 = .ok (.iload_n 1, 1) := by decide +kernel
theorem dJ5_setLength_d00df_68 : decode cJ5_setLength_d00df 68 = .ok (.if_icmp .le 8, 3) := by decide +kernel
theorem dJ5_setLength_d00df_71 : decode cJ5_setLength_d00df 71 = .ok (.aload_n 0, 1) := by decide +kernel
theorem dJ5_setLength_d00df_72 : decode cJ5_setLength_d00df 72 = .ok (.iconst 1, 1) := by decide +kernel
theorem dJ5_setLength_d00df_73 : decode cJ5_setLength_d00df 73 = .ok (.putfield 73, 3) := by decide +kernel
theorem dJ5_setLength_d00df_76 : decode cJ5_setLength_d00df 76 = .ok (.aload_n 0, 1) := by decide +kernel
theorem dJ5_setLength_d00df_77 : decode cJ5_setLength_d00df 77 = .ok (.iload_n 1, 1) := by decide +kernel
theorem dJ5_setLength_d00df_78 : decode cJ5_setLength_d00df 78 = .ok (.putfield 79, 3) := by decide +kernel
theorem dJ5_setLength_d00df_81 : decode cJ5_setLength_d00df 81 = .ok (.return_, 1) := by decide +kernel
theorem dJ5_charAt_5068e_0 : decode cJ5_charAt_5068e 0 = .ok (.aload_n 0, 1) := by decide +kernel
theorem dJ5_charAt_5068e_1 : decode cJ5_charAt_5068e 1 = .ok (.getfield 22, 3) := by decide +kernel
theorem dJ5_charAt_5068e_4 : decode cJ5_charAt_5068e 4 = .ok (.istore_n 2, 1) := by decide +kernel
theorem dJ5_charAt_5068e_5 : decode cJ5_charAt_5068e 5 = .ok (.aload_n 0, 1) := by decide +kernel
theorem dJ5_charAt_5068e_6 : decode cJ5_charAt_5068e 6 = .ok (.getfield 15, 3) := by decide +kernel
theorem dJ5_charAt_5068e_9 : decode cJ5_charAt_5068e 9 = .ok (.astore_n 3, 1) := by decide +kernel
theorem dJ5_charAt_5068e_10 : decode cJ5_charAt_5068e 10 = .ok (.aload_n 0, 1) := by decide +kernel
theorem dJ5_charAt_5068e_11 : decode cJ5_charAt_5068e 11 = .ok (.getfield 79, 3) := by decide +kernel
theorem dJ5_charAt_5068e_14 : decode cJ5_charAt_5068e 14 = .ok (.aload_n 3, 1) := by decide +kernel
theorem dJ5_charAt_5068e_15 : decode cJ5_charAt_5068e 15 = .ok (.arraylength, 1) := by decide +kernel
theorem dJ5_charAt_5068e_16 : decode cJ5_charAt_5068e 16 = .ok (.iload_n 2, 1) := by decide +kernel
theorem dJ5_charAt_5068e_17 : decode cJ5_charAt_5068e 17 = .ok (.ishr, 1) := by decide +kernel
theorem dJ5_charAt_5068e_18 : decode cJ5_charAt_5068e 18 = .ok (.invokestatic 138, 3) := by decide +kernel
theorem dJ5_charAt_5068e_21 : decode cJ5_charAt_5068e 21 = .ok (.istore 4, 2) := by decide +kernel
theorem dJ5_charAt_5068e_23 : decode cJ5_charAt_5068e 23 = .ok (.iload_n 1, 1) := by decide +kernel
theorem dJ5_charAt_5068e_24 : decode cJ5_charAt_5068e 24 = .ok (.iload 4, 2) := by decide +kernel
theorem dJ5_charAt_5068e_26 : decode cJ5_charAt_5068e 26 = .ok (.invokestatic 144, 3) := by decide +kernel
theorem dJ5_charAt_5068e_29 : decode cJ5_charAt_5068e 29 = .ok (.iload_n 2, 1) := by decide +kernel
theorem dJ5_charAt_5068e_30 : decode cJ5_charAt_5068e 30 = .ok (.ifCond .ne 12, 3) := by decide +kernel
theorem dJ5_charAt_5068e_33 : decode cJ5_charAt_5068e 33 = .ok (.aload_n 3, 1) := by decide +kernel
theorem dJ5_charAt_5068e_34 : decode cJ5_charAt_5068e 34 = .ok (.iload_n 1, 1) := by decide +kernel
theorem dJ5_charAt_5068e_35 : decode cJ5_charAt_5068e 35 = .ok (.baload, 1) := by decide +kernel
theorem dJ5_charAt_5068e_36 : decode cJ5_charAt_5068e 36 = .ok (.sipush 255, 3) := by decide +kernel
theorem dJ5_charAt_5068e_39 : decode cJ5_charAt_5068e 39 = .ok (.iand, 1) := by decide +kernel
theorem dJ5_charAt_5068e_40 : decode cJ5_charAt_5068e 40 = .ok (.i2c, 1) := by decide +kernel
theorem dJ5_charAt_5068e_41 : decode cJ5_charAt_5068e 41 = .ok (.ireturn, 1) := by decide +kernel
theorem dJ5_charAt_5068e_42 : decode cJ5_charAt_5068e 42 = .ok (.aload_n 3, 1) := by decide +kernel
theorem dJ5_charAt_5068e_43 : decode cJ5_charAt_5068e 43 = .ok (.iload_n 1, 1) := by decide +kernel
theorem dJ5_charAt_5068e_44 : decode cJ5_charAt_5068e 44 = .ok (.invokestatic 148, 3) := by decide +kernel
theorem dJ5_charAt_5068e_47 : decode cJ5_charAt_5068e 47 = .ok (.ireturn, 1) := by decide +kernel
theorem dJ5_append_cf1ce_0 : decode cJ5_append_cf1ce 0 = .ok (.aload_n 1, 1) := by decide +kernel
theorem dJ5_append_cf1ce_1 : decode cJ5_append_cf1ce 1 = .ok (.ifnonnull 8, 3) := by decide +kernel
theorem dJ5_append_cf1ce_4 : decode cJ5_append_cf1ce 4 = .ok (.aload_n 0, 1) := by decide +kernel
theorem dJ5_append_cf1ce_5 : decode cJ5_append_cf1ce 5 = .ok (.invokevirtual 204, 3) := by decide +kernel
theorem dJ5_append_cf1ce_8 : decode cJ5_append_cf1ce 8 = .ok (.areturn, 1) := by decide +kernel
theorem dJ5_append_cf1ce_9 : decode cJ5_append_cf1ce 9 = .ok (.aload_n 1, 1) := by decide +kernel
theorem dJ5_append_cf1ce_10 : decode cJ5_append_cf1ce 10 = .ok (.invokevirtual 32, 3) := by decide +kernel
theorem dJ5_append_cf1ce_13 : decode cJ5_append_cf1ce 13 = .ok (.istore_n 2, 1) := by decide +kernel
theorem dJ5_append_cf1ce_14 : decode cJ5_append_cf1ce 14 = .ok (.aload_n 0, 1) := by decide +kernel
theorem dJ5_append_cf1ce_15 : decode cJ5_append_cf1ce 15 = .ok (.aload_n 0, 1) := by decide +kernel
theorem dJ5_append_cf1ce_16 : decode cJ5_append_cf1ce 16 = .ok (.getfield 79, 3) := by decide +kernel
theorem dJ5_append_cf1ce_19 : decode cJ5_append_cf1ce 19 = .ok (.iload_n 2, 1) := by decide +kernel
theorem dJ5_append_cf1ce_20 : decode cJ5_append_cf1ce 20 = .ok (.iadd, 1) := by decide +kernel
theorem dJ5_append_cf1ce_21 : decode cJ5_append_cf1ce 21 = .ok (.invokevirtual 100, 3) := by decide +kernel
theorem dJ5_append_cf1ce_24 : decode cJ5_append_cf1ce 24 = .ok (.aload_n 0, 1) := by decide +kernel
theorem dJ5_append_cf1ce_25 : decode cJ5_append_cf1ce 25 = .ok (.aload_n 0, 1) := by decide +kernel
theorem dJ5_append_cf1ce_26 : decode cJ5_append_cf1ce 26 = .ok (.getfield 79, 3) := by decide +kernel
theorem dJ5_append_cf1ce_29 : decode cJ5_append_cf1ce 29 = .ok (.aload_n 1, 1) := by decide +kernel
theorem dJ5_append_cf1ce_30 : decode cJ5_append_cf1ce 30 = .ok (.invokevirtual 208, 3) := by decide +kernel
theorem dJ5_append_cf1ce_33 : decode cJ5_append_cf1ce 33 = .ok (.aload_n 0, 1) := by decide +kernel
theorem dJ5_append_cf1ce_34 : decode cJ5_append_cf1ce 34 = .ok (.dup, 1) := by decide +kernel
theorem dJ5_append_cf1ce_35 : decode cJ5_append_cf1ce 35 = .ok (.getfield 79, 3) := by decide +kernel
theorem dJ5_append_cf1ce_38 : decode cJ5_append_cf1ce 38 = .ok (.iload_n 2, 1) := by decide +kernel
theorem dJ5_append_cf1ce_39 : decode cJ5_append_cf1ce 39 = .ok (.iadd, 1) := by decide +kernel
theorem dJ5_append_cf1ce_40 : decode cJ5_append_cf1ce 40 = .ok (.putfield 79, 3) := by decide +kernel
theorem dJ5_append_cf1ce_43 : decode cJ5_append_cf1ce 43 = .ok (.aload_n 0, 1) := by decide +kernel
theorem dJ5_append_cf1ce_44 : decode cJ5_append_cf1ce 44 = .ok (.areturn, 1) := by decide +kernel
theorem dJ5_appendNull_278bc_0 : decode cJ5_appendNull_278bc 0 = .ok (.aload_n 0, 1) := by decide +kernel
theorem dJ5_appendNull_278bc_1 : decode cJ5_appendNull_278bc 1 = .ok (.aload_n 0, 1) := by decide +kernel
theorem dJ5_appendNull_278bc_2 : decode cJ5_appendNull_278bc 2 = .ok (.getfield 79, 3) := by decide +kernel
theorem dJ5_appendNull_278bc_5 : decode cJ5_appendNull_278bc 5 = .ok (.iconst 4, 1) := by decide +kernel
theorem dJ5_appendNull_278bc_6 : decode cJ5_appendNull_278bc 6 = .ok (.iadd, 1) := by decide +kernel
theorem dJ5_appendNull_278bc_7 : decode cJ5_appendNull_278bc 7 = .ok (.invokevirtual 100, 3) := by decide +kernel
theorem dJ5_appendNull_278bc_10 : decode cJ5_appendNull_278bc 10 = .ok (.aload_n 0, 1) := by decide +kernel
theorem dJ5_appendNull_278bc_11 : decode cJ5_appendNull_278bc 11 = .ok (.getfield 79, 3) := by decide +kernel
theorem dJ5_appendNull_278bc_14 : decode cJ5_appendNull_278bc 14 = .ok (.istore_n 1, 1) := by decide +kernel
theorem dJ5_appendNull_278bc_15 : decode cJ5_appendNull_278bc 15 = .ok (.aload_n 0, 1) := by decide +kernel
theorem dJ5_appendNull_278bc_16 : decode cJ5_appendNull_278bc 16 = .ok (.getfield 15, 3) := by decide +kernel
theorem dJ5_appendNull_278bc_19 : decode cJ5_appendNull_278bc 19 = .ok (.astore_n 2, 1) := by decide +kernel
theorem dJ5_appendNull_278bc_20 : decode cJ5_appendNull_278bc 20 = .ok (.aload_n 0, 1) := by decide +kernel
theorem dJ5_appendNull_278bc_21 : decode cJ5_appendNull_278bc 21 = .ok (.invokevirtual 83, 3) := by decide +kernel
theorem dJ5_appendNull_278bc_24 : decode cJ5_appendNull_278bc 24 = .ok (.ifCond .eq 38, 3) := by decide +kernel
theorem dJ5_appendNull_278bc_27 : decode cJ5_appendNull_278bc 27 = .ok (.aload_n 2, 1) := by decide +kernel
theorem dJ5_appendNull_278bc_28 : decode cJ5_appendNull_278bc 28 = .ok (.iload_n 1, 1) := by decide +kernel
theorem dJ5_appendNull_278bc_29 : decode cJ5_appendNull_278bc 29 = .ok (.iinc 1 1, 3) := by decide +kernel
theorem dJ5_appendNull_278bc_32 : decode cJ5_appendNull_278bc 32 = .ok (.bipush 110, 2) := by decide +kernel
theorem dJ5_appendNull_278bc_34 : decode cJ5_appendNull_278bc 34 = .ok (.bastore, 1) := by decide +kernel
theorem dJ5_appendNull_278bc_35 : decode cJ5_appendNull_278bc 35 = .ok (.aload_n 2, 1) := by decide +kernel
theorem dJ5_appendNull_278bc_36 : decode cJ5_appendNull_278bc 36 = .ok (.iload_n 1, 1) := by decide +kernel
theorem dJ5_appendNull_278bc_37 : decode cJ5_appendNull_278bc 37 = .ok (.iinc 1 1, 3) := by decide +kernel
theorem dJ5_appendNull_278bc_40 : decode cJ5_appendNull_278bc 40 = .ok (.bipush 117, 2) := by decide +kernel
theorem dJ5_appendNull_278bc_42 : decode cJ5_appendNull_278bc 42 = .ok (.bastore, 1) := by decide +kernel
theorem dJ5_appendNull_278bc_43 : decode cJ5_appendNull_278bc 43 = .ok (.aload_n 2, 1) := by decide +kernel
theorem dJ5_appendNull_278bc_44 : decode cJ5_appendNull_278bc 44 = .ok (.iload_n 1, 1) := by decide +kernel
theorem dJ5_appendNull_278bc_45 : decode cJ5_appendNull_278bc 45 = .ok (.iinc 1 1, 3) := by decide +kernel
theorem dJ5_appendNull_278bc_48 : decode cJ5_appendNull_278bc 48 = .ok (.bipush 108, 2) := by decide +kernel
theorem dJ5_appendNull_278bc_50 : decode cJ5_appendNull_278bc 50 = .ok (.bastore, 1) := by decide +kernel
theorem dJ5_appendNull_278bc_51 : decode cJ5_appendNull_278bc 51 = .ok (.aload_n 2, 1) := by decide +kernel
theorem dJ5_appendNull_278bc_52 : decode cJ5_appendNull_278bc 52 = .ok (.iload_n 1, 1) := by decide +kernel
theorem dJ5_appendNull_278bc_53 : decode cJ5_appendNull_278bc 53 = .ok (.iinc 1 1, 3) := by decide +kernel
theorem dJ5_appendNull_278bc_56 : decode cJ5_appendNull_278bc 56 = .ok (.bipush 108, 2) := by decide +kernel
theorem dJ5_appendNull_278bc_58 : decode cJ5_appendNull_278bc 58 = .ok (.bastore, 1) := by decide +kernel
theorem dJ5_appendNull_278bc_59 : decode cJ5_appendNull_278bc 59 = .ok (.goto 17, 3) := by decide +kernel
theorem dJ5_appendNull_278bc_62 : decode cJ5_appendNull_278bc 62 = .ok (.aload_n 2, 1) := by decide +kernel
theorem dJ5_appendNull_278bc_63 : decode cJ5_appendNull_278bc 63 = .ok (.iload_n 1, 1) := by decide +kernel
theorem dJ5_appendNull_278bc_64 : decode cJ5_appendNull_278bc 64 = .ok (.bipush 110, 2) := by decide +kernel
theorem dJ5_appendNull_278bc_66 : decode cJ5_appendNull_278bc 66 = .ok (.bipush 117, 2) := by decide +kernel
theorem dJ5_appendNull_278bc_68 : decode cJ5_appendNull_278bc 68 = .ok (.bipush 108, 2) := by decide +kernel
theorem dJ5_appendNull_278bc_70 : decode cJ5_appendNull_278bc 70 = .ok (.bipush 108, 2) := by decide +kernel
theorem dJ5_appendNull_278bc_72 : decode cJ5_appendNull_278bc 72 = .ok (.invokestatic 226, 3) := by decide +kernel
theorem dJ5_appendNull_278bc_75 : decode cJ5_appendNull_278bc 75 = .ok (.istore_n 1, 1) := by decide +kernel
theorem dJ5_appendNull_278bc_76 : decode cJ5_appendNull_278bc 76 = .ok (.aload_n 0, 1) := by decide +kernel
theorem dJ5_appendNull_278bc_77 : decode cJ5_appendNull_278bc 77 = .ok (.iload_n 1, 1) := by decide +kernel
theorem dJ5_appendNull_278bc_78 : decode cJ5_appendNull_278bc 78 = .ok (.putfield 79, 3) := by decide +kernel
theorem dJ5_appendNull_278bc_81 : decode cJ5_appendNull_278bc 81 = .ok (.aload_n 0, 1) := by decide +kernel
theorem dJ5_appendNull_278bc_82 : decode cJ5_appendNull_278bc 82 = .ok (.areturn, 1) := by decide +kernel
theorem dJ5_append_3fe6f_0 : decode cJ5_append_3fe6f 0 = .ok (.aload_n 0, 1) := by decide +kernel
theorem dJ5_append_3fe6f_1 : decode cJ5_append_3fe6f 1 = .ok (.aload_n 0, 1) := by decide +kernel
theorem dJ5_append_3fe6f_2 : decode cJ5_append_3fe6f 2 = .ok (.getfield 79, 3) := by decide +kernel
theorem dJ5_append_3fe6f_5 : decode cJ5_append_3fe6f 5 = .ok (.iconst 1, 1) := by decide +kernel
theorem dJ5_append_3fe6f_6 : decode cJ5_append_3fe6f 6 = .ok (.iadd, 1) := by decide +kernel
theorem dJ5_append_3fe6f_7 : decode cJ5_append_3fe6f 7 = .ok (.invokevirtual 100, 3) := by decide +kernel
theorem dJ5_append_3fe6f_10 : decode cJ5_append_3fe6f 10 = .ok (.aload_n 0, 1) := by decide +kernel
theorem dJ5_append_3fe6f_11 : decode cJ5_append_3fe6f 11 = .ok (.invokevirtual 83, 3) := by decide +kernel
theorem dJ5_append_3fe6f_14 : decode cJ5_append_3fe6f 14 = .ok (.ifCond .eq 31, 3) := by decide +kernel
theorem dJ5_append_3fe6f_17 : decode cJ5_append_3fe6f 17 = .ok (.iload_n 1, 1) := by decide +kernel
theorem dJ5_append_3fe6f_18 : decode cJ5_append_3fe6f 18 = .ok (.invokestatic 191, 3) := by decide +kernel
theorem dJ5_append_3fe6f_21 : decode cJ5_append_3fe6f 21 = .ok (.ifCond .eq 24, 3) := by decide +kernel
theorem dJ5_append_3fe6f_24 : decode cJ5_append_3fe6f 24 = .ok (.aload_n 0, 1) := by decide +kernel
theorem dJ5_append_3fe6f_25 : decode cJ5_append_3fe6f 25 = .ok (.getfield 15, 3) := by decide +kernel
theorem dJ5_append_3fe6f_28 : decode cJ5_append_3fe6f 28 = .ok (.aload_n 0, 1) := by decide +kernel
theorem dJ5_append_3fe6f_29 : decode cJ5_append_3fe6f 29 = .ok (.dup, 1) := by decide +kernel
theorem dJ5_append_3fe6f_30 : decode cJ5_append_3fe6f 30 = .ok (.getfield 79, 3) := by decide +kernel
theorem dJ5_append_3fe6f_33 : decode cJ5_append_3fe6f 33 = .ok (.dup_x1, 1) := by decide +kernel
theorem dJ5_append_3fe6f_34 : decode cJ5_append_3fe6f 34 = .ok (.iconst 1, 1) := by decide +kernel
theorem dJ5_append_3fe6f_35 : decode cJ5_append_3fe6f 35 = .ok (.iadd, 1) := by decide +kernel
theorem dJ5_append_3fe6f_36 : decode cJ5_append_3fe6f 36 = .ok (.putfield 79, 3) := by decide +kernel
theorem dJ5_append_3fe6f_39 : decode cJ5_append_3fe6f 39 = .ok (.iload_n 1, 1) := by decide +kernel
theorem dJ5_append_3fe6f_40 : decode cJ5_append_3fe6f 40 = .ok (.i2b, 1) := by decide +kernel
theorem dJ5_append_3fe6f_41 : decode cJ5_append_3fe6f 41 = .ok (.bastore, 1) := by decide +kernel
theorem dJ5_append_3fe6f_42 : decode cJ5_append_3fe6f 42 = .ok (.goto 33, 3) := by decide +kernel
theorem dJ5_append_3fe6f_45 : decode cJ5_append_3fe6f 45 = .ok (.aload_n 0, 1) := by decide +kernel
theorem dJ5_append_3fe6f_46 : decode cJ5_append_3fe6f 46 = .ok (.invokevirtual 83, 3) := by decide +kernel
theorem dJ5_append_3fe6f_49 : decode cJ5_append_3fe6f 49 = .ok (.ifCond .eq 7, 3) := by decide +kernel
theorem dJ5_append_3fe6f_52 : decode cJ5_append_3fe6f 52 = .ok (.aload_n 0, 1) := by decide +kernel
theorem dJ5_append_3fe6f_53 : decode cJ5_append_3fe6f 53 = .ok (.invokevirtual 195, 3) := by decide +kernel
theorem dJ5_append_3fe6f_56 : decode cJ5_append_3fe6f 56 = .ok (.aload_n 0, 1) := by decide +kernel
theorem dJ5_append_3fe6f_57 : decode cJ5_append_3fe6f 57 = .ok (.getfield 15, 3) := by decide +kernel
theorem dJ5_append_3fe6f_60 : decode cJ5_append_3fe6f 60 = .ok (.aload_n 0, 1) := by decide +kernel
theorem dJ5_append_3fe6f_61 : decode cJ5_append_3fe6f 61 = .ok (.dup, 1) := by decide +kernel
theorem dJ5_append_3fe6f_62 : decode cJ5_append_3fe6f 62 = .ok (.getfield 79, 3) := by decide +kernel
theorem dJ5_append_3fe6f_65 : decode cJ5_append_3fe6f 65 = .ok (.dup_x1, 1) := by decide +kernel
theorem dJ5_append_3fe6f_66 : decode cJ5_append_3fe6f 66 = .ok (.iconst 1, 1) := by decide +kernel
theorem dJ5_append_3fe6f_67 : decode cJ5_append_3fe6f 67 = .ok (.iadd, 1) := by decide +kernel
theorem dJ5_append_3fe6f_68 : decode cJ5_append_3fe6f 68 = .ok (.putfield 79, 3) := by decide +kernel
theorem dJ5_append_3fe6f_71 : decode cJ5_append_3fe6f 71 = .ok (.iload_n 1, 1) := by decide +kernel
theorem dJ5_append_3fe6f_72 : decode cJ5_append_3fe6f 72 = .ok (.invokestatic 197, 3) := by decide +kernel
theorem dJ5_append_3fe6f_75 : decode cJ5_append_3fe6f 75 = .ok (.aload_n 0, 1) := by decide +kernel
theorem dJ5_append_3fe6f_76 : decode cJ5_append_3fe6f 76 = .ok (.areturn, 1) := by decide +kernel
theorem dJ5_append_c97b9_0 : decode cJ5_append_c97b9 0 = .ok (.aload_n 0, 1) := by decide +kernel
theorem dJ5_append_c97b9_1 : decode cJ5_append_c97b9 1 = .ok (.getfield 79, 3) := by decide +kernel
theorem dJ5_append_c97b9_4 : decode cJ5_append_c97b9 4 = .ok (.istore_n 2, 1) := by decide +kernel
theorem dJ5_append_c97b9_5 : decode cJ5_append_c97b9 5 = .ok (.iload_n 2, 1) := by decide +kernel
theorem dJ5_append_c97b9_6 : decode cJ5_append_c97b9 6 = .ok (.iload_n 1, 1) := by decide +kernel
theorem dJ5_append_c97b9_7 : decode cJ5_append_c97b9 7 = .ok (.invokestatic 245, 3) := by decide +kernel
theorem dJ5_append_c97b9_10 : decode cJ5_append_c97b9 10 = .ok (.iadd, 1) := by decide +kernel
theorem dJ5_append_c97b9_11 : decode cJ5_append_c97b9 11 = .ok (.istore_n 3, 1) := by decide +kernel
theorem dJ5_append_c97b9_12 : decode cJ5_append_c97b9 12 = .ok (.aload_n 0, 1) := by decide +kernel
theorem dJ5_append_c97b9_13 : decode cJ5_append_c97b9 13 = .ok (.iload_n 3, 1) := by decide +kernel
theorem dJ5_append_c97b9_14 : decode cJ5_append_c97b9 14 = .ok (.invokevirtual 100, 3) := by decide +kernel
theorem dJ5_append_c97b9_17 : decode cJ5_append_c97b9 17 = .ok (.aload_n 0, 1) := by decide +kernel
theorem dJ5_append_c97b9_18 : decode cJ5_append_c97b9 18 = .ok (.invokevirtual 83, 3) := by decide +kernel
theorem dJ5_append_c97b9_21 : decode cJ5_append_c97b9 21 = .ok (.ifCond .eq 16, 3) := by decide +kernel
theorem dJ5_append_c97b9_24 : decode cJ5_append_c97b9 24 = .ok (.iload_n 1, 1) := by decide +kernel
theorem dJ5_append_c97b9_25 : decode cJ5_append_c97b9 25 = .ok (.iload_n 3, 1) := by decide +kernel
theorem dJ5_append_c97b9_26 : decode cJ5_append_c97b9 26 = .ok (.aload_n 0, 1) := by decide +kernel
theorem dJ5_append_c97b9_27 : decode cJ5_append_c97b9 27 = .ok (.getfield 15, 3) := by decide +kernel
theorem dJ5_append_c97b9_30 : decode cJ5_append_c97b9 30 = .ok (.invokestatic 248, 3) := by decide +kernel
theorem dJ5_append_c97b9_33 : decode cJ5_append_c97b9 33 = .ok (.pop, 1) := by decide +kernel
theorem dJ5_append_c97b9_34 : decode cJ5_append_c97b9 34 = .ok (.goto 14, 3) := by decide +kernel
theorem dJ5_append_c97b9_37 : decode cJ5_append_c97b9 37 = .ok (.iload_n 1, 1) := by decide +kernel
theorem dJ5_append_c97b9_38 : decode cJ5_append_c97b9 38 = .ok (.iload_n 2, 1) := by decide +kernel
theorem dJ5_append_c97b9_39 : decode cJ5_append_c97b9 39 = .ok (.iload_n 3, 1) := by decide +kernel
theorem dJ5_append_c97b9_40 : decode cJ5_append_c97b9 40 = .ok (.aload_n 0, 1) := by decide +kernel
theorem dJ5_append_c97b9_41 : decode cJ5_append_c97b9 41 = .ok (.getfield 15, 3) := by decide +kernel
theorem dJ5_append_c97b9_44 : decode cJ5_append_c97b9 44 = .ok (.invokestatic 251, 3) := by decide +kernel
theorem dJ5_append_c97b9_47 : decode cJ5_append_c97b9 47 = .ok (.pop, 1) := by decide +kernel
theorem dJ5_append_c97b9_48 : decode cJ5_append_c97b9 48 = .ok (.aload_n 0, 1) := by decide +kernel
theorem dJ5_append_c97b9_49 : decode cJ5_append_c97b9 49 = .ok (.iload_n 3, 1) := by decide +kernel
theorem dJ5_append_c97b9_50 : decode cJ5_append_c97b9 50 = .ok (.putfield 79, 3) := by decide +kernel
theorem dJ5_append_c97b9_53 : decode cJ5_append_c97b9 53 = .ok (.aload_n 0, 1) := by decide +kernel
theorem dJ5_append_c97b9_54 : decode cJ5_append_c97b9 54 = .ok (.areturn, 1) := by decide +kernel
theorem dJ5_getValue_6d5f1_0 : decode cJ5_getValue_6d5f1 0 = .ok (.aload_n 0, 1) := by decide +kernel
theorem dJ5_getValue_6d5f1_1 : decode cJ5_getValue_6d5f1 1 = .ok (.getfield 15, 3) := by decide +kernel
theorem dJ5_getValue_6d5f1_4 : decode cJ5_getValue_6d5f1 4 = .ok (.areturn, 1) := by decide +kernel
theorem dJ5_isLatin1_aae02_0 : decode cJ5_isLatin1_aae02 0 = .ok (.getstatic 18, 3) := by decide +kernel
theorem dJ5_isLatin1_aae02_3 : decode cJ5_isLatin1_aae02 3 = .ok (.ifCond .eq 14, 3) := by decide +kernel
theorem dJ5_isLatin1_aae02_6 : decode cJ5_isLatin1_aae02 6 = .ok (.aload_n 0, 1) := by decide +kernel
theorem dJ5_isLatin1_aae02_7 : decode cJ5_isLatin1_aae02 7 = .ok (.getfield 22, 3) := by decide +kernel
theorem dJ5_isLatin1_aae02_10 : decode cJ5_isLatin1_aae02 10 = .ok (.ifCond .ne 7, 3) := by decide +kernel
theorem dJ5_isLatin1_aae02_13 : decode cJ5_isLatin1_aae02 13 = .ok (.iconst 1, 1) := by decide +kernel
theorem dJ5_isLatin1_aae02_14 : decode cJ5_isLatin1_aae02 14 = .ok (.goto 4, 3) := by decide +kernel
theorem dJ5_isLatin1_aae02_17 : decode cJ5_isLatin1_aae02 17 = .ok (.iconst 0, 1) := by decide +kernel
theorem dJ5_isLatin1_aae02_18 : decode cJ5_isLatin1_aae02 18 = .ok (.ireturn, 1) := by decide +kernel
theorem dJ5_inflateIfNeededFor_a7421_0 : decode cJ5_inflateIfNeededFor_a7421 0 = .ok (.getstatic 18, 3) := by decide +kernel
theorem dJ5_inflateIfNeededFor_a7421_3 : decode cJ5_inflateIfNeededFor_a7421 3 = .ok (.ifCond .eq 18, 3) := by decide +kernel
theorem dJ5_inflateIfNeededFor_a7421_6 : decode cJ5_inflateIfNeededFor_a7421 6 = .ok (.aload_n 0, 1) := by decide +kernel
theorem dJ5_inflateIfNeededFor_a7421_7 : decode cJ5_inflateIfNeededFor_a7421 7 = .ok (.getfield 22, 3) := by decide +kernel
theorem dJ5_inflateIfNeededFor_a7421_10 : decode cJ5_inflateIfNeededFor_a7421 10 = .ok (.aload_n 1, 1) := by decide +kernel
theorem dJ5_inflateIfNeededFor_a7421_11 : decode cJ5_inflateIfNeededFor_a7421 11 = .ok (.invokevirtual 40, 3) := by decide +kernel
theorem dJ5_inflateIfNeededFor_a7421_14 : decode cJ5_inflateIfNeededFor_a7421 14 = .ok (.if_icmp .eq 7, 3) := by decide +kernel
theorem dJ5_inflateIfNeededFor_a7421_17 : decode cJ5_inflateIfNeededFor_a7421 17 = .ok (.aload_n 0, 1) := by decide +kernel
theorem dJ5_inflateIfNeededFor_a7421_18 : decode cJ5_inflateIfNeededFor_a7421 18 = .ok (.invokevirtual 195, 3) := by decide +kernel
theorem dJ5_inflateIfNeededFor_a7421_21 : decode cJ5_inflateIfNeededFor_a7421 21 = .ok (.return_, 1) := by decide +kernel
theorem dJ5_putStringAt_47b60_0 : decode cJ5_putStringAt_47b60 0 = .ok (.aload_n 0, 1) := by decide +kernel
theorem dJ5_putStringAt_47b60_1 : decode cJ5_putStringAt_47b60 1 = .ok (.aload_n 2, 1) := by decide +kernel
theorem dJ5_putStringAt_47b60_2 : decode cJ5_putStringAt_47b60 2 = .ok (.invokevirtual 397, 3) := by decide +kernel
theorem dJ5_putStringAt_47b60_5 : decode cJ5_putStringAt_47b60 5 = .ok (.aload_n 2, 1) := by decide +kernel
theorem dJ5_putStringAt_47b60_6 : decode cJ5_putStringAt_47b60 6 = .ok (.aload_n 0, 1) := by decide +kernel
theorem dJ5_putStringAt_47b60_7 : decode cJ5_putStringAt_47b60 7 = .ok (.getfield 15, 3) := by decide +kernel
theorem dJ5_putStringAt_47b60_10 : decode cJ5_putStringAt_47b60 10 = .ok (.iload_n 1, 1) := by decide +kernel
theorem dJ5_putStringAt_47b60_11 : decode cJ5_putStringAt_47b60 11 = .ok (.aload_n 0, 1) := by decide +kernel
theorem dJ5_putStringAt_47b60_12 : decode cJ5_putStringAt_47b60 12 = .ok (.getfield 22, 3) := by decide +kernel
theorem dJ5_putStringAt_47b60_15 : decode cJ5_putStringAt_47b60 15 = .ok (.invokevirtual 399, 3) := by decide +kernel
theorem dJ5_putStringAt_47b60_18 : decode cJ5_putStringAt_47b60 18 = .ok (.return_, 1) := by decide +kernel
theorem dJx00060_init_a7421_0 : decode cJx00060_init_a7421 0 = .ok (.aload_n 0, 1) := by decide +kernel
theorem dJx00060_init_a7421_1 : decode cJx00060_init_a7421 1 = .ok (.aload_n 1, 1) := by decide +kernel
theorem dJx00060_init_a7421_2 : decode cJx00060_init_a7421 2 = .ok (.invokespecial 7, 3) := by decide +kernel
theorem dJx00060_init_a7421_5 : decode cJx00060_init_a7421 5 = .ok (.return_, 1) := by decide +kernel
theorem dJx00060_init_d00df_0 : decode cJx00060_init_d00df 0 = .ok (.aload_n 0, 1) := by decide +kernel
theorem dJx00060_init_d00df_1 : decode cJx00060_init_d00df 1 = .ok (.new 10, 3) := by decide +kernel
theorem dJx00060_init_d00df_4 : decode cJx00060_init_d00df 4 = .ok (.dup, 1) := by decide +kernel
theorem dJx00060_init_d00df_5 : decode cJx00060_init_d00df 5 = .ok (.invokespecial 12, 3) := by decide +kernel
theorem dJx00060_init_d00df_8 : decode cJx00060_init_d00df 8 = .ok (.ldc 13, 2) := by decide +kernel
theorem dJx00060_init_d00df_10 : decode cJx00060_init_d00df 10 = .ok (.invokevirtual 15, 3) := by decide +kernel
theorem dJx00060_init_d00df_13 : decode cJx00060_init_d00df 13 = .ok (.iload_n 1, 1) := by decide +kernel
theorem dJx00060_init_d00df_14 : decode cJx00060_init_d00df 14 = .ok (.invokevirtual 19, 3) := by decide +kernel
theorem dJx00060_init_d00df_17 : decode cJx00060_init_d00df 17 = .ok (.invokevirtual 22, 3) := by decide +kernel
theorem dJx00060_init_d00df_20 : decode cJx00060_init_d00df 20 = .ok (.invokespecial 7, 3) := by decide +kernel
theorem dJx00060_init_d00df_23 : decode cJx00060_init_d00df 23 = .ok (.return_, 1) := by decide +kernel
theorem dJx29ce0_ordinal_8abf5_0 : decode cJx29ce0_ordinal_8abf5 0 = .ok (.aload_n 0, 1) := by decide +kernel
theorem dJx29ce0_ordinal_8abf5_1 : decode cJx29ce0_ordinal_8abf5 1 = .ok (.getfield 7, 3) := by decide +kernel
theorem dJx29ce0_ordinal_8abf5_4 : decode cJx29ce0_ordinal_8abf5 4 = .ok (.ireturn, 1) := by decide +kernel
theorem dJ6_getChars_ba4f3_0 : decode cJ6_getChars_ba4f3 0 = .ok (.iload_n 1, 1) := by decide +kernel
theorem dJ6_getChars_ba4f3_1 : decode cJ6_getChars_ba4f3 1 = .ok (.istore 5, 2) := by decide +kernel
theorem dJ6_getChars_ba4f3_3 : decode cJ6_getChars_ba4f3 3 = .ok (.iload_n 0, 1) := by decide +kernel
theorem dJ6_getChars_ba4f3_4 : decode cJ6_getChars_ba4f3 4 = .ok (.ifCond .ge 7, 3) := by decide +kernel
theorem dJ6_getChars_ba4f3_7 : decode cJ6_getChars_ba4f3 7 = .ok (.iconst 1, 1) := by decide +kernel
theorem dJ6_getChars_ba4f3_8 : decode cJ6_getChars_ba4f3 8 = .ok (.goto 4, 3) := by decide +kernel
theorem dJ6_getChars_ba4f3_11 : decode cJ6_getChars_ba4f3 11 = .ok (.iconst 0, 1) := by decide +kernel
theorem dJ6_getChars_ba4f3_12 : decode cJ6_getChars_ba4f3 12 = .ok (.istore 6, 2) := by decide +kernel
theorem dJ6_getChars_ba4f3_14 : decode cJ6_getChars_ba4f3 14 = .ok (.iload 6, 2) := by decide +kernel
theorem dJ6_getChars_ba4f3_16 : decode cJ6_getChars_ba4f3 16 = .ok (.ifCond .ne 6, 3) := by decide +kernel
theorem dJ6_getChars_ba4f3_19 : decode cJ6_getChars_ba4f3 19 = .ok (.iload_n 0, 1) := by decide +kernel
theorem dJ6_getChars_ba4f3_20 : decode cJ6_getChars_ba4f3 20 = .ok (.ineg, 1) := by decide +kernel
theorem dJ6_getChars_ba4f3_21 : decode cJ6_getChars_ba4f3 21 = .ok (.istore_n 0, 1) := by decide +kernel
theorem dJ6_getChars_ba4f3_22 : decode cJ6_getChars_ba4f3 22 = .ok (.iload_n 0, 1) := by decide +kernel
theorem dJ6_getChars_ba4f3_23 : decode cJ6_getChars_ba4f3 23 = .ok (.bipush (-100), 2) := by decide +kernel
theorem dJ6_getChars_ba4f3_25 : decode cJ6_getChars_ba4f3 25 = .ok (.if_icmp .gt 47, 3) := by decide +kernel
theorem dJ6_getChars_ba4f3_28 : decode cJ6_getChars_ba4f3 28 = .ok (.iload_n 0, 1) := by decide +kernel
theorem dJ6_getChars_ba4f3_29 : decode cJ6_getChars_ba4f3 29 = .ok (.bipush 100, 2) := by decide +kernel
theorem dJ6_getChars_ba4f3_31 : decode cJ6_getChars_ba4f3 31 = .ok (.idiv, 1) := by decide +kernel
theorem dJ6_getChars_ba4f3_32 : decode cJ6_getChars_ba4f3 32 = .ok (.istore_n 3, 1) := by decide +kernel
theorem dJ6_getChars_ba4f3_33 : decode cJ6_getChars_ba4f3 33 = .ok (.iload_n 3, 1) := by decide +kernel
theorem dJ6_getChars_ba4f3_34 : decode cJ6_getChars_ba4f3 34 = .ok (.bipush 100, 2) := by decide +kernel
theorem dJ6_getChars_ba4f3_36 : decode cJ6_getChars_ba4f3 36 = .ok (.imul, 1) := by decide +kernel
theorem dJ6_getChars_ba4f3_37 : decode cJ6_getChars_ba4f3 37 = .ok (.iload_n 0, 1) := by decide +kernel
theorem dJ6_getChars_ba4f3_38 : decode cJ6_getChars_ba4f3 38 = .ok (.isub, 1) := by decide +kernel
theorem dJ6_getChars_ba4f3_39 : decode cJ6_getChars_ba4f3 39 = .ok (.istore 4, 2) := by decide +kernel
theorem dJ6_getChars_ba4f3_41 : decode cJ6_getChars_ba4f3 41 = .ok (.iload_n 3, 1) := by decide +kernel
theorem dJ6_getChars_ba4f3_42 : decode cJ6_getChars_ba4f3 42 = .ok (.istore_n 0, 1) := by decide +kernel
theorem dJ6_getChars_ba4f3_43 : decode cJ6_getChars_ba4f3 43 = .ok (.aload_n 2, 1) := by decide +kernel
theorem dJ6_getChars_ba4f3_44 : decode cJ6_getChars_ba4f3 44 = .ok (.iinc 5 (-1), 3) := by decide +kernel
theorem dJ6_getChars_ba4f3_47 : decode cJ6_getChars_ba4f3 47 = .ok (.iload 5, 2) := by decide +kernel
theorem dJ6_getChars_ba4f3_49 : decode cJ6_getChars_ba4f3 49 = .ok (.getstatic 83, 3) := by decide +kernel
theorem dJ6_getChars_ba4f3_52 : decode cJ6_getChars_ba4f3 52 = .ok (.iload 4, 2) := by decide +kernel
theorem dJ6_getChars_ba4f3_54 : decode cJ6_getChars_ba4f3 54 = .ok (.baload, 1) := by decide +kernel
theorem dJ6_getChars_ba4f3_55 : decode cJ6_getChars_ba4f3 55 = .ok (.bastore, 1) := by decide +kernel
theorem dJ6_getChars_ba4f3_56 : decode cJ6_getChars_ba4f3 56 = .ok (.aload_n 2, 1) := by decide +kernel
theorem dJ6_getChars_ba4f3_57 : decode cJ6_getChars_ba4f3 57 = .ok (.iinc 5 (-1), 3) := by decide +kernel
theorem dJ6_getChars_ba4f3_60 : decode cJ6_getChars_ba4f3 60 = .ok (.iload 5, 2) := by decide +kernel
theorem dJ6_getChars_ba4f3_62 : decode cJ6_getChars_ba4f3 62 = .ok (.getstatic 87, 3) := by decide +kernel
theorem dJ6_getChars_ba4f3_65 : decode cJ6_getChars_ba4f3 65 = .ok (.iload 4, 2) := by decide +kernel
theorem dJ6_getChars_ba4f3_67 : decode cJ6_getChars_ba4f3 67 = .ok (.baload, 1) := by decide +kernel
theorem dJ6_getChars_ba4f3_68 : decode cJ6_getChars_ba4f3 68 = .ok (.bastore, 1) := by decide +kernel
theorem dJ6_getChars_ba4f3_69 : decode cJ6_getChars_ba4f3 69 = .ok (.goto (-47), 3) := by decide +kernel
theorem dJ6_getChars_ba4f3_72 : decode cJ6_getChars_ba4f3 72 = .ok (.aload_n 2, 1) := by decide +kernel
theorem dJ6_getChars_ba4f3_73 : decode cJ6_getChars_ba4f3 73 = .ok (.iinc 5 (-1), 3) := by decide +kernel
theorem dJ6_getChars_ba4f3_76 : decode cJ6_getChars_ba4f3 76 = .ok (.iload 5, 2) := by decide +kernel
theorem dJ6_getChars_ba4f3_78 : decode cJ6_getChars_ba4f3 78 = .ok (.getstatic 83, 3) := by decide +kernel
theorem dJ6_getChars_ba4f3_81 : decode cJ6_getChars_ba4f3 81 = .ok (.iload_n 0, 1) := by decide +kernel
theorem dJ6_getChars_ba4f3_82 : decode cJ6_getChars_ba4f3 82 = .ok (.ineg, 1) := by decide +kernel
theorem dJ6_getChars_ba4f3_83 : decode cJ6_getChars_ba4f3 83 = .ok (.baload, 1) := by decide +kernel
theorem dJ6_getChars_ba4f3_84 : decode cJ6_getChars_ba4f3 84 = .ok (.bastore, 1) := by decide +kernel
theorem dJ6_getChars_ba4f3_85 : decode cJ6_getChars_ba4f3 85 = .ok (.iload_n 0, 1) := by decide +kernel
theorem dJ6_getChars_ba4f3_86 : decode cJ6_getChars_ba4f3 86 = .ok (.bipush (-9), 2) := by decide +kernel
theorem dJ6_getChars_ba4f3_88 : decode cJ6_getChars_ba4f3 88 = .ok (.if_icmp .ge 16, 3) := by decide +kernel
theorem dJ6_getChars_ba4f3_91 : decode cJ6_getChars_ba4f3 91 = .ok (.aload_n 2, 1) := by decide +kernel
theorem dJ6_getChars_ba4f3_92 : decode cJ6_getChars_ba4f3 92 = .ok (.iinc 5 (-1), 3) := by decide +kernel
theorem dJ6_getChars_ba4f3_95 : decode cJ6_getChars_ba4f3 95 = .ok (.iload 5, 2) := by decide +kernel
theorem dJ6_getChars_ba4f3_97 : decode cJ6_getChars_ba4f3 97 = .ok (.getstatic 87, 3) := by decide +kernel
theorem dJ6_getChars_ba4f3_100 : decode cJ6_getChars_ba4f3 100 = .ok (.iload_n 0, 1) := by decide +kernel
theorem dJ6_getChars_ba4f3_101 : decode cJ6_getChars_ba4f3 101 = .ok (.ineg, 1) := by decide +kernel
theorem dJ6_getChars_ba4f3_102 : decode cJ6_getChars_ba4f3 102 = .ok (.baload, 1) := by decide +kernel
theorem dJ6_getChars_ba4f3_103 : decode cJ6_getChars_ba4f3 103 = .ok (.bastore, 1) := by decide +kernel
theorem dJ6_getChars_ba4f3_104 : decode cJ6_getChars_ba4f3 104 = .ok (.iload 6, 2) := by decide +kernel
theorem dJ6_getChars_ba4f3_106 : decode cJ6_getChars_ba4f3 106 = .ok (.ifCond .eq 12, 3) := by decide +kernel
theorem dJ6_getChars_ba4f3_109 : decode cJ6_getChars_ba4f3 109 = .ok (.aload_n 2, 1) := by decide +kernel
theorem dJ6_getChars_ba4f3_110 : decode cJ6_getChars_ba4f3 110 = .ok (.iinc 5 (-1), 3) := by decide +kernel
theorem dJ6_getChars_ba4f3_113 : decode cJ6_getChars_ba4f3 113 = .ok (.iload 5, 2) := by decide +kernel
theorem dJ6_getChars_ba4f3_115 : decode cJ6_getChars_ba4f3 115 = .ok (.bipush 45, 2) := by decide +kernel
theorem dJ6_getChars_ba4f3_117 : decode cJ6_getChars_ba4f3 117 = .ok (.bastore, 1) := by decide +kernel
theorem dJ6_getChars_ba4f3_118 : decode cJ6_getChars_ba4f3 118 = .ok (.iload 5, 2) := by decide +kernel
theorem dJ6_getChars_ba4f3_120 : decode cJ6_getChars_ba4f3 120 = .ok (.ireturn, 1) := by decide +kernel
theorem dJ6_stringSize_0f7a4_0 : decode cJ6_stringSize_0f7a4 0 = .ok (.iconst 1, 1) := by decide +kernel
theorem dJ6_stringSize_0f7a4_1 : decode cJ6_stringSize_0f7a4 1 = .ok (.istore_n 1, 1) := by decide +kernel
theorem dJ6_stringSize_0f7a4_2 : decode cJ6_stringSize_0f7a4 2 = .ok (.iload_n 0, 1) := by decide +kernel
theorem dJ6_stringSize_0f7a4_3 : decode cJ6_stringSize_0f7a4 3 = .ok (.ifCond .lt 8, 3) := by decide +kernel
theorem dJ6_stringSize_0f7a4_6 : decode cJ6_stringSize_0f7a4 6 = .ok (.iconst 0, 1) := by decide +kernel
theorem dJ6_stringSize_0f7a4_7 : decode cJ6_stringSize_0f7a4 7 = .ok (.istore_n 1, 1) := by decide +kernel
theorem dJ6_stringSize_0f7a4_8 : decode cJ6_stringSize_0f7a4 8 = .ok (.iload_n 0, 1) := by decide +kernel
theorem dJ6_stringSize_0f7a4_9 : decode cJ6_stringSize_0f7a4 9 = .ok (.ineg, 1) := by decide +kernel
theorem dJ6_stringSize_0f7a4_10 : decode cJ6_stringSize_0f7a4 10 = .ok (.istore_n 0, 1) := by decide +kernel
theorem dJ6_stringSize_0f7a4_11 : decode cJ6_stringSize_0f7a4 11 = .ok (.bipush (-10), 2) := by decide +kernel
theorem dJ6_stringSize_0f7a4_13 : decode cJ6_stringSize_0f7a4 13 = .ok (.istore_n 2, 1) := by decide +kernel
theorem dJ6_stringSize_0f7a4_14 : decode cJ6_stringSize_0f7a4 14 = .ok (.iconst 1, 1) := by decide +kernel
theorem dJ6_stringSize_0f7a4_15 : decode cJ6_stringSize_0f7a4 15 = .ok (.istore_n 3, 1) := by decide +kernel
theorem dJ6_stringSize_0f7a4_16 : decode cJ6_stringSize_0f7a4 16 = .ok (.iload_n 3, 1) := by decide +kernel
theorem dJ6_stringSize_0f7a4_17 : decode cJ6_stringSize_0f7a4 17 = .ok (.bipush 10, 2) := by decide +kernel
theorem dJ6_stringSize_0f7a4_19 : decode cJ6_stringSize_0f7a4 19 = .ok (.if_icmp .ge 23, 3) := by decide +kernel
theorem dJ6_stringSize_0f7a4_22 : decode cJ6_stringSize_0f7a4 22 = .ok (.iload_n 0, 1) := by decide +kernel
theorem dJ6_stringSize_0f7a4_23 : decode cJ6_stringSize_0f7a4 23 = .ok (.iload_n 2, 1) := by decide +kernel
theorem dJ6_stringSize_0f7a4_24 : decode cJ6_stringSize_0f7a4 24 = .ok (.if_icmp .le 7, 3) := by decide +kernel
theorem dJ6_stringSize_0f7a4_27 : decode cJ6_stringSize_0f7a4 27 = .ok (.iload_n 3, 1) := by decide +kernel
theorem dJ6_stringSize_0f7a4_28 : decode cJ6_stringSize_0f7a4 28 = .ok (.iload_n 1, 1) := by decide +kernel
theorem dJ6_stringSize_0f7a4_29 : decode cJ6_stringSize_0f7a4 29 = .ok (.iadd, 1) := by decide +kernel
theorem dJ6_stringSize_0f7a4_30 : decode cJ6_stringSize_0f7a4 30 = .ok (.ireturn, 1) := by decide +kernel
theorem dJ6_stringSize_0f7a4_31 : decode cJ6_stringSize_0f7a4 31 = .ok (.bipush 10, 2) := by decide +kernel
theorem dJ6_stringSize_0f7a4_33 : decode cJ6_stringSize_0f7a4 33 = .ok (.iload_n 2, 1) := by decide +kernel
theorem dJ6_stringSize_0f7a4_34 : decode cJ6_stringSize_0f7a4 34 = .ok (.imul, 1) := by decide +kernel
theorem dJ6_stringSize_0f7a4_35 : decode cJ6_stringSize_0f7a4 35 = .ok (.istore_n 2, 1) := by decide +kernel
theorem dJ6_stringSize_0f7a4_36 : decode cJ6_stringSize_0f7a4 36 = .ok (.iinc 3 1, 3) := by decide +kernel
theorem dJ6_stringSize_0f7a4_39 : decode cJ6_stringSize_0f7a4 39 = .ok (.goto (-23), 3) := by decide +kernel
theorem dJ6_stringSize_0f7a4_42 : decode cJ6_stringSize_0f7a4 42 = .ok (.bipush 10, 2) := by decide +kernel
theorem dJ6_stringSize_0f7a4_44 : decode cJ6_stringSize_0f7a4 44 = .ok (.iload_n 1, 1) := by decide +kernel
theorem dJ6_stringSize_0f7a4_45 : decode cJ6_stringSize_0f7a4 45 = .ok (.iadd, 1) := by decide +kernel
theorem dJ6_stringSize_0f7a4_46 : decode cJ6_stringSize_0f7a4 46 = .ok (.ireturn, 1) := by decide +kernel
theorem dJ9_max_7cf53_0 : decode cJ9_max_7cf53 0 = .ok (.iload_n 0, 1) := by decide +kernel
theorem dJ9_max_7cf53_1 : decode cJ9_max_7cf53 1 = .ok (.iload_n 1, 1) := by decide +kernel
theorem dJ9_max_7cf53_2 : decode cJ9_max_7cf53 2 = .ok (.if_icmp .lt 7, 3) := by decide +kernel
theorem dJ9_max_7cf53_5 : decode cJ9_max_7cf53 5 = .ok (.iload_n 0, 1) := by decide +kernel
theorem dJ9_max_7cf53_6 : decode cJ9_max_7cf53 6 = .ok (.goto 4, 3) := by decide +kernel
theorem dJ9_max_7cf53_9 : decode cJ9_max_7cf53 9 = .ok (.iload_n 1, 1) := by decide +kernel
theorem dJ9_max_7cf53_10 : decode cJ9_max_7cf53 10 = .ok (.ireturn, 1) := by decide +kernel
theorem dJ9_min_7cf53_0 : decode cJ9_min_7cf53 0 = .ok (.iload_n 0, 1) := by decide +kernel
theorem dJ9_min_7cf53_1 : decode cJ9_min_7cf53 1 = .ok (.iload_n 1, 1) := by decide +kernel
theorem dJ9_min_7cf53_2 : decode cJ9_min_7cf53 2 = .ok (.if_icmp .gt 7, 3) := by decide +kernel
theorem dJ9_min_7cf53_5 : decode cJ9_min_7cf53 5 = .ok (.iload_n 0, 1) := by decide +kernel
theorem dJ9_min_7cf53_6 : decode cJ9_min_7cf53 6 = .ok (.goto 4, 3) := by decide +kernel
theorem dJ9_min_7cf53_9 : decode cJ9_min_7cf53 9 = .ok (.iload_n 1, 1) := by decide +kernel
theorem dJ9_min_7cf53_10 : decode cJ9_min_7cf53 10 = .ok (.ireturn, 1) := by decide +kernel
theorem dJ0_init_81219_0 : decode cJ0_init_81219 0 = .ok (.aload_n 0, 1) := by decide +kernel
theorem dJ0_init_81219_1 : decode cJ0_init_81219 1 = .ok (.aload_n 1, 1) := by decide +kernel
theorem dJ0_init_81219_2 : decode cJ0_init_81219 2 = .ok (.aconst_null, 1) := by decide +kernel
theorem dJ0_init_81219_3 : decode cJ0_init_81219 3 = .ok (.invokespecial 489, 3) := by decide +kernel
theorem dJ0_init_81219_6 : decode cJ0_init_81219 6 = .ok (.return_, 1) := by decide +kernel
theorem dJ0_length_8abf5_0 : decode cJ0_length_8abf5 0 = .ok (.aload_n 0, 1) := by decide +kernel
theorem dJ0_length_8abf5_1 : decode cJ0_length_8abf5 1 = .ok (.getfield 9, 3) := by decide +kernel
theorem dJ0_length_8abf5_4 : decode cJ0_length_8abf5 4 = .ok (.arraylength, 1) := by decide +kernel
theorem dJ0_length_8abf5_5 : decode cJ0_length_8abf5 5 = .ok (.aload_n 0, 1) := by decide +kernel
theorem dJ0_length_8abf5_6 : decode cJ0_length_8abf5 6 = .ok (.invokevirtual 335, 3) := by decide +kernel
theorem dJ0_length_8abf5_9 : decode cJ0_length_8abf5 9 = .ok (.ishr, 1) := by decide +kernel
theorem dJ0_length_8abf5_10 : decode cJ0_length_8abf5 10 = .ok (.ireturn, 1) := by decide +kernel
theorem dJ0_charAt_5068e_0 : decode cJ0_charAt_5068e 0 = .ok (.aload_n 0, 1) := by decide +kernel
theorem dJ0_charAt_5068e_1 : decode cJ0_charAt_5068e 1 = .ok (.invokevirtual 492, 3) := by decide +kernel
theorem dJ0_charAt_5068e_4 : decode cJ0_charAt_5068e 4 = .ok (.ifCond .eq 12, 3) := by decide +kernel
theorem dJ0_charAt_5068e_7 : decode cJ0_charAt_5068e 7 = .ok (.aload_n 0, 1) := by decide +kernel
theorem dJ0_charAt_5068e_8 : decode cJ0_charAt_5068e 8 = .ok (.getfield 9, 3) := by decide +kernel
theorem dJ0_charAt_5068e_11 : decode cJ0_charAt_5068e 11 = .ok (.iload_n 1, 1) := by decide +kernel
theorem dJ0_charAt_5068e_12 : decode cJ0_charAt_5068e 12 = .ok (.invokestatic 495, 3) := by decide +kernel
theorem dJ0_charAt_5068e_15 : decode cJ0_charAt_5068e 15 = .ok (.ireturn, 1) := by decide +kernel
theorem dJ0_charAt_5068e_16 : decode cJ0_charAt_5068e 16 = .ok (.aload_n 0, 1) := by decide +kernel
theorem dJ0_charAt_5068e_17 : decode cJ0_charAt_5068e 17 = .ok (.getfield 9, 3) := by decide +kernel
theorem dJ0_charAt_5068e_20 : decode cJ0_charAt_5068e 20 = .ok (.iload_n 1, 1) := by decide +kernel
theorem dJ0_charAt_5068e_21 : decode cJ0_charAt_5068e 21 = .ok (.invokestatic 498, 3) := by decide +kernel
theorem dJ0_charAt_5068e_24 : decode cJ0_charAt_5068e 24 = .ok (.ireturn, 1) := by decide +kernel
theorem dJ0_getBytes_840e7_0 : decode cJ0_getBytes_840e7 0 = .ok (.aload_n 0, 1) := by decide +kernel
theorem dJ0_getBytes_840e7_1 : decode cJ0_getBytes_840e7 1 = .ok (.invokevirtual 335, 3) := by decide +kernel
theorem dJ0_getBytes_840e7_4 : decode cJ0_getBytes_840e7 4 = .ok (.iload_n 3, 1) := by decide +kernel
theorem dJ0_getBytes_840e7_5 : decode cJ0_getBytes_840e7 5 = .ok (.if_icmp .ne 23, 3) := by decide +kernel
theorem dJ0_getBytes_840e7_8 : decode cJ0_getBytes_840e7 8 = .ok (.aload_n 0, 1) := by decide +kernel
theorem dJ0_getBytes_840e7_9 : decode cJ0_getBytes_840e7 9 = .ok (.getfield 9, 3) := by decide +kernel
theorem dJ0_getBytes_840e7_12 : decode cJ0_getBytes_840e7 12 = .ok (.iconst 0, 1) := by decide +kernel
theorem dJ0_getBytes_840e7_13 : decode cJ0_getBytes_840e7 13 = .ok (.aload_n 1, 1) := by decide +kernel
theorem dJ0_getBytes_840e7_14 : decode cJ0_getBytes_840e7 14 = .ok (.iload_n 2, 1) := by decide +kernel
theorem dJ0_getBytes_840e7_15 : decode cJ0_getBytes_840e7 15 = .ok (.iload_n 3, 1) := by decide +kernel
theorem dJ0_getBytes_840e7_16 : decode cJ0_getBytes_840e7 16 = .ok (.ishl, 1) := by decide +kernel
theorem dJ0_getBytes_840e7_17 : decode cJ0_getBytes_840e7 17 = .ok (.aload_n 0, 1) := by decide +kernel
theorem dJ0_getBytes_840e7_18 : decode cJ0_getBytes_840e7 18 = .ok (.getfield 9, 3) := by decide +kernel
theorem dJ0_getBytes_840e7_21 : decode cJ0_getBytes_840e7 21 = .ok (.arraylength, 1) := by decide +kernel
theorem dJ0_getBytes_840e7_22 : decode cJ0_getBytes_840e7 22 = .ok (.invokestatic 212, 3) := by decide +kernel
theorem dJ0_getBytes_840e7_25 : decode cJ0_getBytes_840e7 25 = .ok (.goto 18, 3) := by decide +kernel
theorem dJ0_getBytes_840e7_28 : decode cJ0_getBytes_840e7 28 = .ok (.aload_n 0, 1) := by decide +kernel
theorem dJ0_getBytes_840e7_29 : decode cJ0_getBytes_840e7 29 = .ok (.getfield 9, 3) := by decide +kernel
theorem dJ0_getBytes_840e7_32 : decode cJ0_getBytes_840e7 32 = .ok (.iconst 0, 1) := by decide +kernel
theorem dJ0_getBytes_840e7_33 : decode cJ0_getBytes_840e7 33 = .ok (.aload_n 1, 1) := by decide +kernel
theorem dJ0_getBytes_840e7_34 : decode cJ0_getBytes_840e7 34 = .ok (.iload_n 2, 1) := by decide +kernel
theorem dJ0_getBytes_840e7_35 : decode cJ0_getBytes_840e7 35 = .ok (.aload_n 0, 1) := by decide +kernel
theorem dJ0_getBytes_840e7_36 : decode cJ0_getBytes_840e7 36 = .ok (.getfield 9, 3) := by decide +kernel
theorem dJ0_getBytes_840e7_39 : decode cJ0_getBytes_840e7 39 = .ok (.arraylength, 1) := by decide +kernel
theorem dJ0_getBytes_840e7_40 : decode cJ0_getBytes_840e7 40 = .ok (.invokestatic 106, 3) := by decide +kernel
theorem dJ0_getBytes_840e7_43 : decode cJ0_getBytes_840e7 43 = .ok (.return_, 1) := by decide +kernel
theorem dJ0_init_db425_0 : decode cJ0_init_db425 0 = .ok (.aload_n 0, 1) := by decide +kernel
theorem dJ0_init_db425_1 : decode cJ0_init_db425 1 = .ok (.invokespecial 1, 3) := by decide +kernel
theorem dJ0_init_db425_4 : decode cJ0_init_db425 4 = .ok (.aload_n 1, 1) := by decide +kernel
theorem dJ0_init_db425_5 : decode cJ0_init_db425 5 = .ok (.invokevirtual 552, 3) := by decide +kernel
theorem dJ0_init_db425_8 : decode cJ0_init_db425 8 = .ok (.astore_n 3, 1) := by decide +kernel
theorem dJ0_init_db425_9 : decode cJ0_init_db425 9 = .ok (.aload_n 1, 1) := by decide +kernel
theorem dJ0_init_db425_10 : decode cJ0_init_db425 10 = .ok (.invokevirtual 549, 3) := by decide +kernel
theorem dJ0_init_db425_13 : decode cJ0_init_db425 13 = .ok (.istore 4, 2) := by decide +kernel
theorem dJ0_init_db425_15 : decode cJ0_init_db425 15 = .ok (.aload_n 1, 1) := by decide +kernel
theorem dJ0_init_db425_16 : decode cJ0_init_db425 16 = .ok (.invokevirtual 1047, 3) := by decide +kernel
theorem dJ0_init_db425_19 : decode cJ0_init_db425 19 = .ok (.ifCond .eq 22, 3) := by decide +kernel
theorem dJ0_init_db425_22 : decode cJ0_init_db425 22 = .ok (.aload_n 0, 1) := by decide +kernel
theorem dJ0_init_db425_23 : decode cJ0_init_db425 23 = .ok (.iconst 0, 1) := by decide +kernel
theorem dJ0_init_db425_24 : decode cJ0_init_db425 24 = .ok (.putfield 15, 3) := by decide +kernel
theorem dJ0_init_db425_27 : decode cJ0_init_db425 27 = .ok (.aload_n 0, 1) := by decide +kernel
theorem dJ0_init_db425_28 : decode cJ0_init_db425 28 = .ok (.aload_n 3, 1) := by decide +kernel
theorem dJ0_init_db425_29 : decode cJ0_init_db425 29 = .ok (.iconst 0, 1) := by decide +kernel
theorem dJ0_init_db425_30 : decode cJ0_init_db425 30 = .ok (.iload 4, 2) := by decide +kernel
theorem dJ0_init_db425_32 : decode cJ0_init_db425 32 = .ok (.invokestatic 54, 3) := by decide +kernel
theorem dJ0_init_db425_35 : decode cJ0_init_db425 35 = .ok (.putfield 9, 3) := by decide +kernel
theorem dJ0_init_db425_38 : decode cJ0_init_db425 38 = .ok (.goto 59, 3) := by decide +kernel
theorem dJ0_init_db425_41 : decode cJ0_init_db425 41 = .ok (.getstatic 38, 3) := by decide +kernel
theorem dJ0_init_db425_44 : decode cJ0_init_db425 44 = .ok (.ifCond .eq 35, 3) := by decide +kernel
theorem dJ0_init_db425_47 : decode cJ0_init_db425 47 = .ok (.aload_n 1, 1) := by decide +kernel
theorem dJ0_init_db425_48 : decode cJ0_init_db425 48 = .ok (.getfield 1048, 3) := by decide +kernel
theorem dJ0_init_db425_51 : decode cJ0_init_db425 51 = .ok (.ifCond .eq 28, 3) := by decide +kernel
theorem dJ0_init_db425_54 : decode cJ0_init_db425 54 = .ok (.aload_n 0, 1) := by decide +kernel
theorem dJ0_init_db425_55 : decode cJ0_init_db425 55 = .ok (.aload_n 3, 1) := by decide +kernel
theorem dJ0_init_db425_56 : decode cJ0_init_db425 56 = .ok (.iconst 0, 1) := by decide +kernel
theorem dJ0_init_db425_57 : decode cJ0_init_db425 57 = .ok (.iload 4, 2) := by decide +kernel
theorem dJ0_init_db425_59 : decode cJ0_init_db425 59 = .ok (.invokestatic 1051, 3) := by decide +kernel
theorem dJ0_init_db425_62 : decode cJ0_init_db425 62 = .ok (.putfield 9, 3) := by decide +kernel
theorem dJ0_init_db425_65 : decode cJ0_init_db425 65 = .ok (.aload_n 0, 1) := by decide +kernel
theorem dJ0_init_db425_66 : decode cJ0_init_db425 66 = .ok (.aload_n 0, 1) := by decide +kernel
theorem dJ0_init_db425_67 : decode cJ0_init_db425 67 = .ok (.getfield 9, 3) := by decide +kernel
theorem dJ0_init_db425_70 : decode cJ0_init_db425 70 = .ok (.iload 4, 2) := by decide +kernel
theorem dJ0_init_db425_72 : decode cJ0_init_db425 72 = .ok (.invokestatic 47, 3) := by decide +kernel
theorem dJ0_init_db425_75 : decode cJ0_init_db425 75 = .ok (.putfield 15, 3) := by decide +kernel
theorem dJ0_init_db425_78 : decode cJ0_init_db425 78 = .ok (.return_, 1) := by decide +kernel
theorem dJ0_init_db425_79 : decode cJ0_init_db425 79 = .ok (.aload_n 0, 1) := by decide +kernel
theorem dJ0_init_db425_80 : decode cJ0_init_db425 80 = .ok (.iconst 1, 1) := by decide +kernel
theorem dJ0_init_db425_81 : decode cJ0_init_db425 81 = .ok (.putfield 15, 3) := by decide +kernel
theorem dJ0_init_db425_84 : decode cJ0_init_db425 84 = .ok (.aload_n 0, 1) := by decide +kernel
theorem dJ0_init_db425_85 : decode cJ0_init_db425 85 = .ok (.aload_n 3, 1) := by decide +kernel
theorem dJ0_init_db425_86 : decode cJ0_init_db425 86 = .ok (.iconst 0, 1) := by decide +kernel
theorem dJ0_init_db425_87 : decode cJ0_init_db425 87 = .ok (.iload 4, 2) := by decide +kernel
theorem dJ0_init_db425_89 : decode cJ0_init_db425 89 = .ok (.iconst 1, 1) := by decide +kernel
theorem dJ0_init_db425_90 : decode cJ0_init_db425 90 = .ok (.ishl, 1) := by decide +kernel
theorem dJ0_init_db425_91 : decode cJ0_init_db425 91 = .ok (.invokestatic 54, 3) := by decide +kernel
theorem dJ0_init_db425_94 : decode cJ0_init_db425 94 = .ok (.putfield 9, 3) := by decide +kernel
theorem dJ0_init_db425_97 : decode cJ0_init_db425 97 = .ok (.return_, 1) := by decide +kernel
theorem dJ0_coder_7d493_0 : decode cJ0_coder_7d493 0 = .ok (.getstatic 38, 3) := by decide +kernel
theorem dJ0_coder_7d493_3 : decode cJ0_coder_7d493 3 = .ok (.ifCond .eq 10, 3) := by decide +kernel
theorem dJ0_coder_7d493_6 : decode cJ0_coder_7d493 6 = .ok (.aload_n 0, 1) := by decide +kernel
theorem dJ0_coder_7d493_7 : decode cJ0_coder_7d493 7 = .ok (.getfield 15, 3) := by decide +kernel
theorem dJ0_coder_7d493_10 : decode cJ0_coder_7d493 10 = .ok (.goto 4, 3) := by decide +kernel
theorem dJ0_coder_7d493_13 : decode cJ0_coder_7d493 13 = .ok (.iconst 1, 1) := by decide +kernel
theorem dJ0_coder_7d493_14 : decode cJ0_coder_7d493 14 = .ok (.ireturn, 1) := by decide +kernel
theorem dJ0_isLatin1_aae02_0 : decode cJ0_isLatin1_aae02 0 = .ok (.getstatic 38, 3) := by decide +kernel
theorem dJ0_isLatin1_aae02_3 : decode cJ0_isLatin1_aae02 3 = .ok (.ifCond .eq 14, 3) := by decide +kernel
theorem dJ0_isLatin1_aae02_6 : decode cJ0_isLatin1_aae02 6 = .ok (.aload_n 0, 1) := by decide +kernel
theorem dJ0_isLatin1_aae02_7 : decode cJ0_isLatin1_aae02 7 = .ok (.getfield 15, 3) := by decide +kernel
theorem dJ0_isLatin1_aae02_10 : decode cJ0_isLatin1_aae02 10 = .ok (.ifCond .ne 7, 3) := by decide +kernel
theorem dJ0_isLatin1_aae02_13 : decode cJ0_isLatin1_aae02 13 = .ok (.iconst 1, 1) := by decide +kernel
theorem dJ0_isLatin1_aae02_14 : decode cJ0_isLatin1_aae02 14 = .ok (.goto 4, 3) := by decide +kernel
theorem dJ0_isLatin1_aae02_17 : decode cJ0_isLatin1_aae02 17 = .ok (.iconst 0, 1) := by decide +kernel
theorem dJ0_isLatin1_aae02_18 : decode cJ0_isLatin1_aae02 18 = .ok (.ireturn, 1) := by decide +kernel
theorem dJ0_checkIndex_df160_0 : decode cJ0_checkIndex_df160 0 = .ok (.iload_n 0, 1) := by decide +kernel
theorem dJ0_checkIndex_df160_1 : decode cJ0_checkIndex_df160 1 = .ok (.iload_n 1, 1) := by decide +kernel
theorem dJ0_checkIndex_df160_2 : decode cJ0_checkIndex_df160 2 = .ok (.getstatic 1053, 3) := by decide +kernel
theorem dJ0_checkIndex_df160_5 : decode cJ0_checkIndex_df160 5 = .ok (.invokestatic 1059, 3) := by decide +kernel
theorem dJ0_checkIndex_df160_8 : decode cJ0_checkIndex_df160 8 = .ok (.pop, 1) := by decide +kernel
theorem dJ0_checkIndex_df160_9 : decode cJ0_checkIndex_df160 9 = .ok (.return_, 1) := by decide +kernel
theorem dJ0_checkBoundsOffCount_cabcc_0 : decode cJ0_checkBoundsOffCount_cabcc 0 = .ok (.iload_n 0, 1) := by decide +kernel
theorem dJ0_checkBoundsOffCount_cabcc_1 : decode cJ0_checkBoundsOffCount_cabcc 1 = .ok (.iload_n 1, 1) := by decide +kernel
theorem dJ0_checkBoundsOffCount_cabcc_2 : decode cJ0_checkBoundsOffCount_cabcc 2 = .ok (.iload_n 2, 1) := by decide +kernel
theorem dJ0_checkBoundsOffCount_cabcc_3 : decode cJ0_checkBoundsOffCount_cabcc 3 = .ok (.getstatic 1053, 3) := by decide +kernel
theorem dJ0_checkBoundsOffCount_cabcc_6 : decode cJ0_checkBoundsOffCount_cabcc 6 = .ok (.invokestatic 1065, 3) := by decide +kernel
theorem dJ0_checkBoundsOffCount_cabcc_9 : decode cJ0_checkBoundsOffCount_cabcc 9 = .ok (.ireturn, 1) := by decide +kernel
theorem dJ0_checkBoundsBeginEnd_23922_0 : decode cJ0_checkBoundsBeginEnd_23922 0 = .ok (.iload_n 0, 1) := by decide +kernel
theorem dJ0_checkBoundsBeginEnd_23922_1 : decode cJ0_checkBoundsBeginEnd_23922 1 = .ok (.iload_n 1, 1) := by decide +kernel
theorem dJ0_checkBoundsBeginEnd_23922_2 : decode cJ0_checkBoundsBeginEnd_23922 2 = .ok (.iload_n 2, 1) := by decide +kernel
theorem dJ0_checkBoundsBeginEnd_23922_3 : decode cJ0_checkBoundsBeginEnd_23922 3 = .ok (.getstatic 1053, 3) := by decide +kernel
theorem dJ0_checkBoundsBeginEnd_23922_6 : decode cJ0_checkBoundsBeginEnd_23922 6 = .ok (.invokestatic 1062, 3) := by decide +kernel
theorem dJ0_checkBoundsBeginEnd_23922_9 : decode cJ0_checkBoundsBeginEnd_23922 9 = .ok (.pop, 1) := by decide +kernel
theorem dJ0_checkBoundsBeginEnd_23922_10 : decode cJ0_checkBoundsBeginEnd_23922 10 = .ok (.return_, 1) := by decide +kernel
theorem dJ4_init_da8c8_0 : decode cJ4_init_da8c8 0 = .ok (.aload_n 0, 1) := by decide +kernel
theorem dJ4_init_da8c8_1 : decode cJ4_init_da8c8 1 = .ok (.bipush 16, 2) := by decide +kernel
theorem dJ4_init_da8c8_3 : decode cJ4_init_da8c8 3 = .ok (.invokespecial 1, 3) := by decide +kernel
theorem dJ4_init_da8c8_6 : decode cJ4_init_da8c8 6 = .ok (.return_, 1) := by decide +kernel
theorem dJ4_append_15ec4_0 : decode cJ4_append_15ec4 0 = .ok (.aload_n 0, 1) := by decide +kernel
theorem dJ4_append_15ec4_1 : decode cJ4_append_15ec4 1 = .ok (.aload_n 1, 1) := by decide +kernel
theorem dJ4_append_15ec4_2 : decode cJ4_append_15ec4 2 = .ok (.invokespecial 29, 3) := by decide +kernel
theorem dJ4_append_15ec4_5 : decode cJ4_append_15ec4 5 = .ok (.pop, 1) := by decide +kernel
theorem dJ4_append_15ec4_6 : decode cJ4_append_15ec4 6 = .ok (.aload_n 0, 1) := by decide +kernel
theorem dJ4_append_15ec4_7 : decode cJ4_append_15ec4 7 = .ok (.areturn, 1) := by decide +kernel
theorem dJ4_append_cf468_0 : decode cJ4_append_cf468 0 = .ok (.aload_n 0, 1) := by decide +kernel
theorem dJ4_append_cf468_1 : decode cJ4_append_cf468 1 = .ok (.iload_n 1, 1) := by decide +kernel
theorem dJ4_append_cf468_2 : decode cJ4_append_cf468 2 = .ok (.invokespecial 50, 3) := by decide +kernel
theorem dJ4_append_cf468_5 : decode cJ4_append_cf468 5 = .ok (.pop, 1) := by decide +kernel
theorem dJ4_append_cf468_6 : decode cJ4_append_cf468 6 = .ok (.aload_n 0, 1) := by decide +kernel
theorem dJ4_append_cf468_7 : decode cJ4_append_cf468 7 = .ok (.areturn, 1) := by decide +kernel
theorem dJ4_append_bf812_0 : decode cJ4_append_bf812 0 = .ok (.aload_n 0, 1) := by decide +kernel
theorem dJ4_append_bf812_1 : decode cJ4_append_bf812 1 = .ok (.iload_n 1, 1) := by decide +kernel
theorem dJ4_append_bf812_2 : decode cJ4_append_bf812 2 = .ok (.invokespecial 53, 3) := by decide +kernel
theorem dJ4_append_bf812_5 : decode cJ4_append_bf812 5 = .ok (.pop, 1) := by decide +kernel
theorem dJ4_append_bf812_6 : decode cJ4_append_bf812 6 = .ok (.aload_n 0, 1) := by decide +kernel
theorem dJ4_append_bf812_7 : decode cJ4_append_bf812 7 = .ok (.areturn, 1) := by decide +kernel
theorem dJ4_toString_0e30d_0 : decode cJ4_toString_0e30d 0 = .ok (.new 18, 3) := by decide +kernel
theorem dJ4_toString_0e30d_3 : decode cJ4_toString_0e30d 3 = .ok (.dup, 1) := by decide +kernel
theorem dJ4_toString_0e30d_4 : decode cJ4_toString_0e30d 4 = .ok (.aload_n 0, 1) := by decide +kernel
theorem dJ4_toString_0e30d_5 : decode cJ4_toString_0e30d 5 = .ok (.invokespecial 137, 3) := by decide +kernel
theorem dJ4_toString_0e30d_8 : decode cJ4_toString_0e30d 8 = .ok (.areturn, 1) := by decide +kernel
theorem dJ4_charAt_5068e_0 : decode cJ4_charAt_5068e 0 = .ok (.aload_n 0, 1) := by decide +kernel
theorem dJ4_charAt_5068e_1 : decode cJ4_charAt_5068e 1 = .ok (.iload_n 1, 1) := by decide +kernel
theorem dJ4_charAt_5068e_2 : decode cJ4_charAt_5068e 2 = .ok (.invokespecial 329, 3) := by decide +kernel
theorem dJ4_charAt_5068e_5 : decode cJ4_charAt_5068e 5 = .ok (.ireturn, 1) := by decide +kernel
theorem dJ4_setLength_d00df_0 : decode cJ4_setLength_d00df 0 = .ok (.aload_n 0, 1) := by decide +kernel
theorem dJ4_setLength_d00df_1 : decode cJ4_setLength_d00df 1 = .ok (.iload_n 1, 1) := by decide +kernel
theorem dJ4_setLength_d00df_2 : decode cJ4_setLength_d00df 2 = .ok (.invokespecial 333, 3) := by decide +kernel
theorem dJ4_setLength_d00df_5 : decode cJ4_setLength_d00df 5 = .ok (.return_, 1) := by decide +kernel
theorem dJ4_length_8abf5_0 : decode cJ4_length_8abf5 0 = .ok (.aload_n 0, 1) := by decide +kernel
theorem dJ4_length_8abf5_1 : decode cJ4_length_8abf5 1 = .ok (.invokespecial 343, 3) := by decide +kernel
theorem dJ4_length_8abf5_4 : decode cJ4_length_8abf5 4 = .ok (.ireturn, 1) := by decide +kernel
theorem dJx7c733_init_d00df_0 : decode cJx7c733_init_d00df 0 = .ok (.aload_n 0, 1) := by decide +kernel
theorem dJx7c733_init_d00df_1 : decode cJx7c733_init_d00df 1 = .ok (.new 10, 3) := by decide +kernel
theorem dJx7c733_init_d00df_4 : decode cJx7c733_init_d00df 4 = .ok (.dup, 1) := by decide +kernel
theorem dJx7c733_init_d00df_5 : decode cJx7c733_init_d00df 5 = .ok (.invokespecial 12, 3) := by decide +kernel
theorem dJx7c733_init_d00df_8 : decode cJx7c733_init_d00df 8 = .ok (.ldc 13, 2) := by decide +kernel
theorem dJx7c733_init_d00df_10 : decode cJx7c733_init_d00df 10 = .ok (.invokevirtual 15, 3) := by decide +kernel
theorem dJx7c733_init_d00df_13 : decode cJx7c733_init_d00df 13 = .ok (.iload_n 1, 1) := by decide +kernel
theorem dJx7c733_init_d00df_14 : decode cJx7c733_init_d00df 14 = .ok (.invokevirtual 19, 3) := by decide +kernel
theorem dJx7c733_init_d00df_17 : decode cJx7c733_init_d00df 17 = .ok (.invokevirtual 22, 3) := by decide +kernel
theorem dJx7c733_init_d00df_20 : decode cJx7c733_init_d00df 20 = .ok (.invokespecial 7, 3) := by decide +kernel
theorem dJx7c733_init_d00df_23 : decode cJx7c733_init_d00df 23 = .ok (.return_, 1) := by decide +kernel
theorem dJ1_charAt_3b067_0 : decode cJ1_charAt_3b067 0 = .ok (.iload_n 1, 1) := by decide +kernel
theorem dJ1_charAt_3b067_1 : decode cJ1_charAt_3b067 1 = .ok (.aload_n 0, 1) := by decide +kernel
theorem dJ1_charAt_3b067_2 : decode cJ1_charAt_3b067 2 = .ok (.arraylength, 1) := by decide +kernel
theorem dJ1_charAt_3b067_3 : decode cJ1_charAt_3b067 3 = .ok (.invokestatic 9, 3) := by decide +kernel
theorem dJ1_charAt_3b067_6 : decode cJ1_charAt_3b067 6 = .ok (.aload_n 0, 1) := by decide +kernel
theorem dJ1_charAt_3b067_7 : decode cJ1_charAt_3b067 7 = .ok (.iload_n 1, 1) := by decide +kernel
theorem dJ1_charAt_3b067_8 : decode cJ1_charAt_3b067 8 = .ok (.baload, 1) := by decide +kernel
theorem dJ1_charAt_3b067_9 : decode cJ1_charAt_3b067 9 = .ok (.sipush 255, 3) := by decide +kernel
theorem dJ1_charAt_3b067_12 : decode cJ1_charAt_3b067 12 = .ok (.iand, 1) := by decide +kernel
theorem dJ1_charAt_3b067_13 : decode cJ1_charAt_3b067 13 = .ok (.i2c, 1) := by decide +kernel
theorem dJ1_charAt_3b067_14 : decode cJ1_charAt_3b067 14 = .ok (.ireturn, 1) := by decide +kernel
theorem dJ1_canEncode_fc78d_0 : decode cJ1_canEncode_fc78d 0 = .ok (.iload_n 0, 1) := by decide +kernel
theorem dJ1_canEncode_fc78d_1 : decode cJ1_canEncode_fc78d 1 = .ok (.sipush 255, 3) := by decide +kernel
theorem dJ1_canEncode_fc78d_4 : decode cJ1_canEncode_fc78d 4 = .ok (.if_icmp .gt 7, 3) := by decide +kernel
theorem dJ1_canEncode_fc78d_7 : decode cJ1_canEncode_fc78d 7 = .ok (.iconst 1, 1) := by decide +kernel
theorem dJ1_canEncode_fc78d_8 : decode cJ1_canEncode_fc78d 8 = .ok (.goto 4, 3) := by decide +kernel
theorem dJ1_canEncode_fc78d_11 : decode cJ1_canEncode_fc78d 11 = .ok (.iconst 0, 1) := by decide +kernel
theorem dJ1_canEncode_fc78d_12 : decode cJ1_canEncode_fc78d 12 = .ok (.ireturn, 1) := by decide +kernel
theorem dJ1_fillNull_b72d1_0 : decode cJ1_fillNull_b72d1 0 = .ok (.aload_n 0, 1) := by decide +kernel
theorem dJ1_fillNull_b72d1_1 : decode cJ1_fillNull_b72d1 1 = .ok (.iload_n 1, 1) := by decide +kernel
theorem dJ1_fillNull_b72d1_2 : decode cJ1_fillNull_b72d1 2 = .ok (.iload_n 2, 1) := by decide +kernel
theorem dJ1_fillNull_b72d1_3 : decode cJ1_fillNull_b72d1 3 = .ok (.iconst 0, 1) := by decide +kernel
theorem dJ1_fillNull_b72d1_4 : decode cJ1_fillNull_b72d1 4 = .ok (.invokestatic 236, 3) := by decide +kernel
theorem dJ1_fillNull_b72d1_7 : decode cJ1_fillNull_b72d1 7 = .ok (.return_, 1) := by decide +kernel
theorem dJ1_inflate_0e8fd_0 : decode cJ1_inflate_0e8fd 0 = .ok (.aload_n 0, 1) := by decide +kernel
theorem dJ1_inflate_0e8fd_1 : decode cJ1_inflate_0e8fd 1 = .ok (.iload_n 1, 1) := by decide +kernel
theorem dJ1_inflate_0e8fd_2 : decode cJ1_inflate_0e8fd 2 = .ok (.aload_n 2, 1) := by decide +kernel
theorem dJ1_inflate_0e8fd_3 : decode cJ1_inflate_0e8fd 3 = .ok (.iload_n 3, 1) := by decide +kernel
theorem dJ1_inflate_0e8fd_4 : decode cJ1_inflate_0e8fd 4 = .ok (.iload 4, 2) := by decide +kernel
theorem dJ1_inflate_0e8fd_6 : decode cJ1_inflate_0e8fd 6 = .ok (.invokestatic 240, 3) := by decide +kernel
theorem dJ1_inflate_0e8fd_9 : decode cJ1_inflate_0e8fd 9 = .ok (.return_, 1) := by decide +kernel
theorem dJ2_newBytesFor_77867_0 : decode cJ2_newBytesFor_77867 0 = .ok (.iload_n 0, 1) := by decide +kernel
theorem dJ2_newBytesFor_77867_1 : decode cJ2_newBytesFor_77867 1 = .ok (.invokestatic 11, 3) := by decide +kernel
theorem dJ2_newBytesFor_77867_4 : decode cJ2_newBytesFor_77867 4 = .ok (.newarray .byte, 2) := by decide +kernel
theorem dJ2_newBytesFor_77867_6 : decode cJ2_newBytesFor_77867 6 = .ok (.areturn, 1) := by decide +kernel
theorem dJ2_newBytesLength_0f7a4_0 : decode cJ2_newBytesLength_0f7a4 0 = .ok (.iload_n 0, 1) := by decide +kernel
theorem dJ2_newBytesLength_0f7a4_1 : decode cJ2_newBytesLength_0f7a4 1 = .ok (.ifCond .ge 11, 3) := by decide +kernel
theorem dJ2_newBytesLength_0f7a4_4 : decode cJ2_newBytesLength_0f7a4 4 = .ok (.new 17, 3) := by decide +kernel
theorem dJ2_newBytesLength_0f7a4_7 : decode cJ2_newBytesLength_0f7a4 7 = .ok (.dup, 1) := by decide +kernel
theorem dJ2_newBytesLength_0f7a4_8 : decode cJ2_newBytesLength_0f7a4 8 = .ok (.invokespecial 19, 3) := by decide +kernel
theorem dJ2_newBytesLength_0f7a4_11 : decode cJ2_newBytesLength_0f7a4 11 = .ok (.athrow, 1) := by decide +kernel
theorem dJ2_newBytesLength_0f7a4_12 : decode cJ2_newBytesLength_0f7a4 12 = .ok (.iload_n 0, 1) := by decide +kernel
theorem dJ2_newBytesLength_0f7a4_13 : decode cJ2_newBytesLength_0f7a4 13 = .ok (.ldc 20, 2) := by decide +kernel
theorem dJ2_newBytesLength_0f7a4_15 : decode cJ2_newBytesLength_0f7a4 15 = .ok (.if_icmp .lt 40, 3) := by decide +kernel
theorem dJ2_newBytesLength_0f7a4_18 : decode cJ2_newBytesLength_0f7a4 18 = .ok (.new 21, 3) := by decide +kernel
theorem dJ2_newBytesLength_0f7a4_21 : decode cJ2_newBytesLength_0f7a4 21 = .ok (.dup, 1) := by decide +kernel
theorem dJ2_newBytesLength_0f7a4_22 : decode cJ2_newBytesLength_0f7a4 22 = .ok (.new 23, 3) := by decide +kernel
theorem dJ2_newBytesLength_0f7a4_25 : decode cJ2_newBytesLength_0f7a4 25 = .ok (.dup, 1) := by decide +kernel
theorem dJ2_newBytesLength_0f7a4_26 : decode cJ2_newBytesLength_0f7a4 26 = .ok (.invokespecial 25, 3) := by decide +kernel
theorem dJ2_newBytesLength_0f7a4_29 : decode cJ2_newBytesLength_0f7a4 29 = .ok (.ldc 26, 2) := by decide +kernel
theorem dJ2_newBytesLength_0f7a4_31 : decode cJ2_newBytesLength_0f7a4 31 = .ok (.invokevirtual 28, 3) := by decide +kernel
theorem dJ2_newBytesLength_0f7a4_34 : decode cJ2_newBytesLength_0f7a4 34 = .ok (.iload_n 0, 1) := by decide +kernel
theorem dJ2_newBytesLength_0f7a4_35 : decode cJ2_newBytesLength_0f7a4 35 = .ok (.invokevirtual 32, 3) := by decide +kernel
theorem dJ2_newBytesLength_0f7a4_38 : decode cJ2_newBytesLength_0f7a4 38 = .ok (.ldc 35, 2) := by decide +kernel
theorem dJ2_newBytesLength_0f7a4_40 : decode cJ2_newBytesLength_0f7a4 40 = .ok (.invokevirtual 28, 3) := by decide +kernel
theorem dJ2_newBytesLength_0f7a4_43 : decode cJ2_newBytesLength_0f7a4 43 = .ok (.ldc 20, 2) := by decide +kernel
theorem dJ2_newBytesLength_0f7a4_45 : decode cJ2_newBytesLength_0f7a4 45 = .ok (.invokevirtual 32, 3) := by decide +kernel
theorem dJ2_newBytesLength_0f7a4_48 : decode cJ2_newBytesLength_0f7a4 48 = .ok (.invokevirtual 37, 3) := by decide +kernel
theorem dJ2_newBytesLength_0f7a4_51 : decode cJ2_newBytesLength_0f7a4 51 = .ok (.invokespecial 41, 3) := by decide +kernel
theorem dJ2_newBytesLength_0f7a4_54 : decode cJ2_newBytesLength_0f7a4 54 = .ok (.athrow, 1) := by decide +kernel
theorem dJ2_newBytesLength_0f7a4_55 : decode cJ2_newBytesLength_0f7a4 55 = .ok (.iload_n 0, 1) := by decide +kernel
theorem dJ2_newBytesLength_0f7a4_56 : decode cJ2_newBytesLength_0f7a4 56 = .ok (.iconst 1, 1) := by decide +kernel
theorem dJ2_newBytesLength_0f7a4_57 : decode cJ2_newBytesLength_0f7a4 57 = .ok (.ishl, 1) := by decide +kernel
theorem dJ2_newBytesLength_0f7a4_58 : decode cJ2_newBytesLength_0f7a4 58 = .ok (.ireturn, 1) := by decide +kernel
theorem dJ2_putChar_b72d1_0 : decode cJ2_putChar_b72d1 0 = .ok (.getstatic 44, 3) := by decide +kernel
theorem dJ2_putChar_b72d1_3 : decode cJ2_putChar_b72d1 3 = .ok (.ifCond .ne 25, 3) := by decide +kernel
theorem dJ2_putChar_b72d1_6 : decode cJ2_putChar_b72d1 6 = .ok (.iload_n 1, 1) := by decide +kernel
theorem dJ2_putChar_b72d1_7 : decode cJ2_putChar_b72d1 7 = .ok (.ifCond .lt 11, 3) := by decide +kernel
theorem dJ2_putChar_b72d1_10 : decode cJ2_putChar_b72d1 10 = .ok (.iload_n 1, 1) := by decide +kernel
theorem dJ2_putChar_b72d1_11 : decode cJ2_putChar_b72d1 11 = .ok (.aload_n 0, 1) := by decide +kernel
theorem dJ2_putChar_b72d1_12 : decode cJ2_putChar_b72d1 12 = .ok (.invokestatic 48, 3) := by decide +kernel
theorem dJ2_putChar_b72d1_15 : decode cJ2_putChar_b72d1 15 = .ok (.if_icmp .lt 13, 3) := by decide +kernel
theorem dJ2_putChar_b72d1_18 : decode cJ2_putChar_b72d1 18 = .ok (.new 52, 3) := by decide +kernel
theorem dJ2_putChar_b72d1_21 : decode cJ2_putChar_b72d1 21 = .ok (.dup, 1) := by decide +kernel
theorem dJ2_putChar_b72d1_22 : decode cJ2_putChar_b72d1 22 = .ok (.ldc 54, 2) := by decide +kernel
theorem dJ2_putChar_b72d1_24 : decode cJ2_putChar_b72d1 24 = .ok (.invokespecial 56, 3) := by decide +kernel
theorem dJ2_putChar_b72d1_27 : decode cJ2_putChar_b72d1 27 = .ok (.athrow, 1) := by decide +kernel
theorem dJ2_putChar_b72d1_28 : decode cJ2_putChar_b72d1 28 = .ok (.iload_n 1, 1) := by decide +kernel
theorem dJ2_putChar_b72d1_29 : decode cJ2_putChar_b72d1 29 = .ok (.iconst 1, 1) := by decide +kernel
theorem dJ2_putChar_b72d1_30 : decode cJ2_putChar_b72d1 30 = .ok (.ishl, 1) := by decide +kernel
theorem dJ2_putChar_b72d1_31 : decode cJ2_putChar_b72d1 31 = .ok (.istore_n 1, 1) := by decide +kernel
theorem dJ2_putChar_b72d1_32 : decode cJ2_putChar_b72d1 32 = .ok (.aload_n 0, 1) := by decide +kernel
theorem dJ2_putChar_b72d1_33 : decode cJ2_putChar_b72d1 33 = .ok (.iload_n 1, 1) := by decide +kernel
theorem dJ2_putChar_b72d1_34 : decode cJ2_putChar_b72d1 34 = .ok (.iinc 1 1, 3) := by decide +kernel
theorem dJ2_putChar_b72d1_37 : decode cJ2_putChar_b72d1 37 = .ok (.iload_n 2, 1) := by decide +kernel
theorem dJ2_putChar_b72d1_38 : decode cJ2_putChar_b72d1 38 = .ok (.getstatic 59, 3) := by decide +kernel
theorem dJ2_putChar_b72d1_41 : decode cJ2_putChar_b72d1 41 = .ok (.ishr, 1) := by decide +kernel
theorem dJ2_putChar_b72d1_42 : decode cJ2_putChar_b72d1 42 = .ok (.i2b, 1) := by decide +kernel
theorem dJ2_putChar_b72d1_43 : decode cJ2_putChar_b72d1 43 = .ok (.bastore, 1) := by decide +kernel
theorem dJ2_putChar_b72d1_44 : decode cJ2_putChar_b72d1 44 = .ok (.aload_n 0, 1) := by decide +kernel
theorem dJ2_putChar_b72d1_45 : decode cJ2_putChar_b72d1 45 = .ok (.iload_n 1, 1) := by decide +kernel
theorem dJ2_putChar_b72d1_46 : decode cJ2_putChar_b72d1 46 = .ok (.iload_n 2, 1) := by decide +kernel
theorem dJ2_putChar_b72d1_47 : decode cJ2_putChar_b72d1 47 = .ok (.getstatic 63, 3) := by decide +kernel
theorem dJ2_putChar_b72d1_50 : decode cJ2_putChar_b72d1 50 = .ok (.ishr, 1) := by decide +kernel
theorem dJ2_putChar_b72d1_51 : decode cJ2_putChar_b72d1 51 = .ok (.i2b, 1) := by decide +kernel
theorem dJ2_putChar_b72d1_52 : decode cJ2_putChar_b72d1 52 = .ok (.bastore, 1) := by decide +kernel
theorem dJ2_putChar_b72d1_53 : decode cJ2_putChar_b72d1 53 = .ok (.return_, 1) := by decide +kernel
theorem dJ2_getChar_3b067_0 : decode cJ2_getChar_3b067 0 = .ok (.getstatic 44, 3) := by decide +kernel
theorem dJ2_getChar_3b067_3 : decode cJ2_getChar_3b067 3 = .ok (.ifCond .ne 25, 3) := by decide +kernel
theorem dJ2_getChar_3b067_6 : decode cJ2_getChar_3b067 6 = .ok (.iload_n 1, 1) := by decide +kernel
theorem dJ2_getChar_3b067_7 : decode cJ2_getChar_3b067 7 = .ok (.ifCond .lt 11, 3) := by decide +kernel
theorem dJ2_getChar_3b067_10 : decode cJ2_getChar_3b067 10 = .ok (.iload_n 1, 1) := by decide +kernel
theorem dJ2_getChar_3b067_11 : decode cJ2_getChar_3b067 11 = .ok (.aload_n 0, 1) := by decide +kernel
theorem dJ2_getChar_3b067_12 : decode cJ2_getChar_3b067 12 = .ok (.invokestatic 48, 3) := by decide +kernel
theorem dJ2_getChar_3b067_15 : decode cJ2_getChar_3b067 15 = .ok (.if_icmp .lt 13, 3) := by decide +kernel
theorem dJ2_getChar_3b067_18 : decode cJ2_getChar_3b067 18 = .ok (.new 52, 3) := by decide +kernel
theorem dJ2_getChar_3b067_21 : decode cJ2_getChar_3b067 21 = .ok (.dup, 1) := by decide +kernel
theorem dJ2_getChar_3b067_22 : decode cJ2_getChar_3b067 22 = .ok (.ldc 54, 2) := by decide +kernel
theorem dJ2_getChar_3b067_24 : decode cJ2_getChar_3b067 24 = .ok (.invokespecial 56, 3) := by decide +kernel
theorem dJ2_getChar_3b067_27 : decode cJ2_getChar_3b067 27 = .ok (.athrow, 1) := by decide +kernel
theorem dJ2_getChar_3b067_28 : decode cJ2_getChar_3b067 28 = .ok (.iload_n 1, 1) := by decide +kernel
theorem dJ2_getChar_3b067_29 : decode cJ2_getChar_3b067 29 = .ok (.iconst 1, 1) := by decide +kernel
theorem dJ2_getChar_3b067_30 : decode cJ2_getChar_3b067 30 = .ok (.ishl, 1) := by decide +kernel
theorem dJ2_getChar_3b067_31 : decode cJ2_getChar_3b067 31 = .ok (.istore_n 1, 1) := by decide +kernel
theorem dJ2_getChar_3b067_32 : decode cJ2_getChar_3b067 32 = .ok (.aload_n 0, 1) := by decide +kernel
theorem dJ2_getChar_3b067_33 : decode cJ2_getChar_3b067 33 = .ok (.iload_n 1, 1) := by decide +kernel
theorem dJ2_getChar_3b067_34 : decode cJ2_getChar_3b067 34 = .ok (.iinc 1 1, 3) := by decide +kernel
theorem dJ2_getChar_3b067_37 : decode cJ2_getChar_3b067 37 = .ok (.baload, 1) := by decide +kernel
theorem dJ2_getChar_3b067_38 : decode cJ2_getChar_3b067 38 = .ok (.sipush 255, 3) := by decide +kernel
theorem dJ2_getChar_3b067_41 : decode cJ2_getChar_3b067 41 = .ok (.iand, 1) := by decide +kernel
theorem dJ2_getChar_3b067_42 : decode cJ2_getChar_3b067 42 = .ok (.getstatic 59, 3) := by decide +kernel
theorem dJ2_getChar_3b067_45 : decode cJ2_getChar_3b067 45 = .ok (.ishl, 1) := by decide +kernel
theorem dJ2_getChar_3b067_46 : decode cJ2_getChar_3b067 46 = .ok (.aload_n 0, 1) := by decide +kernel
theorem dJ2_getChar_3b067_47 : decode cJ2_getChar_3b067 47 = .ok (.iload_n 1, 1) := by decide +kernel
theorem dJ2_getChar_3b067_48 : decode cJ2_getChar_3b067 48 = .ok (.baload, 1) := by decide +kernel
theorem dJ2_getChar_3b067_49 : decode cJ2_getChar_3b067 49 = .ok (.sipush 255, 3) := by decide +kernel
theorem dJ2_getChar_3b067_52 : decode cJ2_getChar_3b067 52 = .ok (.iand, 1) := by decide +kernel
theorem dJ2_getChar_3b067_53 : decode cJ2_getChar_3b067 53 = .ok (.getstatic 63, 3) := by decide +kernel
theorem dJ2_getChar_3b067_56 : decode cJ2_getChar_3b067 56 = .ok (.ishl, 1) := by decide +kernel
theorem dJ2_getChar_3b067_57 : decode cJ2_getChar_3b067 57 = .ok (.ior, 1) := by decide +kernel
theorem dJ2_getChar_3b067_58 : decode cJ2_getChar_3b067 58 = .ok (.i2c, 1) := by decide +kernel
theorem dJ2_getChar_3b067_59 : decode cJ2_getChar_3b067 59 = .ok (.ireturn, 1) := by decide +kernel
theorem dJ2_length_9d52b_0 : decode cJ2_length_9d52b 0 = .ok (.aload_n 0, 1) := by decide +kernel
theorem dJ2_length_9d52b_1 : decode cJ2_length_9d52b 1 = .ok (.arraylength, 1) := by decide +kernel
theorem dJ2_length_9d52b_2 : decode cJ2_length_9d52b 2 = .ok (.iconst 1, 1) := by decide +kernel
theorem dJ2_length_9d52b_3 : decode cJ2_length_9d52b 3 = .ok (.ishr, 1) := by decide +kernel
theorem dJ2_length_9d52b_4 : decode cJ2_length_9d52b 4 = .ok (.ireturn, 1) := by decide +kernel
theorem dJ2_coderFromArrayLen_85cad_0 : decode cJ2_coderFromArrayLen_85cad 0 = .ok (.iload_n 1, 1) := by decide +kernel
theorem dJ2_coderFromArrayLen_85cad_1 : decode cJ2_coderFromArrayLen_85cad 1 = .ok (.aload_n 0, 1) := by decide +kernel
theorem dJ2_coderFromArrayLen_85cad_2 : decode cJ2_coderFromArrayLen_85cad 2 = .ok (.arraylength, 1) := by decide +kernel
theorem dJ2_coderFromArrayLen_85cad_3 : decode cJ2_coderFromArrayLen_85cad 3 = .ok (.isub, 1) := by decide +kernel
theorem dJ2_coderFromArrayLen_85cad_4 : decode cJ2_coderFromArrayLen_85cad 4 = .ok (.bipush 31, 2) := by decide +kernel
theorem dJ2_coderFromArrayLen_85cad_6 : decode cJ2_coderFromArrayLen_85cad 6 = .ok (.iushr, 1) := by decide +kernel
theorem dJ2_coderFromArrayLen_85cad_7 : decode cJ2_coderFromArrayLen_85cad 7 = .ok (.i2b, 1) := by decide +kernel
theorem dJ2_coderFromArrayLen_85cad_8 : decode cJ2_coderFromArrayLen_85cad 8 = .ok (.ireturn, 1) := by decide +kernel
theorem dJ2_compress_39247_0 : decode cJ2_compress_39247 0 = .ok (.iload_n 2, 1) := by decide +kernel
theorem dJ2_compress_39247_1 : decode cJ2_compress_39247 1 = .ok (.newarray .byte, 2) := by decide +kernel
theorem dJ2_compress_39247_3 : decode cJ2_compress_39247 3 = .ok (.astore_n 3, 1) := by decide +kernel
theorem dJ2_compress_39247_4 : decode cJ2_compress_39247 4 = .ok (.aload_n 0, 1) := by decide +kernel
theorem dJ2_compress_39247_5 : decode cJ2_compress_39247 5 = .ok (.iload_n 1, 1) := by decide +kernel
theorem dJ2_compress_39247_6 : decode cJ2_compress_39247 6 = .ok (.aload_n 3, 1) := by decide +kernel
theorem dJ2_compress_39247_7 : decode cJ2_compress_39247 7 = .ok (.iconst 0, 1) := by decide +kernel
theorem dJ2_compress_39247_8 : decode cJ2_compress_39247 8 = .ok (.iload_n 2, 1) := by decide +kernel
theorem dJ2_compress_39247_9 : decode cJ2_compress_39247 9 = .ok (.invokestatic 123, 3) := by decide +kernel
theorem dJ2_compress_39247_12 : decode cJ2_compress_39247 12 = .ok (.istore 4, 2) := by decide +kernel
theorem dJ2_compress_39247_14 : decode cJ2_compress_39247 14 = .ok (.iload 4, 2) := by decide +kernel
theorem dJ2_compress_39247_16 : decode cJ2_compress_39247 16 = .ok (.iload_n 2, 1) := by decide +kernel
theorem dJ2_compress_39247_17 : decode cJ2_compress_39247 17 = .ok (.if_icmp .eq 47, 3) := by decide +kernel
theorem dJ2_compress_39247_20 : decode cJ2_compress_39247 20 = .ok (.aload_n 0, 1) := by decide +kernel
theorem dJ2_compress_39247_21 : decode cJ2_compress_39247 21 = .ok (.iload_n 1, 1) := by decide +kernel
theorem dJ2_compress_39247_22 : decode cJ2_compress_39247 22 = .ok (.iconst 1, 1) := by decide +kernel
theorem dJ2_compress_39247_23 : decode cJ2_compress_39247 23 = .ok (.ishl, 1) := by decide +kernel
theorem dJ2_compress_39247_24 : decode cJ2_compress_39247 24 = .ok (.iload_n 1, 1) := by decide +kernel
theorem dJ2_compress_39247_25 : decode cJ2_compress_39247 25 = .ok (.iload_n 2, 1) := by decide +kernel
theorem dJ2_compress_39247_26 : decode cJ2_compress_39247 26 = .ok (.iadd, 1) := by decide +kernel
theorem dJ2_compress_39247_27 : decode cJ2_compress_39247 27 = .ok (.invokestatic 11, 3) := by decide +kernel
theorem dJ2_compress_39247_30 : decode cJ2_compress_39247 30 = .ok (.invokestatic 126, 3) := by decide +kernel
theorem dJ2_compress_39247_33 : decode cJ2_compress_39247 33 = .ok (.astore 5, 2) := by decide +kernel
theorem dJ2_compress_39247_35 : decode cJ2_compress_39247 35 = .ok (.aload 5, 2) := by decide +kernel
theorem dJ2_compress_39247_37 : decode cJ2_compress_39247 37 = .ok (.iload 4, 2) := by decide +kernel
theorem dJ2_compress_39247_39 : decode cJ2_compress_39247 39 = .ok (.invokestatic 71, 3) := by decide +kernel
theorem dJ2_compress_39247_42 : decode cJ2_compress_39247 42 = .ok (.sipush 255, 3) := by decide +kernel
theorem dJ2_compress_39247_45 : decode cJ2_compress_39247 45 = .ok (.if_icmp .gt 16, 3) := by decide +kernel
theorem dJ2_compress_39247_48 : decode cJ2_compress_39247 48 = .ok (.aload 5, 2) := by decide +kernel
theorem dJ2_compress_39247_50 : decode cJ2_compress_39247 50 = .ok (.iconst 0, 1) := by decide +kernel
theorem dJ2_compress_39247_51 : decode cJ2_compress_39247 51 = .ok (.aload_n 3, 1) := by decide +kernel
theorem dJ2_compress_39247_52 : decode cJ2_compress_39247 52 = .ok (.iconst 0, 1) := by decide +kernel
theorem dJ2_compress_39247_53 : decode cJ2_compress_39247 53 = .ok (.iload_n 2, 1) := by decide +kernel
theorem dJ2_compress_39247_54 : decode cJ2_compress_39247 54 = .ok (.invokestatic 123, 3) := by decide +kernel
theorem dJ2_compress_39247_57 : decode cJ2_compress_39247 57 = .ok (.iload_n 2, 1) := by decide +kernel
theorem dJ2_compress_39247_58 : decode cJ2_compress_39247 58 = .ok (.if_icmp .eq 6, 3) := by decide +kernel
theorem dJ2_compress_39247_61 : decode cJ2_compress_39247 61 = .ok (.aload 5, 2) := by decide +kernel
theorem dJ2_compress_39247_63 : decode cJ2_compress_39247 63 = .ok (.areturn, 1) := by decide +kernel
theorem dJ2_compress_39247_64 : decode cJ2_compress_39247 64 = .ok (.aload_n 3, 1) := by decide +kernel
theorem dJ2_compress_39247_65 : decode cJ2_compress_39247 65 = .ok (.areturn, 1) := by decide +kernel
theorem dJ2_compress_5af95_0 : decode cJ2_compress_5af95 0 = .ok (.iload_n 1, 1) := by decide +kernel
theorem dJ2_compress_5af95_1 : decode cJ2_compress_5af95 1 = .ok (.iload 4, 2) := by decide +kernel
theorem dJ2_compress_5af95_3 : decode cJ2_compress_5af95 3 = .ok (.aload_n 0, 1) := by decide +kernel
theorem dJ2_compress_5af95_4 : decode cJ2_compress_5af95 4 = .ok (.invokestatic 173, 3) := by decide +kernel
theorem dJ2_compress_5af95_7 : decode cJ2_compress_5af95 7 = .ok (.iconst 0, 1) := by decide +kernel
theorem dJ2_compress_5af95_8 : decode cJ2_compress_5af95 8 = .ok (.istore 5, 2) := by decide +kernel
theorem dJ2_compress_5af95_10 : decode cJ2_compress_5af95 10 = .ok (.iload 5, 2) := by decide +kernel
theorem dJ2_compress_5af95_12 : decode cJ2_compress_5af95 12 = .ok (.iload 4, 2) := by decide +kernel
theorem dJ2_compress_5af95_14 : decode cJ2_compress_5af95 14 = .ok (.if_icmp .ge 39, 3) := by decide +kernel
theorem dJ2_compress_5af95_17 : decode cJ2_compress_5af95 17 = .ok (.aload_n 0, 1) := by decide +kernel
theorem dJ2_compress_5af95_18 : decode cJ2_compress_5af95 18 = .ok (.iload_n 1, 1) := by decide +kernel
theorem dJ2_compress_5af95_19 : decode cJ2_compress_5af95 19 = .ok (.invokestatic 71, 3) := by decide +kernel
theorem dJ2_compress_5af95_22 : decode cJ2_compress_5af95 22 = .ok (.istore 6, 2) := by decide +kernel
theorem dJ2_compress_5af95_24 : decode cJ2_compress_5af95 24 = .ok (.iload 6, 2) := by decide +kernel
theorem dJ2_compress_5af95_26 : decode cJ2_compress_5af95 26 = .ok (.sipush 255, 3) := by decide +kernel
theorem dJ2_compress_5af95_29 : decode cJ2_compress_5af95 29 = .ok (.if_icmp .le 6, 3) := by decide +kernel
theorem dJ2_compress_5af95_32 : decode cJ2_compress_5af95 32 = .ok (.iload 5, 2) := by decide +kernel
theorem dJ2_compress_5af95_34 : decode cJ2_compress_5af95 34 = .ok (.ireturn, 1) := by decide +kernel
theorem dJ2_compress_5af95_35 : decode cJ2_compress_5af95 35 = .ok (.aload_n 2, 1) := by decide +kernel
theorem dJ2_compress_5af95_36 : decode cJ2_compress_5af95 36 = .ok (.iload_n 3, 1) := by decide +kernel
theorem dJ2_compress_5af95_37 : decode cJ2_compress_5af95 37 = .ok (.iload 6, 2) := by decide +kernel
theorem dJ2_compress_5af95_39 : decode cJ2_compress_5af95 39 = .ok (.i2b, 1) := by decide +kernel
theorem dJ2_compress_5af95_40 : decode cJ2_compress_5af95 40 = .ok (.bastore, 1) := by decide +kernel
theorem dJ2_compress_5af95_41 : decode cJ2_compress_5af95 41 = .ok (.iinc 1 1, 3) := by decide +kernel
theorem dJ2_compress_5af95_44 : decode cJ2_compress_5af95 44 = .ok (.iinc 3 1, 3) := by decide +kernel
theorem dJ2_compress_5af95_47 : decode cJ2_compress_5af95 47 = .ok (.iinc 5 1, 3) := by decide +kernel
theorem dJ2_compress_5af95_50 : decode cJ2_compress_5af95 50 = .ok (.goto (-40), 3) := by decide +kernel
theorem dJ2_compress_5af95_53 : decode cJ2_compress_5af95 53 = .ok (.iload 4, 2) := by decide +kernel
theorem dJ2_compress_5af95_55 : decode cJ2_compress_5af95 55 = .ok (.ireturn, 1) := by decide +kernel
theorem dJ2_fillNull_b72d1_0 : decode cJ2_fillNull_b72d1 0 = .ok (.aload_n 0, 1) := by decide +kernel
theorem dJ2_fillNull_b72d1_1 : decode cJ2_fillNull_b72d1 1 = .ok (.iload_n 1, 1) := by decide +kernel
theorem dJ2_fillNull_b72d1_2 : decode cJ2_fillNull_b72d1 2 = .ok (.iconst 1, 1) := by decide +kernel
theorem dJ2_fillNull_b72d1_3 : decode cJ2_fillNull_b72d1 3 = .ok (.ishl, 1) := by decide +kernel
theorem dJ2_fillNull_b72d1_4 : decode cJ2_fillNull_b72d1 4 = .ok (.iload_n 2, 1) := by decide +kernel
theorem dJ2_fillNull_b72d1_5 : decode cJ2_fillNull_b72d1 5 = .ok (.iconst 1, 1) := by decide +kernel
theorem dJ2_fillNull_b72d1_6 : decode cJ2_fillNull_b72d1 6 = .ok (.ishl, 1) := by decide +kernel
theorem dJ2_fillNull_b72d1_7 : decode cJ2_fillNull_b72d1 7 = .ok (.iconst 0, 1) := by decide +kernel
theorem dJ2_fillNull_b72d1_8 : decode cJ2_fillNull_b72d1 8 = .ok (.invokestatic 380, 3) := by decide +kernel
theorem dJ2_fillNull_b72d1_11 : decode cJ2_fillNull_b72d1 11 = .ok (.return_, 1) := by decide +kernel
theorem dJ2_putCharSB_b72d1_0 : decode cJ2_putCharSB_b72d1 0 = .ok (.iload_n 1, 1) := by decide +kernel
theorem dJ2_putCharSB_b72d1_1 : decode cJ2_putCharSB_b72d1 1 = .ok (.aload_n 0, 1) := by decide +kernel
theorem dJ2_putCharSB_b72d1_2 : decode cJ2_putCharSB_b72d1 2 = .ok (.invokestatic 67, 3) := by decide +kernel
theorem dJ2_putCharSB_b72d1_5 : decode cJ2_putCharSB_b72d1 5 = .ok (.aload_n 0, 1) := by decide +kernel
theorem dJ2_putCharSB_b72d1_6 : decode cJ2_putCharSB_b72d1 6 = .ok (.iload_n 1, 1) := by decide +kernel
theorem dJ2_putCharSB_b72d1_7 : decode cJ2_putCharSB_b72d1 7 = .ok (.iload_n 2, 1) := by decide +kernel
theorem dJ2_putCharSB_b72d1_8 : decode cJ2_putCharSB_b72d1 8 = .ok (.invokestatic 111, 3) := by decide +kernel
theorem dJ2_putCharSB_b72d1_11 : decode cJ2_putCharSB_b72d1 11 = .ok (.return_, 1) := by decide +kernel
theorem dJ2_getChars_46870_0 : decode cJ2_getChars_46870 0 = .ok (.iload_n 1, 1) := by decide +kernel
theorem dJ2_getChars_46870_1 : decode cJ2_getChars_46870 1 = .ok (.iload_n 2, 1) := by decide +kernel
theorem dJ2_getChars_46870_2 : decode cJ2_getChars_46870 2 = .ok (.aload_n 3, 1) := by decide +kernel
theorem dJ2_getChars_46870_3 : decode cJ2_getChars_46870 3 = .ok (.invokestatic 96, 3) := by decide +kernel
theorem dJ2_getChars_46870_6 : decode cJ2_getChars_46870 6 = .ok (.iload_n 0, 1) := by decide +kernel
theorem dJ2_getChars_46870_7 : decode cJ2_getChars_46870 7 = .ok (.iload_n 2, 1) := by decide +kernel
theorem dJ2_getChars_46870_8 : decode cJ2_getChars_46870 8 = .ok (.aload_n 3, 1) := by decide +kernel
theorem dJ2_getChars_46870_9 : decode cJ2_getChars_46870 9 = .ok (.invokestatic 393, 3) := by decide +kernel
theorem dJ2_getChars_46870_12 : decode cJ2_getChars_46870 12 = .ok (.istore 4, 2) := by decide +kernel
theorem dJ2_getChars_46870_14 : decode cJ2_getChars_46870 14 = .ok (.getstatic 44, 3) := by decide +kernel
theorem dJ2_getChars_46870_17 : decode cJ2_getChars_46870 17 = .ok (.ifCond .ne 17, 3) := by decide +kernel
theorem dJ2_getChars_46870_20 : decode cJ2_getChars_46870 20 = .ok (.iload_n 1, 1) := by decide +kernel
theorem dJ2_getChars_46870_21 : decode cJ2_getChars_46870 21 = .ok (.iload 4, 2) := by decide +kernel
theorem dJ2_getChars_46870_23 : decode cJ2_getChars_46870 23 = .ok (.if_icmp .eq 11, 3) := by decide +kernel
theorem dJ2_getChars_46870_26 : decode cJ2_getChars_46870 26 = .ok (.new 52, 3) := by decide +kernel
theorem dJ2_getChars_46870_29 : decode cJ2_getChars_46870 29 = .ok (.dup, 1) := by decide +kernel
theorem dJ2_getChars_46870_30 : decode cJ2_getChars_46870 30 = .ok (.invokespecial 66, 3) := by decide +kernel
theorem dJ2_getChars_46870_33 : decode cJ2_getChars_46870 33 = .ok (.athrow, 1) := by decide +kernel
theorem dJ2_getChars_46870_34 : decode cJ2_getChars_46870 34 = .ok (.iload 4, 2) := by decide +kernel
theorem dJ2_getChars_46870_36 : decode cJ2_getChars_46870 36 = .ok (.ireturn, 1) := by decide +kernel
theorem dJ2_putCharsAt_cd4e5_0 : decode cJ2_putCharsAt_cd4e5 0 = .ok (.iload_n 1, 1) := by decide +kernel
theorem dJ2_putCharsAt_cd4e5_1 : decode cJ2_putCharsAt_cd4e5 1 = .ok (.iconst 4, 1) := by decide +kernel
theorem dJ2_putCharsAt_cd4e5_2 : decode cJ2_putCharsAt_cd4e5 2 = .ok (.iadd, 1) := by decide +kernel
theorem dJ2_putCharsAt_cd4e5_3 : decode cJ2_putCharsAt_cd4e5 3 = .ok (.istore 6, 2) := by decide +kernel
theorem dJ2_putCharsAt_cd4e5_5 : decode cJ2_putCharsAt_cd4e5 5 = .ok (.iload_n 1, 1) := by decide +kernel
theorem dJ2_putCharsAt_cd4e5_6 : decode cJ2_putCharsAt_cd4e5 6 = .ok (.iload 6, 2) := by decide +kernel
theorem dJ2_putCharsAt_cd4e5_8 : decode cJ2_putCharsAt_cd4e5 8 = .ok (.aload_n 0, 1) := by decide +kernel
theorem dJ2_putCharsAt_cd4e5_9 : decode cJ2_putCharsAt_cd4e5 9 = .ok (.invokestatic 96, 3) := by decide +kernel
theorem dJ2_putCharsAt_cd4e5_12 : decode cJ2_putCharsAt_cd4e5 12 = .ok (.aload_n 0, 1) := by decide +kernel
theorem dJ2_putCharsAt_cd4e5_13 : decode cJ2_putCharsAt_cd4e5 13 = .ok (.iload_n 1, 1) := by decide +kernel
theorem dJ2_putCharsAt_cd4e5_14 : decode cJ2_putCharsAt_cd4e5 14 = .ok (.iinc 1 1, 3) := by decide +kernel
theorem dJ2_putCharsAt_cd4e5_17 : decode cJ2_putCharsAt_cd4e5 17 = .ok (.iload_n 2, 1) := by decide +kernel
theorem dJ2_putCharsAt_cd4e5_18 : decode cJ2_putCharsAt_cd4e5 18 = .ok (.invokestatic 111, 3) := by decide +kernel
theorem dJ2_putCharsAt_cd4e5_21 : decode cJ2_putCharsAt_cd4e5 21 = .ok (.aload_n 0, 1) := by decide +kernel
theorem dJ2_putCharsAt_cd4e5_22 : decode cJ2_putCharsAt_cd4e5 22 = .ok (.iload_n 1, 1) := by decide +kernel
theorem dJ2_putCharsAt_cd4e5_23 : decode cJ2_putCharsAt_cd4e5 23 = .ok (.iinc 1 1, 3) := by decide +kernel
theorem dJ2_putCharsAt_cd4e5_26 : decode cJ2_putCharsAt_cd4e5 26 = .ok (.iload_n 3, 1) := by decide +kernel
theorem dJ2_putCharsAt_cd4e5_27 : decode cJ2_putCharsAt_cd4e5 27 = .ok (.invokestatic 111, 3) := by decide +kernel
theorem dJ2_putCharsAt_cd4e5_30 : decode cJ2_putCharsAt_cd4e5 30 = .ok (.aload_n 0, 1) := by decide +kernel
theorem dJ2_putCharsAt_cd4e5_31 : decode cJ2_putCharsAt_cd4e5 31 = .ok (.iload_n 1, 1) := by decide +kernel
theorem dJ2_putCharsAt_cd4e5_32 : decode cJ2_putCharsAt_cd4e5 32 = .ok (.iinc 1 1, 3) := by decide +kernel
theorem dJ2_putCharsAt_cd4e5_35 : decode cJ2_putCharsAt_cd4e5 35 = .ok (.iload 4, 2) := by decide +kernel
theorem dJ2_putCharsAt_cd4e5_37 : decode cJ2_putCharsAt_cd4e5 37 = .ok (.invokestatic 111, 3) := by decide +kernel
theorem dJ2_putCharsAt_cd4e5_40 : decode cJ2_putCharsAt_cd4e5 40 = .ok (.aload_n 0, 1) := by decide +kernel
theorem dJ2_putCharsAt_cd4e5_41 : decode cJ2_putCharsAt_cd4e5 41 = .ok (.iload_n 1, 1) := by decide +kernel
theorem dJ2_putCharsAt_cd4e5_42 : decode cJ2_putCharsAt_cd4e5 42 = .ok (.iinc 1 1, 3) := by decide +kernel
theorem dJ2_putCharsAt_cd4e5_45 : decode cJ2_putCharsAt_cd4e5 45 = .ok (.iload 5, 2) := by decide +kernel
theorem dJ2_putCharsAt_cd4e5_47 : decode cJ2_putCharsAt_cd4e5 47 = .ok (.invokestatic 111, 3) := by decide +kernel
theorem dJ2_putCharsAt_cd4e5_50 : decode cJ2_putCharsAt_cd4e5 50 = .ok (.getstatic 44, 3) := by decide +kernel
theorem dJ2_putCharsAt_cd4e5_53 : decode cJ2_putCharsAt_cd4e5 53 = .ok (.ifCond .ne 17, 3) := by decide +kernel
theorem dJ2_putCharsAt_cd4e5_56 : decode cJ2_putCharsAt_cd4e5 56 = .ok (.iload_n 1, 1) := by decide +kernel
theorem dJ2_putCharsAt_cd4e5_57 : decode cJ2_putCharsAt_cd4e5 57 = .ok (.iload 6, 2) := by decide +kernel
theorem dJ2_putCharsAt_cd4e5_59 : decode cJ2_putCharsAt_cd4e5 59 = .ok (.if_icmp .eq 11, 3) := by decide +kernel
theorem dJ2_putCharsAt_cd4e5_62 : decode cJ2_putCharsAt_cd4e5 62 = .ok (.new 52, 3) := by decide +kernel
theorem dJ2_putCharsAt_cd4e5_65 : decode cJ2_putCharsAt_cd4e5 65 = .ok (.dup, 1) := by decide +kernel
theorem dJ2_putCharsAt_cd4e5_66 : decode cJ2_putCharsAt_cd4e5 66 = .ok (.invokespecial 66, 3) := by decide +kernel
theorem dJ2_putCharsAt_cd4e5_69 : decode cJ2_putCharsAt_cd4e5 69 = .ok (.athrow, 1) := by decide +kernel
theorem dJ2_putCharsAt_cd4e5_70 : decode cJ2_putCharsAt_cd4e5 70 = .ok (.iload 6, 2) := by decide +kernel
theorem dJ2_putCharsAt_cd4e5_72 : decode cJ2_putCharsAt_cd4e5 72 = .ok (.ireturn, 1) := by decide +kernel
theorem dJ2_charAt_3b067_0 : decode cJ2_charAt_3b067 0 = .ok (.iload_n 1, 1) := by decide +kernel
theorem dJ2_charAt_3b067_1 : decode cJ2_charAt_3b067 1 = .ok (.aload_n 0, 1) := by decide +kernel
theorem dJ2_charAt_3b067_2 : decode cJ2_charAt_3b067 2 = .ok (.invokestatic 67, 3) := by decide +kernel
theorem dJ2_charAt_3b067_5 : decode cJ2_charAt_3b067 5 = .ok (.aload_n 0, 1) := by decide +kernel
theorem dJ2_charAt_3b067_6 : decode cJ2_charAt_3b067 6 = .ok (.iload_n 1, 1) := by decide +kernel
theorem dJ2_charAt_3b067_7 : decode cJ2_charAt_3b067 7 = .ok (.invokestatic 71, 3) := by decide +kernel
theorem dJ2_charAt_3b067_10 : decode cJ2_charAt_3b067 10 = .ok (.ireturn, 1) := by decide +kernel
theorem dJ2_inflate_0e8fd_0 : decode cJ2_inflate_0e8fd 0 = .ok (.iload_n 3, 1) := by decide +kernel
theorem dJ2_inflate_0e8fd_1 : decode cJ2_inflate_0e8fd 1 = .ok (.iload 4, 2) := by decide +kernel
theorem dJ2_inflate_0e8fd_3 : decode cJ2_inflate_0e8fd 3 = .ok (.aload_n 2, 1) := by decide +kernel
theorem dJ2_inflate_0e8fd_4 : decode cJ2_inflate_0e8fd 4 = .ok (.invokestatic 173, 3) := by decide +kernel
theorem dJ2_inflate_0e8fd_7 : decode cJ2_inflate_0e8fd 7 = .ok (.iconst 0, 1) := by decide +kernel
theorem dJ2_inflate_0e8fd_8 : decode cJ2_inflate_0e8fd 8 = .ok (.istore 5, 2) := by decide +kernel
theorem dJ2_inflate_0e8fd_10 : decode cJ2_inflate_0e8fd 10 = .ok (.iload 5, 2) := by decide +kernel
theorem dJ2_inflate_0e8fd_12 : decode cJ2_inflate_0e8fd 12 = .ok (.iload 4, 2) := by decide +kernel
theorem dJ2_inflate_0e8fd_14 : decode cJ2_inflate_0e8fd 14 = .ok (.if_icmp .ge 27, 3) := by decide +kernel
theorem dJ2_inflate_0e8fd_17 : decode cJ2_inflate_0e8fd 17 = .ok (.aload_n 2, 1) := by decide +kernel
theorem dJ2_inflate_0e8fd_18 : decode cJ2_inflate_0e8fd 18 = .ok (.iload_n 3, 1) := by decide +kernel
theorem dJ2_inflate_0e8fd_19 : decode cJ2_inflate_0e8fd 19 = .ok (.iinc 3 1, 3) := by decide +kernel
theorem dJ2_inflate_0e8fd_22 : decode cJ2_inflate_0e8fd 22 = .ok (.aload_n 0, 1) := by decide +kernel
theorem dJ2_inflate_0e8fd_23 : decode cJ2_inflate_0e8fd 23 = .ok (.iload_n 1, 1) := by decide +kernel
theorem dJ2_inflate_0e8fd_24 : decode cJ2_inflate_0e8fd 24 = .ok (.iinc 1 1, 3) := by decide +kernel
theorem dJ2_inflate_0e8fd_27 : decode cJ2_inflate_0e8fd 27 = .ok (.baload, 1) := by decide +kernel
theorem dJ2_inflate_0e8fd_28 : decode cJ2_inflate_0e8fd 28 = .ok (.sipush 255, 3) := by decide +kernel
theorem dJ2_inflate_0e8fd_31 : decode cJ2_inflate_0e8fd 31 = .ok (.iand, 1) := by decide +kernel
theorem dJ2_inflate_0e8fd_32 : decode cJ2_inflate_0e8fd 32 = .ok (.invokestatic 111, 3) := by decide +kernel
theorem dJ2_inflate_0e8fd_35 : decode cJ2_inflate_0e8fd 35 = .ok (.iinc 5 1, 3) := by decide +kernel
theorem dJ2_inflate_0e8fd_38 : decode cJ2_inflate_0e8fd 38 = .ok (.goto (-28), 3) := by decide +kernel
theorem dJ2_inflate_0e8fd_41 : decode cJ2_inflate_0e8fd 41 = .ok (.return_, 1) := by decide +kernel
theorem dJ2_getChars_ba4f3_0 : decode cJ2_getChars_ba4f3 0 = .ok (.iload_n 1, 1) := by decide +kernel
theorem dJ2_getChars_ba4f3_1 : decode cJ2_getChars_ba4f3 1 = .ok (.istore 5, 2) := by decide +kernel
theorem dJ2_getChars_ba4f3_3 : decode cJ2_getChars_ba4f3 3 = .ok (.iload_n 0, 1) := by decide +kernel
theorem dJ2_getChars_ba4f3_4 : decode cJ2_getChars_ba4f3 4 = .ok (.ifCond .ge 7, 3) := by decide +kernel
theorem dJ2_getChars_ba4f3_7 : decode cJ2_getChars_ba4f3 7 = .ok (.iconst 1, 1) := by decide +kernel
theorem dJ2_getChars_ba4f3_8 : decode cJ2_getChars_ba4f3 8 = .ok (.goto 4, 3) := by decide +kernel
theorem dJ2_getChars_ba4f3_11 : decode cJ2_getChars_ba4f3 11 = .ok (.iconst 0, 1) := by decide +kernel
theorem dJ2_getChars_ba4f3_12 : decode cJ2_getChars_ba4f3 12 = .ok (.istore 6, 2) := by decide +kernel
theorem dJ2_getChars_ba4f3_14 : decode cJ2_getChars_ba4f3 14 = .ok (.iload 6, 2) := by decide +kernel
theorem dJ2_getChars_ba4f3_16 : decode cJ2_getChars_ba4f3 16 = .ok (.ifCond .ne 6, 3) := by decide +kernel
theorem dJ2_getChars_ba4f3_19 : decode cJ2_getChars_ba4f3 19 = .ok (.iload_n 0, 1) := by decide +kernel
theorem dJ2_getChars_ba4f3_20 : decode cJ2_getChars_ba4f3 20 = .ok (.ineg, 1) := by decide +kernel
theorem dJ2_getChars_ba4f3_21 : decode cJ2_getChars_ba4f3 21 = .ok (.istore_n 0, 1) := by decide +kernel
theorem dJ2_getChars_ba4f3_22 : decode cJ2_getChars_ba4f3 22 = .ok (.iload_n 0, 1) := by decide +kernel
theorem dJ2_getChars_ba4f3_23 : decode cJ2_getChars_ba4f3 23 = .ok (.bipush (-100), 2) := by decide +kernel
theorem dJ2_getChars_ba4f3_25 : decode cJ2_getChars_ba4f3 25 = .ok (.if_icmp .gt 51, 3) := by decide +kernel
theorem dJ2_getChars_ba4f3_28 : decode cJ2_getChars_ba4f3 28 = .ok (.iload_n 0, 1) := by decide +kernel
theorem dJ2_getChars_ba4f3_29 : decode cJ2_getChars_ba4f3 29 = .ok (.bipush 100, 2) := by decide +kernel
theorem dJ2_getChars_ba4f3_31 : decode cJ2_getChars_ba4f3 31 = .ok (.idiv, 1) := by decide +kernel
theorem dJ2_getChars_ba4f3_32 : decode cJ2_getChars_ba4f3 32 = .ok (.istore_n 3, 1) := by decide +kernel
theorem dJ2_getChars_ba4f3_33 : decode cJ2_getChars_ba4f3 33 = .ok (.iload_n 3, 1) := by decide +kernel
theorem dJ2_getChars_ba4f3_34 : decode cJ2_getChars_ba4f3 34 = .ok (.bipush 100, 2) := by decide +kernel
theorem dJ2_getChars_ba4f3_36 : decode cJ2_getChars_ba4f3 36 = .ok (.imul, 1) := by decide +kernel
theorem dJ2_getChars_ba4f3_37 : decode cJ2_getChars_ba4f3 37 = .ok (.iload_n 0, 1) := by decide +kernel
theorem dJ2_getChars_ba4f3_38 : decode cJ2_getChars_ba4f3 38 = .ok (.isub, 1) := by decide +kernel
theorem dJ2_getChars_ba4f3_39 : decode cJ2_getChars_ba4f3 39 = .ok (.istore 4, 2) := by decide +kernel
theorem dJ2_getChars_ba4f3_41 : decode cJ2_getChars_ba4f3 41 = .ok (.iload_n 3, 1) := by decide +kernel
theorem dJ2_getChars_ba4f3_42 : decode cJ2_getChars_ba4f3 42 = .ok (.istore_n 0, 1) := by decide +kernel
theorem dJ2_getChars_ba4f3_43 : decode cJ2_getChars_ba4f3 43 = .ok (.aload_n 2, 1) := by decide +kernel
theorem dJ2_getChars_ba4f3_44 : decode cJ2_getChars_ba4f3 44 = .ok (.iinc 5 (-1), 3) := by decide +kernel
theorem dJ2_getChars_ba4f3_47 : decode cJ2_getChars_ba4f3 47 = .ok (.iload 5, 2) := by decide +kernel
theorem dJ2_getChars_ba4f3_49 : decode cJ2_getChars_ba4f3 49 = .ok (.getstatic 403, 3) := by decide +kernel
theorem dJ2_getChars_ba4f3_52 : decode cJ2_getChars_ba4f3 52 = .ok (.iload 4, 2) := by decide +kernel
theorem dJ2_getChars_ba4f3_54 : decode cJ2_getChars_ba4f3 54 = .ok (.baload, 1) := by decide +kernel
theorem dJ2_getChars_ba4f3_55 : decode cJ2_getChars_ba4f3 55 = .ok (.invokestatic 111, 3) := by decide +kernel
theorem dJ2_getChars_ba4f3_58 : decode cJ2_getChars_ba4f3 58 = .ok (.aload_n 2, 1) := by decide +kernel
theorem dJ2_getChars_ba4f3_59 : decode cJ2_getChars_ba4f3 59 = .ok (.iinc 5 (-1), 3) := by decide +kernel
theorem dJ2_getChars_ba4f3_62 : decode cJ2_getChars_ba4f3 62 = .ok (.iload 5, 2) := by decide +kernel
theorem dJ2_getChars_ba4f3_64 : decode cJ2_getChars_ba4f3 64 = .ok (.getstatic 407, 3) := by decide +kernel
theorem dJ2_getChars_ba4f3_67 : decode cJ2_getChars_ba4f3 67 = .ok (.iload 4, 2) := by decide +kernel
theorem dJ2_getChars_ba4f3_69 : decode cJ2_getChars_ba4f3 69 = .ok (.baload, 1) := by decide +kernel
theorem dJ2_getChars_ba4f3_70 : decode cJ2_getChars_ba4f3 70 = .ok (.invokestatic 111, 3) := by decide +kernel
theorem dJ2_getChars_ba4f3_73 : decode cJ2_getChars_ba4f3 73 = .ok (.goto (-51), 3) := by decide +kernel
theorem dJ2_getChars_ba4f3_76 : decode cJ2_getChars_ba4f3 76 = .ok (.aload_n 2, 1) := by decide +kernel
theorem dJ2_getChars_ba4f3_77 : decode cJ2_getChars_ba4f3 77 = .ok (.iinc 5 (-1), 3) := by decide +kernel
theorem dJ2_getChars_ba4f3_80 : decode cJ2_getChars_ba4f3 80 = .ok (.iload 5, 2) := by decide +kernel
theorem dJ2_getChars_ba4f3_82 : decode cJ2_getChars_ba4f3 82 = .ok (.getstatic 403, 3) := by decide +kernel
theorem dJ2_getChars_ba4f3_85 : decode cJ2_getChars_ba4f3 85 = .ok (.iload_n 0, 1) := by decide +kernel
theorem dJ2_getChars_ba4f3_86 : decode cJ2_getChars_ba4f3 86 = .ok (.ineg, 1) := by decide +kernel
theorem dJ2_getChars_ba4f3_87 : decode cJ2_getChars_ba4f3 87 = .ok (.baload, 1) := by decide +kernel
theorem dJ2_getChars_ba4f3_88 : decode cJ2_getChars_ba4f3 88 = .ok (.invokestatic 111, 3) := by decide +kernel
theorem dJ2_getChars_ba4f3_91 : decode cJ2_getChars_ba4f3 91 = .ok (.iload_n 0, 1) := by decide +kernel
theorem dJ2_getChars_ba4f3_92 : decode cJ2_getChars_ba4f3 92 = .ok (.bipush (-9), 2) := by decide +kernel
theorem dJ2_getChars_ba4f3_94 : decode cJ2_getChars_ba4f3 94 = .ok (.if_icmp .ge 18, 3) := by decide +kernel
theorem dJ2_getChars_ba4f3_97 : decode cJ2_getChars_ba4f3 97 = .ok (.aload_n 2, 1) := by decide +kernel
theorem dJ2_getChars_ba4f3_98 : decode cJ2_getChars_ba4f3 98 = .ok (.iinc 5 (-1), 3) := by decide +kernel
theorem dJ2_getChars_ba4f3_101 : decode cJ2_getChars_ba4f3 101 = .ok (.iload 5, 2) := by decide +kernel
theorem dJ2_getChars_ba4f3_103 : decode cJ2_getChars_ba4f3 103 = .ok (.getstatic 407, 3) := by decide +kernel
theorem dJ2_getChars_ba4f3_106 : decode cJ2_getChars_ba4f3 106 = .ok (.iload_n 0, 1) := by decide +kernel
theorem dJ2_getChars_ba4f3_107 : decode cJ2_getChars_ba4f3 107 = .ok (.ineg, 1) := by decide +kernel
theorem dJ2_getChars_ba4f3_108 : decode cJ2_getChars_ba4f3 108 = .ok (.baload, 1) := by decide +kernel
theorem dJ2_getChars_ba4f3_109 : decode cJ2_getChars_ba4f3 109 = .ok (.invokestatic 111, 3) := by decide +kernel
theorem dJ2_getChars_ba4f3_112 : decode cJ2_getChars_ba4f3 112 = .ok (.iload 6, 2) := by decide +kernel
theorem dJ2_getChars_ba4f3_114 : decode cJ2_getChars_ba4f3 114 = .ok (.ifCond .eq 14, 3) := by decide +kernel
theorem dJ2_getChars_ba4f3_117 : decode cJ2_getChars_ba4f3 117 = .ok (.aload_n 2, 1) := by decide +kernel
theorem dJ2_getChars_ba4f3_118 : decode cJ2_getChars_ba4f3 118 = .ok (.iinc 5 (-1), 3) := by decide +kernel
theorem dJ2_getChars_ba4f3_121 : decode cJ2_getChars_ba4f3 121 = .ok (.iload 5, 2) := by decide +kernel
theorem dJ2_getChars_ba4f3_123 : decode cJ2_getChars_ba4f3 123 = .ok (.bipush 45, 2) := by decide +kernel
theorem dJ2_getChars_ba4f3_125 : decode cJ2_getChars_ba4f3 125 = .ok (.invokestatic 111, 3) := by decide +kernel
theorem dJ2_getChars_ba4f3_128 : decode cJ2_getChars_ba4f3 128 = .ok (.iload 5, 2) := by decide +kernel
theorem dJ2_getChars_ba4f3_130 : decode cJ2_getChars_ba4f3 130 = .ok (.ireturn, 1) := by decide +kernel
theorem dJ2_checkIndex_2214a_0 : decode cJ2_checkIndex_2214a 0 = .ok (.iload_n 0, 1) := by decide +kernel
theorem dJ2_checkIndex_2214a_1 : decode cJ2_checkIndex_2214a 1 = .ok (.aload_n 1, 1) := by decide +kernel
theorem dJ2_checkIndex_2214a_2 : decode cJ2_checkIndex_2214a 2 = .ok (.invokestatic 48, 3) := by decide +kernel
theorem dJ2_checkIndex_2214a_5 : decode cJ2_checkIndex_2214a 5 = .ok (.invokestatic 414, 3) := by decide +kernel
theorem dJ2_checkIndex_2214a_8 : decode cJ2_checkIndex_2214a 8 = .ok (.return_, 1) := by decide +kernel
theorem dJ2_checkBoundsBeginEnd_d044e_0 : decode cJ2_checkBoundsBeginEnd_d044e 0 = .ok (.iload_n 0, 1) := by decide +kernel
theorem dJ2_checkBoundsBeginEnd_d044e_1 : decode cJ2_checkBoundsBeginEnd_d044e 1 = .ok (.iload_n 1, 1) := by decide +kernel
theorem dJ2_checkBoundsBeginEnd_d044e_2 : decode cJ2_checkBoundsBeginEnd_d044e 2 = .ok (.aload_n 2, 1) := by decide +kernel
theorem dJ2_checkBoundsBeginEnd_d044e_3 : decode cJ2_checkBoundsBeginEnd_d044e 3 = .ok (.invokestatic 48, 3) := by decide +kernel
theorem dJ2_checkBoundsBeginEnd_d044e_6 : decode cJ2_checkBoundsBeginEnd_d044e 6 = .ok (.invokestatic 241, 3) := by decide +kernel
