theorem dX0_init_0 : decode cX0_init 0 = .ok (.aload_n 0, 1) := by decide +kernel
theorem dX0_init_1 : decode cX0_init 1 = .ok (.invokespecial 3, 3) := by decide +kernel
theorem dX0_init_4 : decode cX0_init 4 = .ok (.aload_n 0, 1) := by decide +kernel
theorem dX0_init_5 : decode cX0_init 5 = .ok (.bipush 6, 2) := by decide +kernel
theorem dX0_init_7 : decode cX0_init 7 = .ok (.newarray .int, 2) := by decide +kernel
theorem dX0_init_9 : decode cX0_init 9 = .ok (.putfield 9, 3) := by decide +kernel
theorem dX0_init_12 : decode cX0_init 12 = .ok (.aload_n 0, 1) := by decide +kernel
theorem dX0_init_13 : decode cX0_init 13 = .ok (.bipush 6, 2) := by decide +kernel
theorem dX0_init_15 : decode cX0_init 15 = .ok (.bipush 8, 2) := by decide +kernel
theorem dX0_init_17 : decode cX0_init 17 = .ok (.multianewarray 15 2, 4) := by decide +kernel
theorem dX0_init_21 : decode cX0_init 21 = .ok (.putfield 17, 3) := by decide +kernel
theorem dX0_init_24 : decode cX0_init 24 = .ok (.aload_n 0, 1) := by decide +kernel
theorem dX0_init_25 : decode cX0_init 25 = .ok (.bipush 6, 2) := by decide +kernel
theorem dX0_init_27 : decode cX0_init 27 = .ok (.bipush 8, 2) := by decide +kernel
theorem dX0_init_29 : decode cX0_init 29 = .ok (.multianewarray 15 2, 4) := by decide +kernel
theorem dX0_init_33 : decode cX0_init 33 = .ok (.putfield 20, 3) := by decide +kernel
theorem dX0_init_36 : decode cX0_init 36 = .ok (.aload_n 0, 1) := by decide +kernel
theorem dX0_init_37 : decode cX0_init 37 = .ok (.bipush 6, 2) := by decide +kernel
theorem dX0_init_39 : decode cX0_init 39 = .ok (.bipush 8, 2) := by decide +kernel
theorem dX0_init_41 : decode cX0_init 41 = .ok (.multianewarray 15 2, 4) := by decide +kernel
theorem dX0_init_45 : decode cX0_init 45 = .ok (.putfield 23, 3) := by decide +kernel
theorem dX0_init_48 : decode cX0_init 48 = .ok (.aload_n 0, 1) := by decide +kernel
theorem dX0_init_49 : decode cX0_init 49 = .ok (.bipush 6, 2) := by decide +kernel
theorem dX0_init_51 : decode cX0_init 51 = .ok (.bipush 8, 2) := by decide +kernel
theorem dX0_init_53 : decode cX0_init 53 = .ok (.multianewarray 15 2, 4) := by decide +kernel
theorem dX0_init_57 : decode cX0_init 57 = .ok (.putfield 26, 3) := by decide +kernel
theorem dX0_init_60 : decode cX0_init 60 = .ok (.aload_n 0, 1) := by decide +kernel
theorem dX0_init_61 : decode cX0_init 61 = .ok (.bipush 6, 2) := by decide +kernel
theorem dX0_init_63 : decode cX0_init 63 = .ok (.bipush 8, 2) := by decide +kernel
theorem dX0_init_65 : decode cX0_init 65 = .ok (.multianewarray 15 2, 4) := by decide +kernel
theorem dX0_init_69 : decode cX0_init 69 = .ok (.putfield 29, 3) := by decide +kernel
theorem dX0_init_72 : decode cX0_init 72 = .ok (.aload_n 0, 1) := by decide +kernel
theorem dX0_init_73 : decode cX0_init 73 = .ok (.bipush 6, 2) := by decide +kernel
theorem dX0_init_75 : decode cX0_init 75 = .ok (.newarray .int, 2) := by decide +kernel
theorem dX0_init_77 : decode cX0_init 77 = .ok (.putfield 32, 3) := by decide +kernel
theorem dX0_init_80 : decode cX0_init 80 = .ok (.aload_n 0, 1) := by decide +kernel
theorem dX0_init_81 : decode cX0_init 81 = .ok (.bipush 6, 2) := by decide +kernel
theorem dX0_init_83 : decode cX0_init 83 = .ok (.newarray .int, 2) := by decide +kernel
theorem dX0_init_85 : decode cX0_init 85 = .ok (.putfield 35, 3) := by decide +kernel
theorem dX0_init_88 : decode cX0_init 88 = .ok (.aload_n 0, 1) := by decide +kernel
theorem dX0_init_89 : decode cX0_init 89 = .ok (.bipush 8, 2) := by decide +kernel
theorem dX0_init_91 : decode cX0_init 91 = .ok (.newarray .int, 2) := by decide +kernel
theorem dX0_init_93 : decode cX0_init 93 = .ok (.putfield 38, 3) := by decide +kernel
theorem dX0_init_96 : decode cX0_init 96 = .ok (.return_, 1) := by decide +kernel
theorem dX0_play_0 : decode cX0_play 0 = .ok (.aload_n 0, 1) := by decide +kernel
theorem dX0_play_1 : decode cX0_play 1 = .ok (.aload_n 1, 1) := by decide +kernel
theorem dX0_play_2 : decode cX0_play 2 = .ok (.putfield 41, 3) := by decide +kernel
theorem dX0_play_5 : decode cX0_play 5 = .ok (.aload_n 0, 1) := by decide +kernel
theorem dX0_play_6 : decode cX0_play 6 = .ok (.iload_n 2, 1) := by decide +kernel
theorem dX0_play_7 : decode cX0_play 7 = .ok (.putfield 45, 3) := by decide +kernel
theorem dX0_play_10 : decode cX0_play 10 = .ok (.aload_n 0, 1) := by decide +kernel
theorem dX0_play_11 : decode cX0_play 11 = .ok (.getfield 38, 3) := by decide +kernel
theorem dX0_play_14 : decode cX0_play 14 = .ok (.iconst 0, 1) := by decide +kernel
theorem dX0_play_15 : decode cX0_play 15 = .ok (.invokestatic 49, 3) := by decide +kernel
theorem dX0_play_18 : decode cX0_play 18 = .ok (.iconst 0, 1) := by decide +kernel
theorem dX0_play_19 : decode cX0_play 19 = .ok (.istore_n 3, 1) := by decide +kernel
theorem dX0_play_20 : decode cX0_play 20 = .ok (.iload_n 3, 1) := by decide +kernel
theorem dX0_play_21 : decode cX0_play 21 = .ok (.aload_n 0, 1) := by decide +kernel
theorem dX0_play_22 : decode cX0_play 22 = .ok (.getfield 45, 3) := by decide +kernel
theorem dX0_play_25 : decode cX0_play 25 = .ok (.if_icmp .ge 39, 3) := by decide +kernel
theorem dX0_play_28 : decode cX0_play 28 = .ok (.aload_n 0, 1) := by decide +kernel
theorem dX0_play_29 : decode cX0_play 29 = .ok (.iload_n 3, 1) := by decide +kernel
theorem dX0_play_30 : decode cX0_play 30 = .ok (.invokevirtual 55, 3) := by decide +kernel
theorem dX0_play_33 : decode cX0_play 33 = .ok (.aload_n 0, 1) := by decide +kernel
theorem dX0_play_34 : decode cX0_play 34 = .ok (.getfield 32, 3) := by decide +kernel
theorem dX0_play_37 : decode cX0_play 37 = .ok (.iload_n 3, 1) := by decide +kernel
theorem dX0_play_38 : decode cX0_play 38 = .ok (.iconst 0, 1) := by decide +kernel
theorem dX0_play_39 : decode cX0_play 39 = .ok (.iastore, 1) := by decide +kernel
theorem dX0_play_40 : decode cX0_play 40 = .ok (.aload_n 0, 1) := by decide +kernel
theorem dX0_play_41 : decode cX0_play 41 = .ok (.getfield 35, 3) := by decide +kernel
theorem dX0_play_44 : decode cX0_play 44 = .ok (.iload_n 3, 1) := by decide +kernel
theorem dX0_play_45 : decode cX0_play 45 = .ok (.aload_n 0, 1) := by decide +kernel
theorem dX0_play_46 : decode cX0_play 46 = .ok (.getfield 41, 3) := by decide +kernel
theorem dX0_play_49 : decode cX0_play 49 = .ok (.getfield 59, 3) := by decide +kernel
theorem dX0_play_52 : decode cX0_play 52 = .ok (.iload_n 3, 1) := by decide +kernel
theorem dX0_play_53 : decode cX0_play 53 = .ok (.aaload, 1) := by decide +kernel
theorem dX0_play_54 : decode cX0_play 54 = .ok (.getfield 65, 3) := by decide +kernel
theorem dX0_play_57 : decode cX0_play 57 = .ok (.iastore, 1) := by decide +kernel
theorem dX0_play_58 : decode cX0_play 58 = .ok (.iinc 3 1, 3) := by decide +kernel
theorem dX0_play_61 : decode cX0_play 61 = .ok (.goto (-41), 3) := by decide +kernel
theorem dX0_play_64 : decode cX0_play 64 = .ok (.iconst 0, 1) := by decide +kernel
theorem dX0_play_65 : decode cX0_play 65 = .ok (.istore_n 3, 1) := by decide +kernel
theorem dX0_play_66 : decode cX0_play 66 = .ok (.iload_n 3, 1) := by decide +kernel
theorem dX0_play_67 : decode cX0_play 67 = .ok (.bipush 48, 2) := by decide +kernel
theorem dX0_play_69 : decode cX0_play 69 = .ok (.if_icmp .ge 30, 3) := by decide +kernel
theorem dX0_play_72 : decode cX0_play 72 = .ok (.aload_n 0, 1) := by decide +kernel
theorem dX0_play_73 : decode cX0_play 73 = .ok (.invokevirtual 70, 3) := by decide +kernel
theorem dX0_play_76 : decode cX0_play 76 = .ok (.istore 4, 2) := by decide +kernel
theorem dX0_play_78 : decode cX0_play 78 = .ok (.iload 4, 2) := by decide +kernel
theorem dX0_play_80 : decode cX0_play 80 = .ok (.iconst (-1), 1) := by decide +kernel
theorem dX0_play_81 : decode cX0_play 81 = .ok (.if_icmp .ne 6, 3) := by decide +kernel
theorem dX0_play_84 : decode cX0_play 84 = .ok (.goto 15, 3) := by decide +kernel
theorem dX0_play_87 : decode cX0_play 87 = .ok (.aload_n 0, 1) := by decide +kernel
theorem dX0_play_88 : decode cX0_play 88 = .ok (.iload 4, 2) := by decide +kernel
theorem dX0_play_90 : decode cX0_play 90 = .ok (.invokevirtual 74, 3) := by decide +kernel
theorem dX0_play_93 : decode cX0_play 93 = .ok (.iinc 3 1, 3) := by decide +kernel
theorem dX0_play_96 : decode cX0_play 96 = .ok (.goto (-30), 3) := by decide +kernel
theorem dX0_play_99 : decode cX0_play 99 = .ok (.return_, 1) := by decide +kernel
theorem dX0_layTrail_0 : decode cX0_layTrail 0 = .ok (.aload_n 0, 1) := by decide +kernel
theorem dX0_layTrail_1 : decode cX0_layTrail 1 = .ok (.getfield 41, 3) := by decide +kernel
theorem dX0_layTrail_4 : decode cX0_layTrail 4 = .ok (.getfield 59, 3) := by decide +kernel
theorem dX0_layTrail_7 : decode cX0_layTrail 7 = .ok (.iload_n 1, 1) := by decide +kernel
theorem dX0_layTrail_8 : decode cX0_layTrail 8 = .ok (.aaload, 1) := by decide +kernel
theorem dX0_layTrail_9 : decode cX0_layTrail 9 = .ok (.astore_n 2, 1) := by decide +kernel
theorem dX0_layTrail_10 : decode cX0_layTrail 10 = .ok (.iconst 0, 1) := by decide +kernel
theorem dX0_layTrail_11 : decode cX0_layTrail 11 = .ok (.istore_n 3, 1) := by decide +kernel
theorem dX0_layTrail_12 : decode cX0_layTrail 12 = .ok (.iconst 0, 1) := by decide +kernel
theorem dX0_layTrail_13 : decode cX0_layTrail 13 = .ok (.istore 4, 2) := by decide +kernel
theorem dX0_layTrail_15 : decode cX0_layTrail 15 = .ok (.iconst 0, 1) := by decide +kernel
theorem dX0_layTrail_16 : decode cX0_layTrail 16 = .ok (.istore 5, 2) := by decide +kernel
theorem dX0_layTrail_18 : decode cX0_layTrail 18 = .ok (.iconst 1, 1) := by decide +kernel
theorem dX0_layTrail_19 : decode cX0_layTrail 19 = .ok (.istore 6, 2) := by decide +kernel
theorem dX0_layTrail_21 : decode cX0_layTrail 21 = .ok (.iconst 0, 1) := by decide +kernel
theorem dX0_layTrail_22 : decode cX0_layTrail 22 = .ok (.istore 7, 2) := by decide +kernel
theorem dX0_layTrail_24 : decode cX0_layTrail 24 = .ok (.iload 7, 2) := by decide +kernel
theorem dX0_layTrail_26 : decode cX0_layTrail 26 = .ok (.aload_n 2, 1) := by decide +kernel
theorem dX0_layTrail_27 : decode cX0_layTrail 27 = .ok (.getfield 77, 3) := by decide +kernel
theorem dX0_layTrail_30 : decode cX0_layTrail 30 = .ok (.if_icmp .ge 134, 3) := by decide +kernel
theorem dX0_layTrail_33 : decode cX0_layTrail 33 = .ok (.aload_n 2, 1) := by decide +kernel
theorem dX0_layTrail_34 : decode cX0_layTrail 34 = .ok (.getfield 80, 3) := by decide +kernel
theorem dX0_layTrail_37 : decode cX0_layTrail 37 = .ok (.iload 7, 2) := by decide +kernel
theorem dX0_layTrail_39 : decode cX0_layTrail 39 = .ok (.iaload, 1) := by decide +kernel
theorem dX0_layTrail_40 : decode cX0_layTrail 40 = .ok (.istore 8, 2) := by decide +kernel
theorem dX0_layTrail_42 : decode cX0_layTrail 42 = .ok (.aload_n 0, 1) := by decide +kernel
theorem dX0_layTrail_43 : decode cX0_layTrail 43 = .ok (.getfield 41, 3) := by decide +kernel
theorem dX0_layTrail_46 : decode cX0_layTrail 46 = .ok (.iload 8, 2) := by decide +kernel
theorem dX0_layTrail_48 : decode cX0_layTrail 48 = .ok (.invokevirtual 83, 3) := by decide +kernel
theorem dX0_layTrail_51 : decode cX0_layTrail 51 = .ok (.ifCond .eq 6, 3) := by decide +kernel
theorem dX0_layTrail_54 : decode cX0_layTrail 54 = .ok (.goto 104, 3) := by decide +kernel
theorem dX0_layTrail_57 : decode cX0_layTrail 57 = .ok (.aload_n 0, 1) := by decide +kernel
theorem dX0_layTrail_58 : decode cX0_layTrail 58 = .ok (.getfield 17, 3) := by decide +kernel
theorem dX0_layTrail_61 : decode cX0_layTrail 61 = .ok (.iload_n 1, 1) := by decide +kernel
theorem dX0_layTrail_62 : decode cX0_layTrail 62 = .ok (.aaload, 1) := by decide +kernel
theorem dX0_layTrail_63 : decode cX0_layTrail 63 = .ok (.iload_n 3, 1) := by decide +kernel
theorem dX0_layTrail_64 : decode cX0_layTrail 64 = .ok (.iload 8, 2) := by decide +kernel
theorem dX0_layTrail_66 : decode cX0_layTrail 66 = .ok (.iastore, 1) := by decide +kernel
theorem dX0_layTrail_67 : decode cX0_layTrail 67 = .ok (.aload_n 0, 1) := by decide +kernel
theorem dX0_layTrail_68 : decode cX0_layTrail 68 = .ok (.getfield 20, 3) := by decide +kernel
theorem dX0_layTrail_71 : decode cX0_layTrail 71 = .ok (.iload_n 1, 1) := by decide +kernel
theorem dX0_layTrail_72 : decode cX0_layTrail 72 = .ok (.aaload, 1) := by decide +kernel
theorem dX0_layTrail_73 : decode cX0_layTrail 73 = .ok (.iload_n 3, 1) := by decide +kernel
theorem dX0_layTrail_74 : decode cX0_layTrail 74 = .ok (.iload 6, 2) := by decide +kernel
theorem dX0_layTrail_76 : decode cX0_layTrail 76 = .ok (.aload_n 0, 1) := by decide +kernel
theorem dX0_layTrail_77 : decode cX0_layTrail 77 = .ok (.getfield 41, 3) := by decide +kernel
theorem dX0_layTrail_80 : decode cX0_layTrail 80 = .ok (.getfield 87, 3) := by decide +kernel
theorem dX0_layTrail_83 : decode cX0_layTrail 83 = .ok (.iload 8, 2) := by decide +kernel
theorem dX0_layTrail_85 : decode cX0_layTrail 85 = .ok (.iaload, 1) := by decide +kernel
theorem dX0_layTrail_86 : decode cX0_layTrail 86 = .ok (.iload 4, 2) := by decide +kernel
theorem dX0_layTrail_88 : decode cX0_layTrail 88 = .ok (.isub, 1) := by decide +kernel
theorem dX0_layTrail_89 : decode cX0_layTrail 89 = .ok (.invokestatic 90, 3) := by decide +kernel
theorem dX0_layTrail_92 : decode cX0_layTrail 92 = .ok (.aload_n 0, 1) := by decide +kernel
theorem dX0_layTrail_93 : decode cX0_layTrail 93 = .ok (.getfield 41, 3) := by decide +kernel
theorem dX0_layTrail_96 : decode cX0_layTrail 96 = .ok (.getfield 96, 3) := by decide +kernel
theorem dX0_layTrail_99 : decode cX0_layTrail 99 = .ok (.iload 8, 2) := by decide +kernel
theorem dX0_layTrail_101 : decode cX0_layTrail 101 = .ok (.iaload, 1) := by decide +kernel
theorem dX0_layTrail_102 : decode cX0_layTrail 102 = .ok (.iload 5, 2) := by decide +kernel
theorem dX0_layTrail_104 : decode cX0_layTrail 104 = .ok (.isub, 1) := by decide +kernel
theorem dX0_layTrail_105 : decode cX0_layTrail 105 = .ok (.invokestatic 90, 3) := by decide +kernel
theorem dX0_layTrail_108 : decode cX0_layTrail 108 = .ok (.iadd, 1) := by decide +kernel
theorem dX0_layTrail_109 : decode cX0_layTrail 109 = .ok (.imul, 1) := by decide +kernel
theorem dX0_layTrail_110 : decode cX0_layTrail 110 = .ok (.iastore, 1) := by decide +kernel
theorem dX0_layTrail_111 : decode cX0_layTrail 111 = .ok (.iinc 3 1, 3) := by decide +kernel
theorem dX0_layTrail_114 : decode cX0_layTrail 114 = .ok (.aload_n 0, 1) := by decide +kernel
theorem dX0_layTrail_115 : decode cX0_layTrail 115 = .ok (.getfield 41, 3) := by decide +kernel
theorem dX0_layTrail_118 : decode cX0_layTrail 118 = .ok (.getfield 87, 3) := by decide +kernel
theorem dX0_layTrail_121 : decode cX0_layTrail 121 = .ok (.iload 8, 2) := by decide +kernel
theorem dX0_layTrail_123 : decode cX0_layTrail 123 = .ok (.iaload, 1) := by decide +kernel
theorem dX0_layTrail_124 : decode cX0_layTrail 124 = .ok (.istore 4, 2) := by decide +kernel
theorem dX0_layTrail_126 : decode cX0_layTrail 126 = .ok (.aload_n 0, 1) := by decide +kernel
theorem dX0_layTrail_127 : decode cX0_layTrail 127 = .ok (.getfield 41, 3) := by decide +kernel
theorem dX0_layTrail_130 : decode cX0_layTrail 130 = .ok (.getfield 96, 3) := by decide +kernel
theorem dX0_layTrail_133 : decode cX0_layTrail 133 = .ok (.iload 8, 2) := by decide +kernel
theorem dX0_layTrail_135 : decode cX0_layTrail 135 = .ok (.iaload, 1) := by decide +kernel
theorem dX0_layTrail_136 : decode cX0_layTrail 136 = .ok (.istore 5, 2) := by decide +kernel
theorem dX0_layTrail_138 : decode cX0_layTrail 138 = .ok (.iload 8, 2) := by decide +kernel
theorem dX0_layTrail_140 : decode cX0_layTrail 140 = .ok (.aload_n 2, 1) := by decide +kernel
theorem dX0_layTrail_141 : decode cX0_layTrail 141 = .ok (.getfield 99, 3) := by decide +kernel
theorem dX0_layTrail_144 : decode cX0_layTrail 144 = .ok (.if_icmp .ne 14, 3) := by decide +kernel
theorem dX0_layTrail_147 : decode cX0_layTrail 147 = .ok (.aload_n 0, 1) := by decide +kernel
theorem dX0_layTrail_148 : decode cX0_layTrail 148 = .ok (.getfield 41, 3) := by decide +kernel
theorem dX0_layTrail_151 : decode cX0_layTrail 151 = .ok (.getfield 102, 3) := by decide +kernel
theorem dX0_layTrail_154 : decode cX0_layTrail 154 = .ok (.iconst 2, 1) := by decide +kernel
theorem dX0_layTrail_155 : decode cX0_layTrail 155 = .ok (.iaload, 1) := by decide +kernel
theorem dX0_layTrail_156 : decode cX0_layTrail 156 = .ok (.istore 6, 2) := by decide +kernel
theorem dX0_layTrail_158 : decode cX0_layTrail 158 = .ok (.iinc 7 1, 3) := by decide +kernel
theorem dX0_layTrail_161 : decode cX0_layTrail 161 = .ok (.goto (-137), 3) := by decide +kernel
theorem dX0_layTrail_164 : decode cX0_layTrail 164 = .ok (.aload_n 0, 1) := by decide +kernel
theorem dX0_layTrail_165 : decode cX0_layTrail 165 = .ok (.getfield 9, 3) := by decide +kernel
theorem dX0_layTrail_168 : decode cX0_layTrail 168 = .ok (.iload_n 1, 1) := by decide +kernel
theorem dX0_layTrail_169 : decode cX0_layTrail 169 = .ok (.iload_n 3, 1) := by decide +kernel
theorem dX0_layTrail_170 : decode cX0_layTrail 170 = .ok (.iastore, 1) := by decide +kernel
theorem dX0_layTrail_171 : decode cX0_layTrail 171 = .ok (.return_, 1) := by decide +kernel
theorem dX0_nextToCome_0 : decode cX0_nextToCome 0 = .ok (.iconst (-1), 1) := by decide +kernel
theorem dX0_nextToCome_1 : decode cX0_nextToCome 1 = .ok (.istore_n 1, 1) := by decide +kernel
theorem dX0_nextToCome_2 : decode cX0_nextToCome 2 = .ok (.iconst 0, 1) := by decide +kernel
theorem dX0_nextToCome_3 : decode cX0_nextToCome 3 = .ok (.istore_n 2, 1) := by decide +kernel
theorem dX0_nextToCome_4 : decode cX0_nextToCome 4 = .ok (.iconst 0, 1) := by decide +kernel
theorem dX0_nextToCome_5 : decode cX0_nextToCome 5 = .ok (.istore_n 3, 1) := by decide +kernel
theorem dX0_nextToCome_6 : decode cX0_nextToCome 6 = .ok (.iload_n 3, 1) := by decide +kernel
theorem dX0_nextToCome_7 : decode cX0_nextToCome 7 = .ok (.aload_n 0, 1) := by decide +kernel
theorem dX0_nextToCome_8 : decode cX0_nextToCome 8 = .ok (.getfield 45, 3) := by decide +kernel
theorem dX0_nextToCome_11 : decode cX0_nextToCome 11 = .ok (.if_icmp .ge 65, 3) := by decide +kernel
theorem dX0_nextToCome_14 : decode cX0_nextToCome 14 = .ok (.aload_n 0, 1) := by decide +kernel
theorem dX0_nextToCome_15 : decode cX0_nextToCome 15 = .ok (.getfield 32, 3) := by decide +kernel
theorem dX0_nextToCome_18 : decode cX0_nextToCome 18 = .ok (.iload_n 3, 1) := by decide +kernel
theorem dX0_nextToCome_19 : decode cX0_nextToCome 19 = .ok (.iaload, 1) := by decide +kernel
theorem dX0_nextToCome_20 : decode cX0_nextToCome 20 = .ok (.aload_n 0, 1) := by decide +kernel
theorem dX0_nextToCome_21 : decode cX0_nextToCome 21 = .ok (.getfield 9, 3) := by decide +kernel
theorem dX0_nextToCome_24 : decode cX0_nextToCome 24 = .ok (.iload_n 3, 1) := by decide +kernel
theorem dX0_nextToCome_25 : decode cX0_nextToCome 25 = .ok (.iaload, 1) := by decide +kernel
theorem dX0_nextToCome_26 : decode cX0_nextToCome 26 = .ok (.if_icmp .lt 6, 3) := by decide +kernel
theorem dX0_nextToCome_29 : decode cX0_nextToCome 29 = .ok (.goto 41, 3) := by decide +kernel
theorem dX0_nextToCome_32 : decode cX0_nextToCome 32 = .ok (.aload_n 0, 1) := by decide +kernel
theorem dX0_nextToCome_33 : decode cX0_nextToCome 33 = .ok (.getfield 35, 3) := by decide +kernel
theorem dX0_nextToCome_36 : decode cX0_nextToCome 36 = .ok (.iload_n 3, 1) := by decide +kernel
theorem dX0_nextToCome_37 : decode cX0_nextToCome 37 = .ok (.iaload, 1) := by decide +kernel
theorem dX0_nextToCome_38 : decode cX0_nextToCome 38 = .ok (.aload_n 0, 1) := by decide +kernel
theorem dX0_nextToCome_39 : decode cX0_nextToCome 39 = .ok (.getfield 20, 3) := by decide +kernel
theorem dX0_nextToCome_42 : decode cX0_nextToCome 42 = .ok (.iload_n 3, 1) := by decide +kernel
theorem dX0_nextToCome_43 : decode cX0_nextToCome 43 = .ok (.aaload, 1) := by decide +kernel
theorem dX0_nextToCome_44 : decode cX0_nextToCome 44 = .ok (.aload_n 0, 1) := by decide +kernel
theorem dX0_nextToCome_45 : decode cX0_nextToCome 45 = .ok (.getfield 32, 3) := by decide +kernel
theorem dX0_nextToCome_48 : decode cX0_nextToCome 48 = .ok (.iload_n 3, 1) := by decide +kernel
theorem dX0_nextToCome_49 : decode cX0_nextToCome 49 = .ok (.iaload, 1) := by decide +kernel
theorem dX0_nextToCome_50 : decode cX0_nextToCome 50 = .ok (.iaload, 1) := by decide +kernel
theorem dX0_nextToCome_51 : decode cX0_nextToCome 51 = .ok (.iadd, 1) := by decide +kernel
theorem dX0_nextToCome_52 : decode cX0_nextToCome 52 = .ok (.istore 4, 2) := by decide +kernel
theorem dX0_nextToCome_54 : decode cX0_nextToCome 54 = .ok (.iload_n 1, 1) := by decide +kernel
theorem dX0_nextToCome_55 : decode cX0_nextToCome 55 = .ok (.iconst (-1), 1) := by decide +kernel
theorem dX0_nextToCome_56 : decode cX0_nextToCome 56 = .ok (.if_icmp .eq 9, 3) := by decide +kernel
theorem dX0_nextToCome_59 : decode cX0_nextToCome 59 = .ok (.iload 4, 2) := by decide +kernel
theorem dX0_nextToCome_61 : decode cX0_nextToCome 61 = .ok (.iload_n 2, 1) := by decide +kernel
theorem dX0_nextToCome_62 : decode cX0_nextToCome 62 = .ok (.if_icmp .ge 8, 3) := by decide +kernel
theorem dX0_nextToCome_65 : decode cX0_nextToCome 65 = .ok (.iload_n 3, 1) := by decide +kernel
theorem dX0_nextToCome_66 : decode cX0_nextToCome 66 = .ok (.istore_n 1, 1) := by decide +kernel
theorem dX0_nextToCome_67 : decode cX0_nextToCome 67 = .ok (.iload 4, 2) := by decide +kernel
theorem dX0_nextToCome_69 : decode cX0_nextToCome 69 = .ok (.istore_n 2, 1) := by decide +kernel
theorem dX0_nextToCome_70 : decode cX0_nextToCome 70 = .ok (.iinc 3 1, 3) := by decide +kernel
theorem dX0_nextToCome_73 : decode cX0_nextToCome 73 = .ok (.goto (-67), 3) := by decide +kernel
theorem dX0_nextToCome_76 : decode cX0_nextToCome 76 = .ok (.iload_n 1, 1) := by decide +kernel
theorem dX0_nextToCome_77 : decode cX0_nextToCome 77 = .ok (.ireturn, 1) := by decide +kernel
theorem dX0_makeVisit_0 : decode cX0_makeVisit 0 = .ok (.aload_n 0, 1) := by decide +kernel
theorem dX0_makeVisit_1 : decode cX0_makeVisit 1 = .ok (.getfield 32, 3) := by decide +kernel
theorem dX0_makeVisit_4 : decode cX0_makeVisit 4 = .ok (.iload_n 1, 1) := by decide +kernel
theorem dX0_makeVisit_5 : decode cX0_makeVisit 5 = .ok (.iaload, 1) := by decide +kernel
theorem dX0_makeVisit_6 : decode cX0_makeVisit 6 = .ok (.istore_n 2, 1) := by decide +kernel
theorem dX0_makeVisit_7 : decode cX0_makeVisit 7 = .ok (.aload_n 0, 1) := by decide +kernel
theorem dX0_makeVisit_8 : decode cX0_makeVisit 8 = .ok (.getfield 17, 3) := by decide +kernel
theorem dX0_makeVisit_11 : decode cX0_makeVisit 11 = .ok (.iload_n 1, 1) := by decide +kernel
theorem dX0_makeVisit_12 : decode cX0_makeVisit 12 = .ok (.aaload, 1) := by decide +kernel
theorem dX0_makeVisit_13 : decode cX0_makeVisit 13 = .ok (.iload_n 2, 1) := by decide +kernel
theorem dX0_makeVisit_14 : decode cX0_makeVisit 14 = .ok (.iaload, 1) := by decide +kernel
theorem dX0_makeVisit_15 : decode cX0_makeVisit 15 = .ok (.istore_n 3, 1) := by decide +kernel
theorem dX0_makeVisit_16 : decode cX0_makeVisit 16 = .ok (.aload_n 0, 1) := by decide +kernel
theorem dX0_makeVisit_17 : decode cX0_makeVisit 17 = .ok (.getfield 35, 3) := by decide +kernel
theorem dX0_makeVisit_20 : decode cX0_makeVisit 20 = .ok (.iload_n 1, 1) := by decide +kernel
theorem dX0_makeVisit_21 : decode cX0_makeVisit 21 = .ok (.iaload, 1) := by decide +kernel
theorem dX0_makeVisit_22 : decode cX0_makeVisit 22 = .ok (.aload_n 0, 1) := by decide +kernel
theorem dX0_makeVisit_23 : decode cX0_makeVisit 23 = .ok (.getfield 20, 3) := by decide +kernel
theorem dX0_makeVisit_26 : decode cX0_makeVisit 26 = .ok (.iload_n 1, 1) := by decide +kernel
theorem dX0_makeVisit_27 : decode cX0_makeVisit 27 = .ok (.aaload, 1) := by decide +kernel
theorem dX0_makeVisit_28 : decode cX0_makeVisit 28 = .ok (.iload_n 2, 1) := by decide +kernel
theorem dX0_makeVisit_29 : decode cX0_makeVisit 29 = .ok (.iaload, 1) := by decide +kernel
theorem dX0_makeVisit_30 : decode cX0_makeVisit 30 = .ok (.iadd, 1) := by decide +kernel
theorem dX0_makeVisit_31 : decode cX0_makeVisit 31 = .ok (.istore 4, 2) := by decide +kernel
theorem dX0_makeVisit_33 : decode cX0_makeVisit 33 = .ok (.iload 4, 2) := by decide +kernel
theorem dX0_makeVisit_35 : decode cX0_makeVisit 35 = .ok (.aload_n 0, 1) := by decide +kernel
theorem dX0_makeVisit_36 : decode cX0_makeVisit 36 = .ok (.getfield 38, 3) := by decide +kernel
theorem dX0_makeVisit_39 : decode cX0_makeVisit 39 = .ok (.iload_n 3, 1) := by decide +kernel
theorem dX0_makeVisit_40 : decode cX0_makeVisit 40 = .ok (.iaload, 1) := by decide +kernel
theorem dX0_makeVisit_41 : decode cX0_makeVisit 41 = .ok (.invokestatic 105, 3) := by decide +kernel
theorem dX0_makeVisit_44 : decode cX0_makeVisit 44 = .ok (.istore 5, 2) := by decide +kernel
theorem dX0_makeVisit_46 : decode cX0_makeVisit 46 = .ok (.iload 5, 2) := by decide +kernel
theorem dX0_makeVisit_48 : decode cX0_makeVisit 48 = .ok (.aload_n 0, 1) := by decide +kernel
theorem dX0_makeVisit_49 : decode cX0_makeVisit 49 = .ok (.getfield 41, 3) := by decide +kernel
theorem dX0_makeVisit_52 : decode cX0_makeVisit 52 = .ok (.iload_n 1, 1) := by decide +kernel
theorem dX0_makeVisit_53 : decode cX0_makeVisit 53 = .ok (.iload_n 3, 1) := by decide +kernel
theorem dX0_makeVisit_54 : decode cX0_makeVisit 54 = .ok (.invokevirtual 109, 3) := by decide +kernel
theorem dX0_makeVisit_57 : decode cX0_makeVisit 57 = .ok (.iadd, 1) := by decide +kernel
theorem dX0_makeVisit_58 : decode cX0_makeVisit 58 = .ok (.istore 6, 2) := by decide +kernel
theorem dX0_makeVisit_60 : decode cX0_makeVisit 60 = .ok (.aload_n 0, 1) := by decide +kernel
theorem dX0_makeVisit_61 : decode cX0_makeVisit 61 = .ok (.getfield 23, 3) := by decide +kernel
theorem dX0_makeVisit_64 : decode cX0_makeVisit 64 = .ok (.iload_n 1, 1) := by decide +kernel
theorem dX0_makeVisit_65 : decode cX0_makeVisit 65 = .ok (.aaload, 1) := by decide +kernel
theorem dX0_makeVisit_66 : decode cX0_makeVisit 66 = .ok (.iload_n 2, 1) := by decide +kernel
theorem dX0_makeVisit_67 : decode cX0_makeVisit 67 = .ok (.iload 4, 2) := by decide +kernel
theorem dX0_makeVisit_69 : decode cX0_makeVisit 69 = .ok (.iastore, 1) := by decide +kernel
theorem dX0_makeVisit_70 : decode cX0_makeVisit 70 = .ok (.aload_n 0, 1) := by decide +kernel
theorem dX0_makeVisit_71 : decode cX0_makeVisit 71 = .ok (.getfield 26, 3) := by decide +kernel
theorem dX0_makeVisit_74 : decode cX0_makeVisit 74 = .ok (.iload_n 1, 1) := by decide +kernel
theorem dX0_makeVisit_75 : decode cX0_makeVisit 75 = .ok (.aaload, 1) := by decide +kernel
theorem dX0_makeVisit_76 : decode cX0_makeVisit 76 = .ok (.iload_n 2, 1) := by decide +kernel
theorem dX0_makeVisit_77 : decode cX0_makeVisit 77 = .ok (.iload 5, 2) := by decide +kernel
theorem dX0_makeVisit_79 : decode cX0_makeVisit 79 = .ok (.iastore, 1) := by decide +kernel
theorem dX0_makeVisit_80 : decode cX0_makeVisit 80 = .ok (.aload_n 0, 1) := by decide +kernel
theorem dX0_makeVisit_81 : decode cX0_makeVisit 81 = .ok (.getfield 29, 3) := by decide +kernel
theorem dX0_makeVisit_84 : decode cX0_makeVisit 84 = .ok (.iload_n 1, 1) := by decide +kernel
theorem dX0_makeVisit_85 : decode cX0_makeVisit 85 = .ok (.aaload, 1) := by decide +kernel
theorem dX0_makeVisit_86 : decode cX0_makeVisit 86 = .ok (.iload_n 2, 1) := by decide +kernel
theorem dX0_makeVisit_87 : decode cX0_makeVisit 87 = .ok (.iload 6, 2) := by decide +kernel
theorem dX0_makeVisit_89 : decode cX0_makeVisit 89 = .ok (.iastore, 1) := by decide +kernel
theorem dX0_makeVisit_90 : decode cX0_makeVisit 90 = .ok (.aload_n 0, 1) := by decide +kernel
theorem dX0_makeVisit_91 : decode cX0_makeVisit 91 = .ok (.getfield 38, 3) := by decide +kernel
theorem dX0_makeVisit_94 : decode cX0_makeVisit 94 = .ok (.iload_n 3, 1) := by decide +kernel
theorem dX0_makeVisit_95 : decode cX0_makeVisit 95 = .ok (.iload 6, 2) := by decide +kernel
theorem dX0_makeVisit_97 : decode cX0_makeVisit 97 = .ok (.iastore, 1) := by decide +kernel
theorem dX0_makeVisit_98 : decode cX0_makeVisit 98 = .ok (.aload_n 0, 1) := by decide +kernel
theorem dX0_makeVisit_99 : decode cX0_makeVisit 99 = .ok (.getfield 35, 3) := by decide +kernel
theorem dX0_makeVisit_102 : decode cX0_makeVisit 102 = .ok (.iload_n 1, 1) := by decide +kernel
theorem dX0_makeVisit_103 : decode cX0_makeVisit 103 = .ok (.iload 6, 2) := by decide +kernel
theorem dX0_makeVisit_105 : decode cX0_makeVisit 105 = .ok (.iastore, 1) := by decide +kernel
theorem dX0_makeVisit_106 : decode cX0_makeVisit 106 = .ok (.aload_n 0, 1) := by decide +kernel
theorem dX0_makeVisit_107 : decode cX0_makeVisit 107 = .ok (.getfield 32, 3) := by decide +kernel
theorem dX0_makeVisit_110 : decode cX0_makeVisit 110 = .ok (.iload_n 1, 1) := by decide +kernel
theorem dX0_makeVisit_111 : decode cX0_makeVisit 111 = .ok (.iload_n 2, 1) := by decide +kernel
theorem dX0_makeVisit_112 : decode cX0_makeVisit 112 = .ok (.iconst 1, 1) := by decide +kernel
theorem dX0_makeVisit_113 : decode cX0_makeVisit 113 = .ok (.iadd, 1) := by decide +kernel
theorem dX0_makeVisit_114 : decode cX0_makeVisit 114 = .ok (.iastore, 1) := by decide +kernel
theorem dX0_makeVisit_115 : decode cX0_makeVisit 115 = .ok (.return_, 1) := by decide +kernel
theorem dX0_visitAt_0 : decode cX0_visitAt 0 = .ok (.iconst 0, 1) := by decide +kernel
theorem dX0_visitAt_1 : decode cX0_visitAt 1 = .ok (.istore_n 3, 1) := by decide +kernel
theorem dX0_visitAt_2 : decode cX0_visitAt 2 = .ok (.iload_n 3, 1) := by decide +kernel
theorem dX0_visitAt_3 : decode cX0_visitAt 3 = .ok (.aload_n 0, 1) := by decide +kernel
theorem dX0_visitAt_4 : decode cX0_visitAt 4 = .ok (.getfield 9, 3) := by decide +kernel
theorem dX0_visitAt_7 : decode cX0_visitAt 7 = .ok (.iload_n 1, 1) := by decide +kernel
theorem dX0_visitAt_8 : decode cX0_visitAt 8 = .ok (.iaload, 1) := by decide +kernel
theorem dX0_visitAt_9 : decode cX0_visitAt 9 = .ok (.if_icmp .ge 23, 3) := by decide +kernel
theorem dX0_visitAt_12 : decode cX0_visitAt 12 = .ok (.aload_n 0, 1) := by decide +kernel
theorem dX0_visitAt_13 : decode cX0_visitAt 13 = .ok (.getfield 17, 3) := by decide +kernel
theorem dX0_visitAt_16 : decode cX0_visitAt 16 = .ok (.iload_n 1, 1) := by decide +kernel
theorem dX0_visitAt_17 : decode cX0_visitAt 17 = .ok (.aaload, 1) := by decide +kernel
theorem dX0_visitAt_18 : decode cX0_visitAt 18 = .ok (.iload_n 3, 1) := by decide +kernel
theorem dX0_visitAt_19 : decode cX0_visitAt 19 = .ok (.iaload, 1) := by decide +kernel
theorem dX0_visitAt_20 : decode cX0_visitAt 20 = .ok (.iload_n 2, 1) := by decide +kernel
theorem dX0_visitAt_21 : decode cX0_visitAt 21 = .ok (.if_icmp .ne 5, 3) := by decide +kernel
theorem dX0_visitAt_24 : decode cX0_visitAt 24 = .ok (.iload_n 3, 1) := by decide +kernel
theorem dX0_visitAt_25 : decode cX0_visitAt 25 = .ok (.ireturn, 1) := by decide +kernel
theorem dX0_visitAt_26 : decode cX0_visitAt 26 = .ok (.iinc 3 1, 3) := by decide +kernel
theorem dX0_visitAt_29 : decode cX0_visitAt 29 = .ok (.goto (-27), 3) := by decide +kernel
theorem dX0_visitAt_32 : decode cX0_visitAt 32 = .ok (.iconst (-1), 1) := by decide +kernel
theorem dX0_visitAt_33 : decode cX0_visitAt 33 = .ok (.ireturn, 1) := by decide +kernel
theorem dX0_queueingOf_0 : decode cX0_queueingOf 0 = .ok (.iconst 0, 1) := by decide +kernel
theorem dX0_queueingOf_1 : decode cX0_queueingOf 1 = .ok (.istore_n 2, 1) := by decide +kernel
theorem dX0_queueingOf_2 : decode cX0_queueingOf 2 = .ok (.iconst 0, 1) := by decide +kernel
theorem dX0_queueingOf_3 : decode cX0_queueingOf 3 = .ok (.istore_n 3, 1) := by decide +kernel
theorem dX0_queueingOf_4 : decode cX0_queueingOf 4 = .ok (.iload_n 3, 1) := by decide +kernel
theorem dX0_queueingOf_5 : decode cX0_queueingOf 5 = .ok (.aload_n 0, 1) := by decide +kernel
theorem dX0_queueingOf_6 : decode cX0_queueingOf 6 = .ok (.getfield 9, 3) := by decide +kernel
theorem dX0_queueingOf_9 : decode cX0_queueingOf 9 = .ok (.iload_n 1, 1) := by decide +kernel
theorem dX0_queueingOf_10 : decode cX0_queueingOf 10 = .ok (.iaload, 1) := by decide +kernel
theorem dX0_queueingOf_11 : decode cX0_queueingOf 11 = .ok (.if_icmp .ge 29, 3) := by decide +kernel
theorem dX0_queueingOf_14 : decode cX0_queueingOf 14 = .ok (.iload_n 2, 1) := by decide +kernel
theorem dX0_queueingOf_15 : decode cX0_queueingOf 15 = .ok (.aload_n 0, 1) := by decide +kernel
theorem dX0_queueingOf_16 : decode cX0_queueingOf 16 = .ok (.getfield 26, 3) := by decide +kernel
theorem dX0_queueingOf_19 : decode cX0_queueingOf 19 = .ok (.iload_n 1, 1) := by decide +kernel
theorem dX0_queueingOf_20 : decode cX0_queueingOf 20 = .ok (.aaload, 1) := by decide +kernel
theorem dX0_queueingOf_21 : decode cX0_queueingOf 21 = .ok (.iload_n 3, 1) := by decide +kernel
theorem dX0_queueingOf_22 : decode cX0_queueingOf 22 = .ok (.iaload, 1) := by decide +kernel
theorem dX0_queueingOf_23 : decode cX0_queueingOf 23 = .ok (.aload_n 0, 1) := by decide +kernel
theorem dX0_queueingOf_24 : decode cX0_queueingOf 24 = .ok (.getfield 23, 3) := by decide +kernel
theorem dX0_queueingOf_27 : decode cX0_queueingOf 27 = .ok (.iload_n 1, 1) := by decide +kernel
theorem dX0_queueingOf_28 : decode cX0_queueingOf 28 = .ok (.aaload, 1) := by decide +kernel
theorem dX0_queueingOf_29 : decode cX0_queueingOf 29 = .ok (.iload_n 3, 1) := by decide +kernel
theorem dX0_queueingOf_30 : decode cX0_queueingOf 30 = .ok (.iaload, 1) := by decide +kernel
theorem dX0_queueingOf_31 : decode cX0_queueingOf 31 = .ok (.isub, 1) := by decide +kernel
theorem dX0_queueingOf_32 : decode cX0_queueingOf 32 = .ok (.iadd, 1) := by decide +kernel
theorem dX0_queueingOf_33 : decode cX0_queueingOf 33 = .ok (.istore_n 2, 1) := by decide +kernel
theorem dX0_queueingOf_34 : decode cX0_queueingOf 34 = .ok (.iinc 3 1, 3) := by decide +kernel
theorem dX0_queueingOf_37 : decode cX0_queueingOf 37 = .ok (.goto (-33), 3) := by decide +kernel
theorem dX0_queueingOf_40 : decode cX0_queueingOf 40 = .ok (.iload_n 2, 1) := by decide +kernel
theorem dX0_queueingOf_41 : decode cX0_queueingOf 41 = .ok (.ireturn, 1) := by decide +kernel
theorem dX0_walkingOf_0 : decode cX0_walkingOf 0 = .ok (.iconst 0, 1) := by decide +kernel
theorem dX0_walkingOf_1 : decode cX0_walkingOf 1 = .ok (.istore_n 2, 1) := by decide +kernel
theorem dX0_walkingOf_2 : decode cX0_walkingOf 2 = .ok (.iconst 0, 1) := by decide +kernel
theorem dX0_walkingOf_3 : decode cX0_walkingOf 3 = .ok (.istore_n 3, 1) := by decide +kernel
theorem dX0_walkingOf_4 : decode cX0_walkingOf 4 = .ok (.iload_n 3, 1) := by decide +kernel
theorem dX0_walkingOf_5 : decode cX0_walkingOf 5 = .ok (.aload_n 0, 1) := by decide +kernel
theorem dX0_walkingOf_6 : decode cX0_walkingOf 6 = .ok (.getfield 9, 3) := by decide +kernel
theorem dX0_walkingOf_9 : decode cX0_walkingOf 9 = .ok (.iload_n 1, 1) := by decide +kernel
theorem dX0_walkingOf_10 : decode cX0_walkingOf 10 = .ok (.iaload, 1) := by decide +kernel
theorem dX0_walkingOf_11 : decode cX0_walkingOf 11 = .ok (.if_icmp .ge 20, 3) := by decide +kernel
theorem dX0_walkingOf_14 : decode cX0_walkingOf 14 = .ok (.iload_n 2, 1) := by decide +kernel
theorem dX0_walkingOf_15 : decode cX0_walkingOf 15 = .ok (.aload_n 0, 1) := by decide +kernel
theorem dX0_walkingOf_16 : decode cX0_walkingOf 16 = .ok (.getfield 20, 3) := by decide +kernel
theorem dX0_walkingOf_19 : decode cX0_walkingOf 19 = .ok (.iload_n 1, 1) := by decide +kernel
theorem dX0_walkingOf_20 : decode cX0_walkingOf 20 = .ok (.aaload, 1) := by decide +kernel
theorem dX0_walkingOf_21 : decode cX0_walkingOf 21 = .ok (.iload_n 3, 1) := by decide +kernel
theorem dX0_walkingOf_22 : decode cX0_walkingOf 22 = .ok (.iaload, 1) := by decide +kernel
theorem dX0_walkingOf_23 : decode cX0_walkingOf 23 = .ok (.iadd, 1) := by decide +kernel
theorem dX0_walkingOf_24 : decode cX0_walkingOf 24 = .ok (.istore_n 2, 1) := by decide +kernel
theorem dX0_walkingOf_25 : decode cX0_walkingOf 25 = .ok (.iinc 3 1, 3) := by decide +kernel
theorem dX0_walkingOf_28 : decode cX0_walkingOf 28 = .ok (.goto (-24), 3) := by decide +kernel
theorem dX0_walkingOf_31 : decode cX0_walkingOf 31 = .ok (.iload_n 2, 1) := by decide +kernel
theorem dX0_walkingOf_32 : decode cX0_walkingOf 32 = .ok (.ireturn, 1) := by decide +kernel
theorem dX0_hintsOf_0 : decode cX0_hintsOf 0 = .ok (.iconst 0, 1) := by decide +kernel
theorem dX0_hintsOf_1 : decode cX0_hintsOf 1 = .ok (.istore_n 2, 1) := by decide +kernel
theorem dX0_hintsOf_2 : decode cX0_hintsOf 2 = .ok (.iconst 0, 1) := by decide +kernel
theorem dX0_hintsOf_3 : decode cX0_hintsOf 3 = .ok (.istore_n 3, 1) := by decide +kernel
theorem dX0_hintsOf_4 : decode cX0_hintsOf 4 = .ok (.iload_n 3, 1) := by decide +kernel
theorem dX0_hintsOf_5 : decode cX0_hintsOf 5 = .ok (.aload_n 0, 1) := by decide +kernel
theorem dX0_hintsOf_6 : decode cX0_hintsOf 6 = .ok (.getfield 9, 3) := by decide +kernel
theorem dX0_hintsOf_9 : decode cX0_hintsOf 9 = .ok (.iload_n 1, 1) := by decide +kernel
theorem dX0_hintsOf_10 : decode cX0_hintsOf 10 = .ok (.iaload, 1) := by decide +kernel
theorem dX0_hintsOf_11 : decode cX0_hintsOf 11 = .ok (.if_icmp .ge 35, 3) := by decide +kernel
theorem dX0_hintsOf_14 : decode cX0_hintsOf 14 = .ok (.aload_n 0, 1) := by decide +kernel
theorem dX0_hintsOf_15 : decode cX0_hintsOf 15 = .ok (.getfield 41, 3) := by decide +kernel
theorem dX0_hintsOf_18 : decode cX0_hintsOf 18 = .ok (.getfield 59, 3) := by decide +kernel
theorem dX0_hintsOf_21 : decode cX0_hintsOf 21 = .ok (.iload_n 1, 1) := by decide +kernel
theorem dX0_hintsOf_22 : decode cX0_hintsOf 22 = .ok (.aaload, 1) := by decide +kernel
theorem dX0_hintsOf_23 : decode cX0_hintsOf 23 = .ok (.aload_n 0, 1) := by decide +kernel
theorem dX0_hintsOf_24 : decode cX0_hintsOf 24 = .ok (.getfield 17, 3) := by decide +kernel
theorem dX0_hintsOf_27 : decode cX0_hintsOf 27 = .ok (.iload_n 1, 1) := by decide +kernel
theorem dX0_hintsOf_28 : decode cX0_hintsOf 28 = .ok (.aaload, 1) := by decide +kernel
theorem dX0_hintsOf_29 : decode cX0_hintsOf 29 = .ok (.iload_n 3, 1) := by decide +kernel
theorem dX0_hintsOf_30 : decode cX0_hintsOf 30 = .ok (.iaload, 1) := by decide +kernel
theorem dX0_hintsOf_31 : decode cX0_hintsOf 31 = .ok (.invokevirtual 112, 3) := by decide +kernel
theorem dX0_hintsOf_34 : decode cX0_hintsOf 34 = .ok (.ifCond .eq 6, 3) := by decide +kernel
theorem dX0_hintsOf_37 : decode cX0_hintsOf 37 = .ok (.iinc 2 1, 3) := by decide +kernel
theorem dX0_hintsOf_40 : decode cX0_hintsOf 40 = .ok (.iinc 3 1, 3) := by decide +kernel
theorem dX0_hintsOf_43 : decode cX0_hintsOf 43 = .ok (.goto (-39), 3) := by decide +kernel
theorem dX0_hintsOf_46 : decode cX0_hintsOf 46 = .ok (.iload_n 2, 1) := by decide +kernel
theorem dX0_hintsOf_47 : decode cX0_hintsOf 47 = .ok (.ireturn, 1) := by decide +kernel
theorem dX0_pointsOf_0 : decode cX0_pointsOf 0 = .ok (.aload_n 0, 1) := by decide +kernel
theorem dX0_pointsOf_1 : decode cX0_pointsOf 1 = .ok (.getfield 41, 3) := by decide +kernel
theorem dX0_pointsOf_4 : decode cX0_pointsOf 4 = .ok (.getfield 102, 3) := by decide +kernel
theorem dX0_pointsOf_7 : decode cX0_pointsOf 7 = .ok (.iconst 1, 1) := by decide +kernel
theorem dX0_pointsOf_8 : decode cX0_pointsOf 8 = .ok (.iaload, 1) := by decide +kernel
theorem dX0_pointsOf_9 : decode cX0_pointsOf 9 = .ok (.aload_n 0, 1) := by decide +kernel
theorem dX0_pointsOf_10 : decode cX0_pointsOf 10 = .ok (.getfield 9, 3) := by decide +kernel
theorem dX0_pointsOf_13 : decode cX0_pointsOf 13 = .ok (.iload_n 1, 1) := by decide +kernel
theorem dX0_pointsOf_14 : decode cX0_pointsOf 14 = .ok (.iaload, 1) := by decide +kernel
theorem dX0_pointsOf_15 : decode cX0_pointsOf 15 = .ok (.imul, 1) := by decide +kernel
theorem dX0_pointsOf_16 : decode cX0_pointsOf 16 = .ok (.aload_n 0, 1) := by decide +kernel
theorem dX0_pointsOf_17 : decode cX0_pointsOf 17 = .ok (.getfield 41, 3) := by decide +kernel
theorem dX0_pointsOf_20 : decode cX0_pointsOf 20 = .ok (.getfield 102, 3) := by decide +kernel
theorem dX0_pointsOf_23 : decode cX0_pointsOf 23 = .ok (.iconst 0, 1) := by decide +kernel
theorem dX0_pointsOf_24 : decode cX0_pointsOf 24 = .ok (.iaload, 1) := by decide +kernel
theorem dX0_pointsOf_25 : decode cX0_pointsOf 25 = .ok (.aload_n 0, 1) := by decide +kernel
theorem dX0_pointsOf_26 : decode cX0_pointsOf 26 = .ok (.iload_n 1, 1) := by decide +kernel
theorem dX0_pointsOf_27 : decode cX0_pointsOf 27 = .ok (.invokevirtual 115, 3) := by decide +kernel
theorem dX0_pointsOf_30 : decode cX0_pointsOf 30 = .ok (.imul, 1) := by decide +kernel
theorem dX0_pointsOf_31 : decode cX0_pointsOf 31 = .ok (.isub, 1) := by decide +kernel
theorem dX0_pointsOf_32 : decode cX0_pointsOf 32 = .ok (.aload_n 0, 1) := by decide +kernel
theorem dX0_pointsOf_33 : decode cX0_pointsOf 33 = .ok (.getfield 35, 3) := by decide +kernel
theorem dX0_pointsOf_36 : decode cX0_pointsOf 36 = .ok (.iload_n 1, 1) := by decide +kernel
theorem dX0_pointsOf_37 : decode cX0_pointsOf 37 = .ok (.iaload, 1) := by decide +kernel
theorem dX0_pointsOf_38 : decode cX0_pointsOf 38 = .ok (.isub, 1) := by decide +kernel
theorem dX0_pointsOf_39 : decode cX0_pointsOf 39 = .ok (.ireturn, 1) := by decide +kernel
theorem dX0_rankOf_0 : decode cX0_rankOf 0 = .ok (.iconst 0, 1) := by decide +kernel
theorem dX0_rankOf_1 : decode cX0_rankOf 1 = .ok (.istore_n 2, 1) := by decide +kernel
theorem dX0_rankOf_2 : decode cX0_rankOf 2 = .ok (.iconst 0, 1) := by decide +kernel
theorem dX0_rankOf_3 : decode cX0_rankOf 3 = .ok (.istore_n 3, 1) := by decide +kernel
theorem dX0_rankOf_4 : decode cX0_rankOf 4 = .ok (.iload_n 3, 1) := by decide +kernel
theorem dX0_rankOf_5 : decode cX0_rankOf 5 = .ok (.aload_n 0, 1) := by decide +kernel
theorem dX0_rankOf_6 : decode cX0_rankOf 6 = .ok (.getfield 45, 3) := by decide +kernel
theorem dX0_rankOf_9 : decode cX0_rankOf 9 = .ok (.if_icmp .ge 21, 3) := by decide +kernel
theorem dX0_rankOf_12 : decode cX0_rankOf 12 = .ok (.aload_n 0, 1) := by decide +kernel
theorem dX0_rankOf_13 : decode cX0_rankOf 13 = .ok (.iload_n 3, 1) := by decide +kernel
theorem dX0_rankOf_14 : decode cX0_rankOf 14 = .ok (.iload_n 1, 1) := by decide +kernel
theorem dX0_rankOf_15 : decode cX0_rankOf 15 = .ok (.invokevirtual 118, 3) := by decide +kernel
theorem dX0_rankOf_18 : decode cX0_rankOf 18 = .ok (.ifCond .eq 6, 3) := by decide +kernel
theorem dX0_rankOf_21 : decode cX0_rankOf 21 = .ok (.iinc 2 1, 3) := by decide +kernel
theorem dX0_rankOf_24 : decode cX0_rankOf 24 = .ok (.iinc 3 1, 3) := by decide +kernel
theorem dX0_rankOf_27 : decode cX0_rankOf 27 = .ok (.goto (-23), 3) := by decide +kernel
theorem dX0_rankOf_30 : decode cX0_rankOf 30 = .ok (.iload_n 2, 1) := by decide +kernel
theorem dX0_rankOf_31 : decode cX0_rankOf 31 = .ok (.ireturn, 1) := by decide +kernel
theorem dX0_isAhead_0 : decode cX0_isAhead 0 = .ok (.aload_n 0, 1) := by decide +kernel
theorem dX0_isAhead_1 : decode cX0_isAhead 1 = .ok (.iload_n 1, 1) := by decide +kernel
theorem dX0_isAhead_2 : decode cX0_isAhead 2 = .ok (.invokevirtual 122, 3) := by decide +kernel
theorem dX0_isAhead_5 : decode cX0_isAhead 5 = .ok (.istore_n 3, 1) := by decide +kernel
theorem dX0_isAhead_6 : decode cX0_isAhead 6 = .ok (.aload_n 0, 1) := by decide +kernel
theorem dX0_isAhead_7 : decode cX0_isAhead 7 = .ok (.iload_n 2, 1) := by decide +kernel
theorem dX0_isAhead_8 : decode cX0_isAhead 8 = .ok (.invokevirtual 122, 3) := by decide +kernel
theorem dX0_isAhead_11 : decode cX0_isAhead 11 = .ok (.istore 4, 2) := by decide +kernel
theorem dX0_isAhead_13 : decode cX0_isAhead 13 = .ok (.iload_n 3, 1) := by decide +kernel
theorem dX0_isAhead_14 : decode cX0_isAhead 14 = .ok (.iload 4, 2) := by decide +kernel
theorem dX0_isAhead_16 : decode cX0_isAhead 16 = .ok (.if_icmp .eq 15, 3) := by decide +kernel
theorem dX0_isAhead_19 : decode cX0_isAhead 19 = .ok (.iload_n 3, 1) := by decide +kernel
theorem dX0_isAhead_20 : decode cX0_isAhead 20 = .ok (.iload 4, 2) := by decide +kernel
theorem dX0_isAhead_22 : decode cX0_isAhead 22 = .ok (.if_icmp .le 7, 3) := by decide +kernel
theorem dX0_isAhead_25 : decode cX0_isAhead 25 = .ok (.iconst 1, 1) := by decide +kernel
theorem dX0_isAhead_26 : decode cX0_isAhead 26 = .ok (.goto 4, 3) := by decide +kernel
theorem dX0_isAhead_29 : decode cX0_isAhead 29 = .ok (.iconst 0, 1) := by decide +kernel
theorem dX0_isAhead_30 : decode cX0_isAhead 30 = .ok (.ireturn, 1) := by decide +kernel
theorem dX0_isAhead_31 : decode cX0_isAhead 31 = .ok (.aload_n 0, 1) := by decide +kernel
theorem dX0_isAhead_32 : decode cX0_isAhead 32 = .ok (.getfield 35, 3) := by decide +kernel
theorem dX0_isAhead_35 : decode cX0_isAhead 35 = .ok (.iload_n 1, 1) := by decide +kernel
theorem dX0_isAhead_36 : decode cX0_isAhead 36 = .ok (.iaload, 1) := by decide +kernel
theorem dX0_isAhead_37 : decode cX0_isAhead 37 = .ok (.aload_n 0, 1) := by decide +kernel
theorem dX0_isAhead_38 : decode cX0_isAhead 38 = .ok (.getfield 35, 3) := by decide +kernel
theorem dX0_isAhead_41 : decode cX0_isAhead 41 = .ok (.iload_n 2, 1) := by decide +kernel
theorem dX0_isAhead_42 : decode cX0_isAhead 42 = .ok (.iaload, 1) := by decide +kernel
theorem dX0_isAhead_43 : decode cX0_isAhead 43 = .ok (.if_icmp .eq 24, 3) := by decide +kernel
theorem dX0_isAhead_46 : decode cX0_isAhead 46 = .ok (.aload_n 0, 1) := by decide +kernel
theorem dX0_isAhead_47 : decode cX0_isAhead 47 = .ok (.getfield 35, 3) := by decide +kernel
theorem dX0_isAhead_50 : decode cX0_isAhead 50 = .ok (.iload_n 1, 1) := by decide +kernel
theorem dX0_isAhead_51 : decode cX0_isAhead 51 = .ok (.iaload, 1) := by decide +kernel
theorem dX0_isAhead_52 : decode cX0_isAhead 52 = .ok (.aload_n 0, 1) := by decide +kernel
theorem dX0_isAhead_53 : decode cX0_isAhead 53 = .ok (.getfield 35, 3) := by decide +kernel
theorem dX0_isAhead_56 : decode cX0_isAhead 56 = .ok (.iload_n 2, 1) := by decide +kernel
theorem dX0_isAhead_57 : decode cX0_isAhead 57 = .ok (.iaload, 1) := by decide +kernel
theorem dX0_isAhead_58 : decode cX0_isAhead 58 = .ok (.if_icmp .ge 7, 3) := by decide +kernel
theorem dX0_isAhead_61 : decode cX0_isAhead 61 = .ok (.iconst 1, 1) := by decide +kernel
theorem dX0_isAhead_62 : decode cX0_isAhead 62 = .ok (.goto 4, 3) := by decide +kernel
theorem dX0_isAhead_65 : decode cX0_isAhead 65 = .ok (.iconst 0, 1) := by decide +kernel
theorem dX0_isAhead_66 : decode cX0_isAhead 66 = .ok (.ireturn, 1) := by decide +kernel
theorem dX0_isAhead_67 : decode cX0_isAhead 67 = .ok (.iload_n 1, 1) := by decide +kernel
theorem dX0_isAhead_68 : decode cX0_isAhead 68 = .ok (.iload_n 2, 1) := by decide +kernel
theorem dX0_isAhead_69 : decode cX0_isAhead 69 = .ok (.if_icmp .ge 7, 3) := by decide +kernel
theorem dX0_isAhead_72 : decode cX0_isAhead 72 = .ok (.iconst 1, 1) := by decide +kernel
theorem dX0_isAhead_73 : decode cX0_isAhead 73 = .ok (.goto 4, 3) := by decide +kernel
theorem dX0_isAhead_76 : decode cX0_isAhead 76 = .ok (.iconst 0, 1) := by decide +kernel
theorem dX0_isAhead_77 : decode cX0_isAhead 77 = .ok (.ireturn, 1) := by decide +kernel
theorem dX0_placeWithTeam_0 : decode cX0_placeWithTeam 0 = .ok (.iconst 0, 1) := by decide +kernel
theorem dX0_placeWithTeam_1 : decode cX0_placeWithTeam 1 = .ok (.istore_n 3, 1) := by decide +kernel
theorem dX0_placeWithTeam_2 : decode cX0_placeWithTeam 2 = .ok (.iload_n 3, 1) := by decide +kernel
theorem dX0_placeWithTeam_3 : decode cX0_placeWithTeam 3 = .ok (.aload_n 0, 1) := by decide +kernel
theorem dX0_placeWithTeam_4 : decode cX0_placeWithTeam 4 = .ok (.getfield 9, 3) := by decide +kernel
theorem dX0_placeWithTeam_7 : decode cX0_placeWithTeam 7 = .ok (.iload_n 1, 1) := by decide +kernel
theorem dX0_placeWithTeam_8 : decode cX0_placeWithTeam 8 = .ok (.iaload, 1) := by decide +kernel
theorem dX0_placeWithTeam_9 : decode cX0_placeWithTeam 9 = .ok (.if_icmp .ge 28, 3) := by decide +kernel
theorem dX0_placeWithTeam_12 : decode cX0_placeWithTeam 12 = .ok (.aload_n 0, 1) := by decide +kernel
theorem dX0_placeWithTeam_13 : decode cX0_placeWithTeam 13 = .ok (.iload_n 1, 1) := by decide +kernel
theorem dX0_placeWithTeam_14 : decode cX0_placeWithTeam 14 = .ok (.iload_n 3, 1) := by decide +kernel
theorem dX0_placeWithTeam_15 : decode cX0_placeWithTeam 15 = .ok (.iload_n 2, 1) := by decide +kernel
theorem dX0_placeWithTeam_16 : decode cX0_placeWithTeam 16 = .ok (.invokevirtual 125, 3) := by decide +kernel
theorem dX0_placeWithTeam_19 : decode cX0_placeWithTeam 19 = .ok (.ifCond .eq 12, 3) := by decide +kernel
theorem dX0_placeWithTeam_22 : decode cX0_placeWithTeam 22 = .ok (.aload_n 0, 1) := by decide +kernel
theorem dX0_placeWithTeam_23 : decode cX0_placeWithTeam 23 = .ok (.getfield 17, 3) := by decide +kernel
theorem dX0_placeWithTeam_26 : decode cX0_placeWithTeam 26 = .ok (.iload_n 1, 1) := by decide +kernel
theorem dX0_placeWithTeam_27 : decode cX0_placeWithTeam 27 = .ok (.aaload, 1) := by decide +kernel
theorem dX0_placeWithTeam_28 : decode cX0_placeWithTeam 28 = .ok (.iload_n 3, 1) := by decide +kernel
theorem dX0_placeWithTeam_29 : decode cX0_placeWithTeam 29 = .ok (.iaload, 1) := by decide +kernel
theorem dX0_placeWithTeam_30 : decode cX0_placeWithTeam 30 = .ok (.ireturn, 1) := by decide +kernel
theorem dX0_placeWithTeam_31 : decode cX0_placeWithTeam 31 = .ok (.iinc 3 1, 3) := by decide +kernel
theorem dX0_placeWithTeam_34 : decode cX0_placeWithTeam 34 = .ok (.goto (-32), 3) := by decide +kernel
theorem dX0_placeWithTeam_37 : decode cX0_placeWithTeam 37 = .ok (.ldc 129, 2) := by decide +kernel
theorem dX0_placeWithTeam_39 : decode cX0_placeWithTeam 39 = .ok (.ireturn, 1) := by decide +kernel
theorem dX0_isThere_0 : decode cX0_isThere 0 = .ok (.aload_n 0, 1) := by decide +kernel
theorem dX0_isThere_1 : decode cX0_isThere 1 = .ok (.getfield 23, 3) := by decide +kernel
theorem dX0_isThere_4 : decode cX0_isThere 4 = .ok (.iload_n 1, 1) := by decide +kernel
theorem dX0_isThere_5 : decode cX0_isThere 5 = .ok (.aaload, 1) := by decide +kernel
theorem dX0_isThere_6 : decode cX0_isThere 6 = .ok (.iload_n 2, 1) := by decide +kernel
theorem dX0_isThere_7 : decode cX0_isThere 7 = .ok (.iaload, 1) := by decide +kernel
theorem dX0_isThere_8 : decode cX0_isThere 8 = .ok (.iload_n 3, 1) := by decide +kernel
theorem dX0_isThere_9 : decode cX0_isThere 9 = .ok (.if_icmp .gt 19, 3) := by decide +kernel
theorem dX0_isThere_12 : decode cX0_isThere 12 = .ok (.iload_n 3, 1) := by decide +kernel
theorem dX0_isThere_13 : decode cX0_isThere 13 = .ok (.aload_n 0, 1) := by decide +kernel
theorem dX0_isThere_14 : decode cX0_isThere 14 = .ok (.getfield 29, 3) := by decide +kernel
theorem dX0_isThere_17 : decode cX0_isThere 17 = .ok (.iload_n 1, 1) := by decide +kernel
theorem dX0_isThere_18 : decode cX0_isThere 18 = .ok (.aaload, 1) := by decide +kernel
theorem dX0_isThere_19 : decode cX0_isThere 19 = .ok (.iload_n 2, 1) := by decide +kernel
theorem dX0_isThere_20 : decode cX0_isThere 20 = .ok (.iaload, 1) := by decide +kernel
theorem dX0_isThere_21 : decode cX0_isThere 21 = .ok (.if_icmp .ge 7, 3) := by decide +kernel
theorem dX0_isThere_24 : decode cX0_isThere 24 = .ok (.iconst 1, 1) := by decide +kernel
theorem dX0_isThere_25 : decode cX0_isThere 25 = .ok (.goto 4, 3) := by decide +kernel
theorem dX0_isThere_28 : decode cX0_isThere 28 = .ok (.iconst 0, 1) := by decide +kernel
theorem dX0_isThere_29 : decode cX0_isThere 29 = .ok (.ireturn, 1) := by decide +kernel
theorem dX0_placeToldTo_0 : decode cX0_placeToldTo 0 = .ok (.iload_n 2, 1) := by decide +kernel
theorem dX0_placeToldTo_1 : decode cX0_placeToldTo 1 = .ok (.aload_n 0, 1) := by decide +kernel
theorem dX0_placeToldTo_2 : decode cX0_placeToldTo 2 = .ok (.getfield 41, 3) := by decide +kernel
theorem dX0_placeToldTo_5 : decode cX0_placeToldTo 5 = .ok (.getfield 59, 3) := by decide +kernel
theorem dX0_placeToldTo_8 : decode cX0_placeToldTo 8 = .ok (.iload_n 1, 1) := by decide +kernel
theorem dX0_placeToldTo_9 : decode cX0_placeToldTo 9 = .ok (.aaload, 1) := by decide +kernel
theorem dX0_placeToldTo_10 : decode cX0_placeToldTo 10 = .ok (.getfield 65, 3) := by decide +kernel
theorem dX0_placeToldTo_13 : decode cX0_placeToldTo 13 = .ok (.if_icmp .ge 6, 3) := by decide +kernel
theorem dX0_placeToldTo_16 : decode cX0_placeToldTo 16 = .ok (.ldc 129, 2) := by decide +kernel
theorem dX0_placeToldTo_18 : decode cX0_placeToldTo 18 = .ok (.ireturn, 1) := by decide +kernel
theorem dX0_placeToldTo_19 : decode cX0_placeToldTo 19 = .ok (.iconst 0, 1) := by decide +kernel
theorem dX0_placeToldTo_20 : decode cX0_placeToldTo 20 = .ok (.istore_n 3, 1) := by decide +kernel
theorem dX0_placeToldTo_21 : decode cX0_placeToldTo 21 = .ok (.iload_n 3, 1) := by decide +kernel
theorem dX0_placeToldTo_22 : decode cX0_placeToldTo 22 = .ok (.aload_n 0, 1) := by decide +kernel
theorem dX0_placeToldTo_23 : decode cX0_placeToldTo 23 = .ok (.getfield 9, 3) := by decide +kernel
theorem dX0_placeToldTo_26 : decode cX0_placeToldTo 26 = .ok (.iload_n 1, 1) := by decide +kernel
theorem dX0_placeToldTo_27 : decode cX0_placeToldTo 27 = .ok (.iaload, 1) := by decide +kernel
theorem dX0_placeToldTo_28 : decode cX0_placeToldTo 28 = .ok (.if_icmp .ge 30, 3) := by decide +kernel
theorem dX0_placeToldTo_31 : decode cX0_placeToldTo 31 = .ok (.iload_n 2, 1) := by decide +kernel
theorem dX0_placeToldTo_32 : decode cX0_placeToldTo 32 = .ok (.aload_n 0, 1) := by decide +kernel
theorem dX0_placeToldTo_33 : decode cX0_placeToldTo 33 = .ok (.getfield 29, 3) := by decide +kernel
theorem dX0_placeToldTo_36 : decode cX0_placeToldTo 36 = .ok (.iload_n 1, 1) := by decide +kernel
theorem dX0_placeToldTo_37 : decode cX0_placeToldTo 37 = .ok (.aaload, 1) := by decide +kernel
theorem dX0_placeToldTo_38 : decode cX0_placeToldTo 38 = .ok (.iload_n 3, 1) := by decide +kernel
theorem dX0_placeToldTo_39 : decode cX0_placeToldTo 39 = .ok (.iaload, 1) := by decide +kernel
theorem dX0_placeToldTo_40 : decode cX0_placeToldTo 40 = .ok (.if_icmp .ge 12, 3) := by decide +kernel
theorem dX0_placeToldTo_43 : decode cX0_placeToldTo 43 = .ok (.aload_n 0, 1) := by decide +kernel
theorem dX0_placeToldTo_44 : decode cX0_placeToldTo 44 = .ok (.getfield 17, 3) := by decide +kernel
theorem dX0_placeToldTo_47 : decode cX0_placeToldTo 47 = .ok (.iload_n 1, 1) := by decide +kernel
theorem dX0_placeToldTo_48 : decode cX0_placeToldTo 48 = .ok (.aaload, 1) := by decide +kernel
theorem dX0_placeToldTo_49 : decode cX0_placeToldTo 49 = .ok (.iload_n 3, 1) := by decide +kernel
theorem dX0_placeToldTo_50 : decode cX0_placeToldTo 50 = .ok (.iaload, 1) := by decide +kernel
theorem dX0_placeToldTo_51 : decode cX0_placeToldTo 51 = .ok (.ireturn, 1) := by decide +kernel
theorem dX0_placeToldTo_52 : decode cX0_placeToldTo 52 = .ok (.iinc 3 1, 3) := by decide +kernel
theorem dX0_placeToldTo_55 : decode cX0_placeToldTo 55 = .ok (.goto (-34), 3) := by decide +kernel
theorem dX0_placeToldTo_58 : decode cX0_placeToldTo 58 = .ok (.ldc 129, 2) := by decide +kernel
theorem dX0_placeToldTo_60 : decode cX0_placeToldTo 60 = .ok (.ireturn, 1) := by decide +kernel
theorem dX0_meetAt_0 : decode cX0_meetAt 0 = .ok (.aload_n 0, 1) := by decide +kernel
theorem dX0_meetAt_1 : decode cX0_meetAt 1 = .ok (.iload_n 1, 1) := by decide +kernel
theorem dX0_meetAt_2 : decode cX0_meetAt 2 = .ok (.iload_n 3, 1) := by decide +kernel
theorem dX0_meetAt_3 : decode cX0_meetAt 3 = .ok (.invokevirtual 130, 3) := by decide +kernel
theorem dX0_meetAt_6 : decode cX0_meetAt 6 = .ok (.istore 4, 2) := by decide +kernel
theorem dX0_meetAt_8 : decode cX0_meetAt 8 = .ok (.aload_n 0, 1) := by decide +kernel
theorem dX0_meetAt_9 : decode cX0_meetAt 9 = .ok (.iload_n 2, 1) := by decide +kernel
theorem dX0_meetAt_10 : decode cX0_meetAt 10 = .ok (.iload_n 3, 1) := by decide +kernel
theorem dX0_meetAt_11 : decode cX0_meetAt 11 = .ok (.invokevirtual 130, 3) := by decide +kernel
theorem dX0_meetAt_14 : decode cX0_meetAt 14 = .ok (.istore 5, 2) := by decide +kernel
theorem dX0_meetAt_16 : decode cX0_meetAt 16 = .ok (.iload 4, 2) := by decide +kernel
theorem dX0_meetAt_18 : decode cX0_meetAt 18 = .ok (.iconst (-1), 1) := by decide +kernel
theorem dX0_meetAt_19 : decode cX0_meetAt 19 = .ok (.if_icmp .eq 9, 3) := by decide +kernel
theorem dX0_meetAt_22 : decode cX0_meetAt 22 = .ok (.iload 5, 2) := by decide +kernel
theorem dX0_meetAt_24 : decode cX0_meetAt 24 = .ok (.iconst (-1), 1) := by decide +kernel
theorem dX0_meetAt_25 : decode cX0_meetAt 25 = .ok (.if_icmp .ne 5, 3) := by decide +kernel
theorem dX0_meetAt_28 : decode cX0_meetAt 28 = .ok (.iconst 0, 1) := by decide +kernel
theorem dX0_meetAt_29 : decode cX0_meetAt 29 = .ok (.ireturn, 1) := by decide +kernel
theorem dX0_meetAt_30 : decode cX0_meetAt 30 = .ok (.aload_n 0, 1) := by decide +kernel
theorem dX0_meetAt_31 : decode cX0_meetAt 31 = .ok (.getfield 23, 3) := by decide +kernel
theorem dX0_meetAt_34 : decode cX0_meetAt 34 = .ok (.iload_n 1, 1) := by decide +kernel
theorem dX0_meetAt_35 : decode cX0_meetAt 35 = .ok (.aaload, 1) := by decide +kernel
theorem dX0_meetAt_36 : decode cX0_meetAt 36 = .ok (.iload 4, 2) := by decide +kernel
theorem dX0_meetAt_38 : decode cX0_meetAt 38 = .ok (.iaload, 1) := by decide +kernel
theorem dX0_meetAt_39 : decode cX0_meetAt 39 = .ok (.aload_n 0, 1) := by decide +kernel
theorem dX0_meetAt_40 : decode cX0_meetAt 40 = .ok (.getfield 29, 3) := by decide +kernel
theorem dX0_meetAt_43 : decode cX0_meetAt 43 = .ok (.iload_n 2, 1) := by decide +kernel
theorem dX0_meetAt_44 : decode cX0_meetAt 44 = .ok (.aaload, 1) := by decide +kernel
theorem dX0_meetAt_45 : decode cX0_meetAt 45 = .ok (.iload 5, 2) := by decide +kernel
theorem dX0_meetAt_47 : decode cX0_meetAt 47 = .ok (.iaload, 1) := by decide +kernel
theorem dX0_meetAt_48 : decode cX0_meetAt 48 = .ok (.if_icmp .gt 28, 3) := by decide +kernel
theorem dX0_meetAt_51 : decode cX0_meetAt 51 = .ok (.aload_n 0, 1) := by decide +kernel
theorem dX0_meetAt_52 : decode cX0_meetAt 52 = .ok (.getfield 23, 3) := by decide +kernel
theorem dX0_meetAt_55 : decode cX0_meetAt 55 = .ok (.iload_n 2, 1) := by decide +kernel
theorem dX0_meetAt_56 : decode cX0_meetAt 56 = .ok (.aaload, 1) := by decide +kernel
theorem dX0_meetAt_57 : decode cX0_meetAt 57 = .ok (.iload 5, 2) := by decide +kernel
theorem dX0_meetAt_59 : decode cX0_meetAt 59 = .ok (.iaload, 1) := by decide +kernel
theorem dX0_meetAt_60 : decode cX0_meetAt 60 = .ok (.aload_n 0, 1) := by decide +kernel
theorem dX0_meetAt_61 : decode cX0_meetAt 61 = .ok (.getfield 29, 3) := by decide +kernel
theorem dX0_meetAt_64 : decode cX0_meetAt 64 = .ok (.iload_n 1, 1) := by decide +kernel
theorem dX0_meetAt_65 : decode cX0_meetAt 65 = .ok (.aaload, 1) := by decide +kernel
theorem dX0_meetAt_66 : decode cX0_meetAt 66 = .ok (.iload 4, 2) := by decide +kernel
theorem dX0_meetAt_68 : decode cX0_meetAt 68 = .ok (.iaload, 1) := by decide +kernel
theorem dX0_meetAt_69 : decode cX0_meetAt 69 = .ok (.if_icmp .gt 7, 3) := by decide +kernel
theorem dX0_meetAt_72 : decode cX0_meetAt 72 = .ok (.iconst 1, 1) := by decide +kernel
theorem dX0_meetAt_73 : decode cX0_meetAt 73 = .ok (.goto 4, 3) := by decide +kernel
theorem dX0_meetAt_76 : decode cX0_meetAt 76 = .ok (.iconst 0, 1) := by decide +kernel
theorem dX0_meetAt_77 : decode cX0_meetAt 77 = .ok (.ireturn, 1) := by decide +kernel
theorem dX0_meet_0 : decode cX0_meet 0 = .ok (.iconst 0, 1) := by decide +kernel
theorem dX0_meet_1 : decode cX0_meet 1 = .ok (.istore_n 3, 1) := by decide +kernel
theorem dX0_meet_2 : decode cX0_meet 2 = .ok (.iload_n 3, 1) := by decide +kernel
theorem dX0_meet_3 : decode cX0_meet 3 = .ok (.aload_n 0, 1) := by decide +kernel
theorem dX0_meet_4 : decode cX0_meet 4 = .ok (.getfield 9, 3) := by decide +kernel
theorem dX0_meet_7 : decode cX0_meet 7 = .ok (.iload_n 1, 1) := by decide +kernel
theorem dX0_meet_8 : decode cX0_meet 8 = .ok (.iaload, 1) := by decide +kernel
theorem dX0_meet_9 : decode cX0_meet 9 = .ok (.if_icmp .ge 28, 3) := by decide +kernel
theorem dX0_meet_12 : decode cX0_meet 12 = .ok (.aload_n 0, 1) := by decide +kernel
theorem dX0_meet_13 : decode cX0_meet 13 = .ok (.iload_n 1, 1) := by decide +kernel
theorem dX0_meet_14 : decode cX0_meet 14 = .ok (.iload_n 2, 1) := by decide +kernel
theorem dX0_meet_15 : decode cX0_meet 15 = .ok (.aload_n 0, 1) := by decide +kernel
theorem dX0_meet_16 : decode cX0_meet 16 = .ok (.getfield 17, 3) := by decide +kernel
theorem dX0_meet_19 : decode cX0_meet 19 = .ok (.iload_n 1, 1) := by decide +kernel
theorem dX0_meet_20 : decode cX0_meet 20 = .ok (.aaload, 1) := by decide +kernel
theorem dX0_meet_21 : decode cX0_meet 21 = .ok (.iload_n 3, 1) := by decide +kernel
theorem dX0_meet_22 : decode cX0_meet 22 = .ok (.iaload, 1) := by decide +kernel
theorem dX0_meet_23 : decode cX0_meet 23 = .ok (.invokevirtual 133, 3) := by decide +kernel
theorem dX0_meet_26 : decode cX0_meet 26 = .ok (.ifCond .eq 5, 3) := by decide +kernel
theorem dX0_meet_29 : decode cX0_meet 29 = .ok (.iconst 1, 1) := by decide +kernel
theorem dX0_meet_30 : decode cX0_meet 30 = .ok (.ireturn, 1) := by decide +kernel
theorem dX0_meet_31 : decode cX0_meet 31 = .ok (.iinc 3 1, 3) := by decide +kernel
theorem dX0_meet_34 : decode cX0_meet 34 = .ok (.goto (-32), 3) := by decide +kernel
theorem dX0_meet_37 : decode cX0_meet 37 = .ok (.iconst 0, 1) := by decide +kernel
theorem dX0_meet_38 : decode cX0_meet 38 = .ok (.ireturn, 1) := by decide +kernel
theorem dX0_teamsMetBy_0 : decode cX0_teamsMetBy 0 = .ok (.iconst 0, 1) := by decide +kernel
theorem dX0_teamsMetBy_1 : decode cX0_teamsMetBy 1 = .ok (.istore_n 2, 1) := by decide +kernel
theorem dX0_teamsMetBy_2 : decode cX0_teamsMetBy 2 = .ok (.iconst 0, 1) := by decide +kernel
theorem dX0_teamsMetBy_3 : decode cX0_teamsMetBy 3 = .ok (.istore_n 3, 1) := by decide +kernel
theorem dX0_teamsMetBy_4 : decode cX0_teamsMetBy 4 = .ok (.iload_n 3, 1) := by decide +kernel
theorem dX0_teamsMetBy_5 : decode cX0_teamsMetBy 5 = .ok (.aload_n 0, 1) := by decide +kernel
theorem dX0_teamsMetBy_6 : decode cX0_teamsMetBy 6 = .ok (.getfield 45, 3) := by decide +kernel
theorem dX0_teamsMetBy_9 : decode cX0_teamsMetBy 9 = .ok (.if_icmp .ge 29, 3) := by decide +kernel
theorem dX0_teamsMetBy_12 : decode cX0_teamsMetBy 12 = .ok (.iload_n 3, 1) := by decide +kernel
theorem dX0_teamsMetBy_13 : decode cX0_teamsMetBy 13 = .ok (.iload_n 1, 1) := by decide +kernel
theorem dX0_teamsMetBy_14 : decode cX0_teamsMetBy 14 = .ok (.if_icmp .eq 18, 3) := by decide +kernel
theorem dX0_teamsMetBy_17 : decode cX0_teamsMetBy 17 = .ok (.aload_n 0, 1) := by decide +kernel
theorem dX0_teamsMetBy_18 : decode cX0_teamsMetBy 18 = .ok (.iload_n 1, 1) := by decide +kernel
theorem dX0_teamsMetBy_19 : decode cX0_teamsMetBy 19 = .ok (.iload_n 3, 1) := by decide +kernel
theorem dX0_teamsMetBy_20 : decode cX0_teamsMetBy 20 = .ok (.invokevirtual 136, 3) := by decide +kernel
theorem dX0_teamsMetBy_23 : decode cX0_teamsMetBy 23 = .ok (.ifCond .eq 9, 3) := by decide +kernel
theorem dX0_teamsMetBy_26 : decode cX0_teamsMetBy 26 = .ok (.iload_n 2, 1) := by decide +kernel
theorem dX0_teamsMetBy_27 : decode cX0_teamsMetBy 27 = .ok (.iconst 1, 1) := by decide +kernel
theorem dX0_teamsMetBy_28 : decode cX0_teamsMetBy 28 = .ok (.iload_n 3, 1) := by decide +kernel
theorem dX0_teamsMetBy_29 : decode cX0_teamsMetBy 29 = .ok (.ishl, 1) := by decide +kernel
theorem dX0_teamsMetBy_30 : decode cX0_teamsMetBy 30 = .ok (.ior, 1) := by decide +kernel
theorem dX0_teamsMetBy_31 : decode cX0_teamsMetBy 31 = .ok (.istore_n 2, 1) := by decide +kernel
theorem dX0_teamsMetBy_32 : decode cX0_teamsMetBy 32 = .ok (.iinc 3 1, 3) := by decide +kernel
theorem dX0_teamsMetBy_35 : decode cX0_teamsMetBy 35 = .ok (.goto (-31), 3) := by decide +kernel
theorem dX0_teamsMetBy_38 : decode cX0_teamsMetBy 38 = .ok (.iload_n 2, 1) := by decide +kernel
theorem dX0_teamsMetBy_39 : decode cX0_teamsMetBy 39 = .ok (.ireturn, 1) := by decide +kernel
theorem dX0_pairs_0 : decode cX0_pairs 0 = .ok (.iconst 0, 1) := by decide +kernel
theorem dX0_pairs_1 : decode cX0_pairs 1 = .ok (.istore_n 1, 1) := by decide +kernel
theorem dX0_pairs_2 : decode cX0_pairs 2 = .ok (.iconst 0, 1) := by decide +kernel
theorem dX0_pairs_3 : decode cX0_pairs 3 = .ok (.istore_n 2, 1) := by decide +kernel
theorem dX0_pairs_4 : decode cX0_pairs 4 = .ok (.iload_n 2, 1) := by decide +kernel
theorem dX0_pairs_5 : decode cX0_pairs 5 = .ok (.aload_n 0, 1) := by decide +kernel
theorem dX0_pairs_6 : decode cX0_pairs 6 = .ok (.getfield 45, 3) := by decide +kernel
theorem dX0_pairs_9 : decode cX0_pairs 9 = .ok (.if_icmp .ge 39, 3) := by decide +kernel
theorem dX0_pairs_12 : decode cX0_pairs 12 = .ok (.iload_n 2, 1) := by decide +kernel
theorem dX0_pairs_13 : decode cX0_pairs 13 = .ok (.iconst 1, 1) := by decide +kernel
theorem dX0_pairs_14 : decode cX0_pairs 14 = .ok (.iadd, 1) := by decide +kernel
theorem dX0_pairs_15 : decode cX0_pairs 15 = .ok (.istore_n 3, 1) := by decide +kernel
theorem dX0_pairs_16 : decode cX0_pairs 16 = .ok (.iload_n 3, 1) := by decide +kernel
theorem dX0_pairs_17 : decode cX0_pairs 17 = .ok (.aload_n 0, 1) := by decide +kernel
theorem dX0_pairs_18 : decode cX0_pairs 18 = .ok (.getfield 45, 3) := by decide +kernel
theorem dX0_pairs_21 : decode cX0_pairs 21 = .ok (.if_icmp .ge 21, 3) := by decide +kernel
theorem dX0_pairs_24 : decode cX0_pairs 24 = .ok (.aload_n 0, 1) := by decide +kernel
theorem dX0_pairs_25 : decode cX0_pairs 25 = .ok (.iload_n 2, 1) := by decide +kernel
theorem dX0_pairs_26 : decode cX0_pairs 26 = .ok (.iload_n 3, 1) := by decide +kernel
theorem dX0_pairs_27 : decode cX0_pairs 27 = .ok (.invokevirtual 136, 3) := by decide +kernel
theorem dX0_pairs_30 : decode cX0_pairs 30 = .ok (.ifCond .eq 6, 3) := by decide +kernel
theorem dX0_pairs_33 : decode cX0_pairs 33 = .ok (.iinc 1 1, 3) := by decide +kernel
theorem dX0_pairs_36 : decode cX0_pairs 36 = .ok (.iinc 3 1, 3) := by decide +kernel
theorem dX0_pairs_39 : decode cX0_pairs 39 = .ok (.goto (-23), 3) := by decide +kernel
theorem dX0_pairs_42 : decode cX0_pairs 42 = .ok (.iinc 2 1, 3) := by decide +kernel
theorem dX0_pairs_45 : decode cX0_pairs 45 = .ok (.goto (-41), 3) := by decide +kernel
theorem dX0_pairs_48 : decode cX0_pairs 48 = .ok (.iload_n 1, 1) := by decide +kernel
theorem dX0_pairs_49 : decode cX0_pairs 49 = .ok (.ireturn, 1) := by decide +kernel
theorem dX0_pairsAt_0 : decode cX0_pairsAt 0 = .ok (.iconst 0, 1) := by decide +kernel
theorem dX0_pairsAt_1 : decode cX0_pairsAt 1 = .ok (.istore_n 2, 1) := by decide +kernel
theorem dX0_pairsAt_2 : decode cX0_pairsAt 2 = .ok (.iconst 0, 1) := by decide +kernel
theorem dX0_pairsAt_3 : decode cX0_pairsAt 3 = .ok (.istore_n 3, 1) := by decide +kernel
theorem dX0_pairsAt_4 : decode cX0_pairsAt 4 = .ok (.iload_n 3, 1) := by decide +kernel
theorem dX0_pairsAt_5 : decode cX0_pairsAt 5 = .ok (.aload_n 0, 1) := by decide +kernel
theorem dX0_pairsAt_6 : decode cX0_pairsAt 6 = .ok (.getfield 45, 3) := by decide +kernel
theorem dX0_pairsAt_9 : decode cX0_pairsAt 9 = .ok (.if_icmp .ge 43, 3) := by decide +kernel
theorem dX0_pairsAt_12 : decode cX0_pairsAt 12 = .ok (.iload_n 3, 1) := by decide +kernel
theorem dX0_pairsAt_13 : decode cX0_pairsAt 13 = .ok (.iconst 1, 1) := by decide +kernel
theorem dX0_pairsAt_14 : decode cX0_pairsAt 14 = .ok (.iadd, 1) := by decide +kernel
theorem dX0_pairsAt_15 : decode cX0_pairsAt 15 = .ok (.istore 4, 2) := by decide +kernel
theorem dX0_pairsAt_17 : decode cX0_pairsAt 17 = .ok (.iload 4, 2) := by decide +kernel
theorem dX0_pairsAt_19 : decode cX0_pairsAt 19 = .ok (.aload_n 0, 1) := by decide +kernel
theorem dX0_pairsAt_20 : decode cX0_pairsAt 20 = .ok (.getfield 45, 3) := by decide +kernel
theorem dX0_pairsAt_23 : decode cX0_pairsAt 23 = .ok (.if_icmp .ge 23, 3) := by decide +kernel
theorem dX0_pairsAt_26 : decode cX0_pairsAt 26 = .ok (.aload_n 0, 1) := by decide +kernel
theorem dX0_pairsAt_27 : decode cX0_pairsAt 27 = .ok (.iload_n 3, 1) := by decide +kernel
theorem dX0_pairsAt_28 : decode cX0_pairsAt 28 = .ok (.iload 4, 2) := by decide +kernel
theorem dX0_pairsAt_30 : decode cX0_pairsAt 30 = .ok (.iload_n 1, 1) := by decide +kernel
theorem dX0_pairsAt_31 : decode cX0_pairsAt 31 = .ok (.invokevirtual 133, 3) := by decide +kernel
theorem dX0_pairsAt_34 : decode cX0_pairsAt 34 = .ok (.ifCond .eq 6, 3) := by decide +kernel
theorem dX0_pairsAt_37 : decode cX0_pairsAt 37 = .ok (.iinc 2 1, 3) := by decide +kernel
theorem dX0_pairsAt_40 : decode cX0_pairsAt 40 = .ok (.iinc 4 1, 3) := by decide +kernel
theorem dX0_pairsAt_43 : decode cX0_pairsAt 43 = .ok (.goto (-26), 3) := by decide +kernel
theorem dX0_pairsAt_46 : decode cX0_pairsAt 46 = .ok (.iinc 3 1, 3) := by decide +kernel
theorem dX0_pairsAt_49 : decode cX0_pairsAt 49 = .ok (.goto (-45), 3) := by decide +kernel
theorem dX0_pairsAt_52 : decode cX0_pairsAt 52 = .ok (.iload_n 2, 1) := by decide +kernel
theorem dX0_pairsAt_53 : decode cX0_pairsAt 53 = .ok (.ireturn, 1) := by decide +kernel
theorem dX0_teamsAt_0 : decode cX0_teamsAt 0 = .ok (.iconst 0, 1) := by decide +kernel
theorem dX0_teamsAt_1 : decode cX0_teamsAt 1 = .ok (.istore_n 2, 1) := by decide +kernel
theorem dX0_teamsAt_2 : decode cX0_teamsAt 2 = .ok (.iconst 0, 1) := by decide +kernel
theorem dX0_teamsAt_3 : decode cX0_teamsAt 3 = .ok (.istore_n 3, 1) := by decide +kernel
theorem dX0_teamsAt_4 : decode cX0_teamsAt 4 = .ok (.iload_n 3, 1) := by decide +kernel
theorem dX0_teamsAt_5 : decode cX0_teamsAt 5 = .ok (.aload_n 0, 1) := by decide +kernel
theorem dX0_teamsAt_6 : decode cX0_teamsAt 6 = .ok (.getfield 45, 3) := by decide +kernel
theorem dX0_teamsAt_9 : decode cX0_teamsAt 9 = .ok (.if_icmp .ge 25, 3) := by decide +kernel
theorem dX0_teamsAt_12 : decode cX0_teamsAt 12 = .ok (.aload_n 0, 1) := by decide +kernel
theorem dX0_teamsAt_13 : decode cX0_teamsAt 13 = .ok (.iload_n 3, 1) := by decide +kernel
theorem dX0_teamsAt_14 : decode cX0_teamsAt 14 = .ok (.iload_n 1, 1) := by decide +kernel
theorem dX0_teamsAt_15 : decode cX0_teamsAt 15 = .ok (.invokevirtual 130, 3) := by decide +kernel
theorem dX0_teamsAt_18 : decode cX0_teamsAt 18 = .ok (.iconst (-1), 1) := by decide +kernel
theorem dX0_teamsAt_19 : decode cX0_teamsAt 19 = .ok (.if_icmp .eq 9, 3) := by decide +kernel
theorem dX0_teamsAt_22 : decode cX0_teamsAt 22 = .ok (.iload_n 2, 1) := by decide +kernel
theorem dX0_teamsAt_23 : decode cX0_teamsAt 23 = .ok (.iconst 1, 1) := by decide +kernel
theorem dX0_teamsAt_24 : decode cX0_teamsAt 24 = .ok (.iload_n 3, 1) := by decide +kernel
theorem dX0_teamsAt_25 : decode cX0_teamsAt 25 = .ok (.ishl, 1) := by decide +kernel
theorem dX0_teamsAt_26 : decode cX0_teamsAt 26 = .ok (.ior, 1) := by decide +kernel
theorem dX0_teamsAt_27 : decode cX0_teamsAt 27 = .ok (.istore_n 2, 1) := by decide +kernel
theorem dX0_teamsAt_28 : decode cX0_teamsAt 28 = .ok (.iinc 3 1, 3) := by decide +kernel
theorem dX0_teamsAt_31 : decode cX0_teamsAt 31 = .ok (.goto (-27), 3) := by decide +kernel
theorem dX0_teamsAt_34 : decode cX0_teamsAt 34 = .ok (.iload_n 2, 1) := by decide +kernel
theorem dX0_teamsAt_35 : decode cX0_teamsAt 35 = .ok (.ireturn, 1) := by decide +kernel
theorem dX0_queueingAt_0 : decode cX0_queueingAt 0 = .ok (.iconst 0, 1) := by decide +kernel
theorem dX0_queueingAt_1 : decode cX0_queueingAt 1 = .ok (.istore_n 2, 1) := by decide +kernel
theorem dX0_queueingAt_2 : decode cX0_queueingAt 2 = .ok (.iconst 0, 1) := by decide +kernel
theorem dX0_queueingAt_3 : decode cX0_queueingAt 3 = .ok (.istore_n 3, 1) := by decide +kernel
theorem dX0_queueingAt_4 : decode cX0_queueingAt 4 = .ok (.iload_n 3, 1) := by decide +kernel
theorem dX0_queueingAt_5 : decode cX0_queueingAt 5 = .ok (.aload_n 0, 1) := by decide +kernel
theorem dX0_queueingAt_6 : decode cX0_queueingAt 6 = .ok (.getfield 45, 3) := by decide +kernel
theorem dX0_queueingAt_9 : decode cX0_queueingAt 9 = .ok (.if_icmp .ge 45, 3) := by decide +kernel
theorem dX0_queueingAt_12 : decode cX0_queueingAt 12 = .ok (.aload_n 0, 1) := by decide +kernel
theorem dX0_queueingAt_13 : decode cX0_queueingAt 13 = .ok (.iload_n 3, 1) := by decide +kernel
theorem dX0_queueingAt_14 : decode cX0_queueingAt 14 = .ok (.iload_n 1, 1) := by decide +kernel
theorem dX0_queueingAt_15 : decode cX0_queueingAt 15 = .ok (.invokevirtual 130, 3) := by decide +kernel
theorem dX0_queueingAt_18 : decode cX0_queueingAt 18 = .ok (.istore 4, 2) := by decide +kernel
theorem dX0_queueingAt_20 : decode cX0_queueingAt 20 = .ok (.iload 4, 2) := by decide +kernel
theorem dX0_queueingAt_22 : decode cX0_queueingAt 22 = .ok (.iconst (-1), 1) := by decide +kernel
theorem dX0_queueingAt_23 : decode cX0_queueingAt 23 = .ok (.if_icmp .eq 25, 3) := by decide +kernel
theorem dX0_queueingAt_26 : decode cX0_queueingAt 26 = .ok (.iload_n 2, 1) := by decide +kernel
theorem dX0_queueingAt_27 : decode cX0_queueingAt 27 = .ok (.aload_n 0, 1) := by decide +kernel
theorem dX0_queueingAt_28 : decode cX0_queueingAt 28 = .ok (.getfield 26, 3) := by decide +kernel
theorem dX0_queueingAt_31 : decode cX0_queueingAt 31 = .ok (.iload_n 3, 1) := by decide +kernel
theorem dX0_queueingAt_32 : decode cX0_queueingAt 32 = .ok (.aaload, 1) := by decide +kernel
theorem dX0_queueingAt_33 : decode cX0_queueingAt 33 = .ok (.iload 4, 2) := by decide +kernel
theorem dX0_queueingAt_35 : decode cX0_queueingAt 35 = .ok (.iaload, 1) := by decide +kernel
theorem dX0_queueingAt_36 : decode cX0_queueingAt 36 = .ok (.aload_n 0, 1) := by decide +kernel
theorem dX0_queueingAt_37 : decode cX0_queueingAt 37 = .ok (.getfield 23, 3) := by decide +kernel
theorem dX0_queueingAt_40 : decode cX0_queueingAt 40 = .ok (.iload_n 3, 1) := by decide +kernel
theorem dX0_queueingAt_41 : decode cX0_queueingAt 41 = .ok (.aaload, 1) := by decide +kernel
theorem dX0_queueingAt_42 : decode cX0_queueingAt 42 = .ok (.iload 4, 2) := by decide +kernel
theorem dX0_queueingAt_44 : decode cX0_queueingAt 44 = .ok (.iaload, 1) := by decide +kernel
theorem dX0_queueingAt_45 : decode cX0_queueingAt 45 = .ok (.isub, 1) := by decide +kernel
theorem dX0_queueingAt_46 : decode cX0_queueingAt 46 = .ok (.iadd, 1) := by decide +kernel
theorem dX0_queueingAt_47 : decode cX0_queueingAt 47 = .ok (.istore_n 2, 1) := by decide +kernel
theorem dX0_queueingAt_48 : decode cX0_queueingAt 48 = .ok (.iinc 3 1, 3) := by decide +kernel
theorem dX0_queueingAt_51 : decode cX0_queueingAt 51 = .ok (.goto (-47), 3) := by decide +kernel
theorem dX0_queueingAt_54 : decode cX0_queueingAt 54 = .ok (.iload_n 2, 1) := by decide +kernel
theorem dX0_queueingAt_55 : decode cX0_queueingAt 55 = .ok (.ireturn, 1) := by decide +kernel
theorem dX0_mostAt_0 : decode cX0_mostAt 0 = .ok (.iconst 0, 1) := by decide +kernel
theorem dX0_mostAt_1 : decode cX0_mostAt 1 = .ok (.istore_n 2, 1) := by decide +kernel
theorem dX0_mostAt_2 : decode cX0_mostAt 2 = .ok (.iconst 0, 1) := by decide +kernel
theorem dX0_mostAt_3 : decode cX0_mostAt 3 = .ok (.istore_n 3, 1) := by decide +kernel
theorem dX0_mostAt_4 : decode cX0_mostAt 4 = .ok (.iload_n 3, 1) := by decide +kernel
theorem dX0_mostAt_5 : decode cX0_mostAt 5 = .ok (.aload_n 0, 1) := by decide +kernel
theorem dX0_mostAt_6 : decode cX0_mostAt 6 = .ok (.getfield 45, 3) := by decide +kernel
theorem dX0_mostAt_9 : decode cX0_mostAt 9 = .ok (.if_icmp .ge 42, 3) := by decide +kernel
theorem dX0_mostAt_12 : decode cX0_mostAt 12 = .ok (.aload_n 0, 1) := by decide +kernel
theorem dX0_mostAt_13 : decode cX0_mostAt 13 = .ok (.iload_n 3, 1) := by decide +kernel
theorem dX0_mostAt_14 : decode cX0_mostAt 14 = .ok (.iload_n 1, 1) := by decide +kernel
theorem dX0_mostAt_15 : decode cX0_mostAt 15 = .ok (.invokevirtual 130, 3) := by decide +kernel
theorem dX0_mostAt_18 : decode cX0_mostAt 18 = .ok (.istore 4, 2) := by decide +kernel
theorem dX0_mostAt_20 : decode cX0_mostAt 20 = .ok (.iload 4, 2) := by decide +kernel
theorem dX0_mostAt_22 : decode cX0_mostAt 22 = .ok (.iconst (-1), 1) := by decide +kernel
theorem dX0_mostAt_23 : decode cX0_mostAt 23 = .ok (.if_icmp .eq 22, 3) := by decide +kernel
theorem dX0_mostAt_26 : decode cX0_mostAt 26 = .ok (.iload_n 2, 1) := by decide +kernel
theorem dX0_mostAt_27 : decode cX0_mostAt 27 = .ok (.aload_n 0, 1) := by decide +kernel
theorem dX0_mostAt_28 : decode cX0_mostAt 28 = .ok (.iload_n 1, 1) := by decide +kernel
theorem dX0_mostAt_29 : decode cX0_mostAt 29 = .ok (.aload_n 0, 1) := by decide +kernel
theorem dX0_mostAt_30 : decode cX0_mostAt 30 = .ok (.getfield 23, 3) := by decide +kernel
theorem dX0_mostAt_33 : decode cX0_mostAt 33 = .ok (.iload_n 3, 1) := by decide +kernel
theorem dX0_mostAt_34 : decode cX0_mostAt 34 = .ok (.aaload, 1) := by decide +kernel
theorem dX0_mostAt_35 : decode cX0_mostAt 35 = .ok (.iload 4, 2) := by decide +kernel
theorem dX0_mostAt_37 : decode cX0_mostAt 37 = .ok (.iaload, 1) := by decide +kernel
theorem dX0_mostAt_38 : decode cX0_mostAt 38 = .ok (.invokevirtual 139, 3) := by decide +kernel
theorem dX0_mostAt_41 : decode cX0_mostAt 41 = .ok (.invokestatic 105, 3) := by decide +kernel
theorem dX0_mostAt_44 : decode cX0_mostAt 44 = .ok (.istore_n 2, 1) := by decide +kernel
theorem dX0_mostAt_45 : decode cX0_mostAt 45 = .ok (.iinc 3 1, 3) := by decide +kernel
theorem dX0_mostAt_48 : decode cX0_mostAt 48 = .ok (.goto (-44), 3) := by decide +kernel
theorem dX0_mostAt_51 : decode cX0_mostAt 51 = .ok (.iload_n 2, 1) := by decide +kernel
theorem dX0_mostAt_52 : decode cX0_mostAt 52 = .ok (.ireturn, 1) := by decide +kernel
theorem dX0_teamsThere_0 : decode cX0_teamsThere 0 = .ok (.iconst 0, 1) := by decide +kernel
theorem dX0_teamsThere_1 : decode cX0_teamsThere 1 = .ok (.istore_n 3, 1) := by decide +kernel
theorem dX0_teamsThere_2 : decode cX0_teamsThere 2 = .ok (.iconst 0, 1) := by decide +kernel
theorem dX0_teamsThere_3 : decode cX0_teamsThere 3 = .ok (.istore 4, 2) := by decide +kernel
theorem dX0_teamsThere_5 : decode cX0_teamsThere 5 = .ok (.iload 4, 2) := by decide +kernel
theorem dX0_teamsThere_7 : decode cX0_teamsThere 7 = .ok (.aload_n 0, 1) := by decide +kernel
theorem dX0_teamsThere_8 : decode cX0_teamsThere 8 = .ok (.getfield 45, 3) := by decide +kernel
theorem dX0_teamsThere_11 : decode cX0_teamsThere 11 = .ok (.if_icmp .ge 39, 3) := by decide +kernel
theorem dX0_teamsThere_14 : decode cX0_teamsThere 14 = .ok (.aload_n 0, 1) := by decide +kernel
theorem dX0_teamsThere_15 : decode cX0_teamsThere 15 = .ok (.iload 4, 2) := by decide +kernel
theorem dX0_teamsThere_17 : decode cX0_teamsThere 17 = .ok (.iload_n 1, 1) := by decide +kernel
theorem dX0_teamsThere_18 : decode cX0_teamsThere 18 = .ok (.invokevirtual 130, 3) := by decide +kernel
theorem dX0_teamsThere_21 : decode cX0_teamsThere 21 = .ok (.istore 5, 2) := by decide +kernel
theorem dX0_teamsThere_23 : decode cX0_teamsThere 23 = .ok (.iload 5, 2) := by decide +kernel
theorem dX0_teamsThere_25 : decode cX0_teamsThere 25 = .ok (.iconst (-1), 1) := by decide +kernel
theorem dX0_teamsThere_26 : decode cX0_teamsThere 26 = .ok (.if_icmp .eq 18, 3) := by decide +kernel
theorem dX0_teamsThere_29 : decode cX0_teamsThere 29 = .ok (.aload_n 0, 1) := by decide +kernel
theorem dX0_teamsThere_30 : decode cX0_teamsThere 30 = .ok (.iload 4, 2) := by decide +kernel
theorem dX0_teamsThere_32 : decode cX0_teamsThere 32 = .ok (.iload 5, 2) := by decide +kernel
theorem dX0_teamsThere_34 : decode cX0_teamsThere 34 = .ok (.iload_n 2, 1) := by decide +kernel
theorem dX0_teamsThere_35 : decode cX0_teamsThere 35 = .ok (.invokevirtual 125, 3) := by decide +kernel
theorem dX0_teamsThere_38 : decode cX0_teamsThere 38 = .ok (.ifCond .eq 6, 3) := by decide +kernel
theorem dX0_teamsThere_41 : decode cX0_teamsThere 41 = .ok (.iinc 3 1, 3) := by decide +kernel
theorem dX0_teamsThere_44 : decode cX0_teamsThere 44 = .ok (.iinc 4 1, 3) := by decide +kernel
theorem dX0_teamsThere_47 : decode cX0_teamsThere 47 = .ok (.goto (-42), 3) := by decide +kernel
theorem dX0_teamsThere_50 : decode cX0_teamsThere 50 = .ok (.iload_n 3, 1) := by decide +kernel
theorem dX0_teamsThere_51 : decode cX0_teamsThere 51 = .ok (.ireturn, 1) := by decide +kernel
theorem dX0_lastEnd_0 : decode cX0_lastEnd 0 = .ok (.iconst 0, 1) := by decide +kernel
theorem dX0_lastEnd_1 : decode cX0_lastEnd 1 = .ok (.istore_n 1, 1) := by decide +kernel
theorem dX0_lastEnd_2 : decode cX0_lastEnd 2 = .ok (.iconst 0, 1) := by decide +kernel
theorem dX0_lastEnd_3 : decode cX0_lastEnd 3 = .ok (.istore_n 2, 1) := by decide +kernel
theorem dX0_lastEnd_4 : decode cX0_lastEnd 4 = .ok (.iload_n 2, 1) := by decide +kernel
theorem dX0_lastEnd_5 : decode cX0_lastEnd 5 = .ok (.aload_n 0, 1) := by decide +kernel
theorem dX0_lastEnd_6 : decode cX0_lastEnd 6 = .ok (.getfield 45, 3) := by decide +kernel
theorem dX0_lastEnd_9 : decode cX0_lastEnd 9 = .ok (.if_icmp .ge 20, 3) := by decide +kernel
theorem dX0_lastEnd_12 : decode cX0_lastEnd 12 = .ok (.iload_n 1, 1) := by decide +kernel
theorem dX0_lastEnd_13 : decode cX0_lastEnd 13 = .ok (.aload_n 0, 1) := by decide +kernel
theorem dX0_lastEnd_14 : decode cX0_lastEnd 14 = .ok (.getfield 35, 3) := by decide +kernel
theorem dX0_lastEnd_17 : decode cX0_lastEnd 17 = .ok (.iload_n 2, 1) := by decide +kernel
theorem dX0_lastEnd_18 : decode cX0_lastEnd 18 = .ok (.iaload, 1) := by decide +kernel
theorem dX0_lastEnd_19 : decode cX0_lastEnd 19 = .ok (.invokestatic 105, 3) := by decide +kernel
theorem dX0_lastEnd_22 : decode cX0_lastEnd 22 = .ok (.istore_n 1, 1) := by decide +kernel
theorem dX0_lastEnd_23 : decode cX0_lastEnd 23 = .ok (.iinc 2 1, 3) := by decide +kernel
theorem dX0_lastEnd_26 : decode cX0_lastEnd 26 = .ok (.goto (-22), 3) := by decide +kernel
theorem dX0_lastEnd_29 : decode cX0_lastEnd 29 = .ok (.iload_n 1, 1) := by decide +kernel
theorem dX0_lastEnd_30 : decode cX0_lastEnd 30 = .ok (.ireturn, 1) := by decide +kernel
theorem dX0_queueing_0 : decode cX0_queueing 0 = .ok (.iconst 0, 1) := by decide +kernel
theorem dX0_queueing_1 : decode cX0_queueing 1 = .ok (.istore_n 1, 1) := by decide +kernel
theorem dX0_queueing_2 : decode cX0_queueing 2 = .ok (.iconst 0, 1) := by decide +kernel
theorem dX0_queueing_3 : decode cX0_queueing 3 = .ok (.istore_n 2, 1) := by decide +kernel
theorem dX0_queueing_4 : decode cX0_queueing 4 = .ok (.iload_n 2, 1) := by decide +kernel
theorem dX0_queueing_5 : decode cX0_queueing 5 = .ok (.aload_n 0, 1) := by decide +kernel
theorem dX0_queueing_6 : decode cX0_queueing 6 = .ok (.getfield 45, 3) := by decide +kernel
theorem dX0_queueing_9 : decode cX0_queueing 9 = .ok (.if_icmp .ge 17, 3) := by decide +kernel
theorem dX0_queueing_12 : decode cX0_queueing 12 = .ok (.iload_n 1, 1) := by decide +kernel
theorem dX0_queueing_13 : decode cX0_queueing 13 = .ok (.aload_n 0, 1) := by decide +kernel
theorem dX0_queueing_14 : decode cX0_queueing 14 = .ok (.iload_n 2, 1) := by decide +kernel
theorem dX0_queueing_15 : decode cX0_queueing 15 = .ok (.invokevirtual 142, 3) := by decide +kernel
theorem dX0_queueing_18 : decode cX0_queueing 18 = .ok (.iadd, 1) := by decide +kernel
theorem dX0_queueing_19 : decode cX0_queueing 19 = .ok (.istore_n 1, 1) := by decide +kernel
theorem dX0_queueing_20 : decode cX0_queueing 20 = .ok (.iinc 2 1, 3) := by decide +kernel
theorem dX0_queueing_23 : decode cX0_queueing 23 = .ok (.goto (-19), 3) := by decide +kernel
theorem dX0_queueing_26 : decode cX0_queueing 26 = .ok (.iload_n 1, 1) := by decide +kernel
theorem dX0_queueing_27 : decode cX0_queueing 27 = .ok (.ireturn, 1) := by decide +kernel
theorem dX0_winner_0 : decode cX0_winner 0 = .ok (.iconst (-1), 1) := by decide +kernel
theorem dX0_winner_1 : decode cX0_winner 1 = .ok (.istore_n 1, 1) := by decide +kernel
theorem dX0_winner_2 : decode cX0_winner 2 = .ok (.iconst 0, 1) := by decide +kernel
theorem dX0_winner_3 : decode cX0_winner 3 = .ok (.istore_n 2, 1) := by decide +kernel
theorem dX0_winner_4 : decode cX0_winner 4 = .ok (.iload_n 2, 1) := by decide +kernel
theorem dX0_winner_5 : decode cX0_winner 5 = .ok (.aload_n 0, 1) := by decide +kernel
theorem dX0_winner_6 : decode cX0_winner 6 = .ok (.getfield 45, 3) := by decide +kernel
theorem dX0_winner_9 : decode cX0_winner 9 = .ok (.if_icmp .ge 25, 3) := by decide +kernel
theorem dX0_winner_12 : decode cX0_winner 12 = .ok (.iload_n 1, 1) := by decide +kernel
theorem dX0_winner_13 : decode cX0_winner 13 = .ok (.iconst (-1), 1) := by decide +kernel
theorem dX0_winner_14 : decode cX0_winner 14 = .ok (.if_icmp .eq 12, 3) := by decide +kernel
theorem dX0_winner_17 : decode cX0_winner 17 = .ok (.aload_n 0, 1) := by decide +kernel
theorem dX0_winner_18 : decode cX0_winner 18 = .ok (.iload_n 2, 1) := by decide +kernel
theorem dX0_winner_19 : decode cX0_winner 19 = .ok (.iload_n 1, 1) := by decide +kernel
theorem dX0_winner_20 : decode cX0_winner 20 = .ok (.invokevirtual 118, 3) := by decide +kernel
theorem dX0_winner_23 : decode cX0_winner 23 = .ok (.ifCond .eq 5, 3) := by decide +kernel
theorem dX0_winner_26 : decode cX0_winner 26 = .ok (.iload_n 2, 1) := by decide +kernel
theorem dX0_winner_27 : decode cX0_winner 27 = .ok (.istore_n 1, 1) := by decide +kernel
theorem dX0_winner_28 : decode cX0_winner 28 = .ok (.iinc 2 1, 3) := by decide +kernel
theorem dX0_winner_31 : decode cX0_winner 31 = .ok (.goto (-27), 3) := by decide +kernel
theorem dX0_winner_34 : decode cX0_winner 34 = .ok (.iload_n 1, 1) := by decide +kernel
theorem dX0_winner_35 : decode cX0_winner 35 = .ok (.iconst (-1), 1) := by decide +kernel
theorem dX0_winner_36 : decode cX0_winner 36 = .ok (.if_icmp .ne 8, 3) := by decide +kernel
theorem dX0_winner_39 : decode cX0_winner 39 = .ok (.ldc 129, 2) := by decide +kernel
theorem dX0_winner_41 : decode cX0_winner 41 = .ok (.goto 4, 3) := by decide +kernel
theorem dX0_winner_44 : decode cX0_winner 44 = .ok (.iload_n 1, 1) := by decide +kernel
theorem dX0_winner_45 : decode cX0_winner 45 = .ok (.ireturn, 1) := by decide +kernel
theorem dX0_points_0 : decode cX0_points 0 = .ok (.iconst 0, 1) := by decide +kernel
theorem dX0_points_1 : decode cX0_points 1 = .ok (.istore_n 1, 1) := by decide +kernel
theorem dX0_points_2 : decode cX0_points 2 = .ok (.iconst 0, 1) := by decide +kernel
theorem dX0_points_3 : decode cX0_points 3 = .ok (.istore_n 2, 1) := by decide +kernel
theorem dX0_points_4 : decode cX0_points 4 = .ok (.iload_n 2, 1) := by decide +kernel
theorem dX0_points_5 : decode cX0_points 5 = .ok (.aload_n 0, 1) := by decide +kernel
theorem dX0_points_6 : decode cX0_points 6 = .ok (.getfield 45, 3) := by decide +kernel
theorem dX0_points_9 : decode cX0_points 9 = .ok (.if_icmp .ge 17, 3) := by decide +kernel
theorem dX0_points_12 : decode cX0_points 12 = .ok (.iload_n 1, 1) := by decide +kernel
theorem dX0_points_13 : decode cX0_points 13 = .ok (.aload_n 0, 1) := by decide +kernel
theorem dX0_points_14 : decode cX0_points 14 = .ok (.iload_n 2, 1) := by decide +kernel
theorem dX0_points_15 : decode cX0_points 15 = .ok (.invokevirtual 122, 3) := by decide +kernel
theorem dX0_points_18 : decode cX0_points 18 = .ok (.iadd, 1) := by decide +kernel
theorem dX0_points_19 : decode cX0_points 19 = .ok (.istore_n 1, 1) := by decide +kernel
theorem dX0_points_20 : decode cX0_points 20 = .ok (.iinc 2 1, 3) := by decide +kernel
theorem dX0_points_23 : decode cX0_points 23 = .ok (.goto (-19), 3) := by decide +kernel
theorem dX0_points_26 : decode cX0_points 26 = .ok (.iload_n 1, 1) := by decide +kernel
theorem dX0_points_27 : decode cX0_points 27 = .ok (.ireturn, 1) := by decide +kernel
theorem dX0_visits_0 : decode cX0_visits 0 = .ok (.iconst 0, 1) := by decide +kernel
theorem dX0_visits_1 : decode cX0_visits 1 = .ok (.istore_n 1, 1) := by decide +kernel
theorem dX0_visits_2 : decode cX0_visits 2 = .ok (.iconst 0, 1) := by decide +kernel
theorem dX0_visits_3 : decode cX0_visits 3 = .ok (.istore_n 2, 1) := by decide +kernel
theorem dX0_visits_4 : decode cX0_visits 4 = .ok (.iload_n 2, 1) := by decide +kernel
theorem dX0_visits_5 : decode cX0_visits 5 = .ok (.aload_n 0, 1) := by decide +kernel
theorem dX0_visits_6 : decode cX0_visits 6 = .ok (.getfield 45, 3) := by decide +kernel
theorem dX0_visits_9 : decode cX0_visits 9 = .ok (.if_icmp .ge 18, 3) := by decide +kernel
theorem dX0_visits_12 : decode cX0_visits 12 = .ok (.iload_n 1, 1) := by decide +kernel
theorem dX0_visits_13 : decode cX0_visits 13 = .ok (.aload_n 0, 1) := by decide +kernel
theorem dX0_visits_14 : decode cX0_visits 14 = .ok (.getfield 9, 3) := by decide +kernel
theorem dX0_visits_17 : decode cX0_visits 17 = .ok (.iload_n 2, 1) := by decide +kernel
theorem dX0_visits_18 : decode cX0_visits 18 = .ok (.iaload, 1) := by decide +kernel
theorem dX0_visits_19 : decode cX0_visits 19 = .ok (.iadd, 1) := by decide +kernel
theorem dX0_visits_20 : decode cX0_visits 20 = .ok (.istore_n 1, 1) := by decide +kernel
theorem dX0_visits_21 : decode cX0_visits 21 = .ok (.iinc 2 1, 3) := by decide +kernel
theorem dX0_visits_24 : decode cX0_visits 24 = .ok (.goto (-20), 3) := by decide +kernel
theorem dX0_visits_27 : decode cX0_visits 27 = .ok (.iload_n 1, 1) := by decide +kernel
theorem dX0_visits_28 : decode cX0_visits 28 = .ok (.ireturn, 1) := by decide +kernel
theorem dX1_init_0 : decode cX1_init 0 = .ok (.aload_n 0, 1) := by decide +kernel
theorem dX1_init_1 : decode cX1_init 1 = .ok (.invokespecial 3, 3) := by decide +kernel
theorem dX1_init_4 : decode cX1_init 4 = .ok (.aload_n 0, 1) := by decide +kernel
theorem dX1_init_5 : decode cX1_init 5 = .ok (.bipush 6, 2) := by decide +kernel
theorem dX1_init_7 : decode cX1_init 7 = .ok (.anewarray 9, 3) := by decide +kernel
theorem dX1_init_10 : decode cX1_init 10 = .ok (.putfield 11, 3) := by decide +kernel
theorem dX1_init_13 : decode cX1_init 13 = .ok (.iconst 0, 1) := by decide +kernel
theorem dX1_init_14 : decode cX1_init 14 = .ok (.istore_n 1, 1) := by decide +kernel
theorem dX1_init_15 : decode cX1_init 15 = .ok (.iload_n 1, 1) := by decide +kernel
theorem dX1_init_16 : decode cX1_init 16 = .ok (.bipush 6, 2) := by decide +kernel
theorem dX1_init_18 : decode cX1_init 18 = .ok (.if_icmp .ge 22, 3) := by decide +kernel
theorem dX1_init_21 : decode cX1_init 21 = .ok (.aload_n 0, 1) := by decide +kernel
theorem dX1_init_22 : decode cX1_init 22 = .ok (.getfield 11, 3) := by decide +kernel
theorem dX1_init_25 : decode cX1_init 25 = .ok (.iload_n 1, 1) := by decide +kernel
theorem dX1_init_26 : decode cX1_init 26 = .ok (.new 9, 3) := by decide +kernel
theorem dX1_init_29 : decode cX1_init 29 = .ok (.dup, 1) := by decide +kernel
theorem dX1_init_30 : decode cX1_init 30 = .ok (.invokespecial 17, 3) := by decide +kernel
theorem dX1_init_33 : decode cX1_init 33 = .ok (.aastore, 1) := by decide +kernel
theorem dX1_init_34 : decode cX1_init 34 = .ok (.iinc 1 1, 3) := by decide +kernel
theorem dX1_init_37 : decode cX1_init 37 = .ok (.goto (-22), 3) := by decide +kernel
theorem dX1_init_40 : decode cX1_init 40 = .ok (.return_, 1) := by decide +kernel
theorem dX1_record_0 : decode cX1_record 0 = .ok (.aload_n 0, 1) := by decide +kernel
theorem dX1_record_1 : decode cX1_record 1 = .ok (.getfield 18, 3) := by decide +kernel
theorem dX1_record_4 : decode cX1_record 4 = .ok (.bipush 6, 2) := by decide +kernel
theorem dX1_record_6 : decode cX1_record 6 = .ok (.if_icmp .ne 26, 3) := by decide +kernel
theorem dX1_record_9 : decode cX1_record 9 = .ok (.aload_n 0, 1) := by decide +kernel
theorem dX1_record_10 : decode cX1_record 10 = .ok (.aload_n 0, 1) := by decide +kernel
theorem dX1_record_11 : decode cX1_record 11 = .ok (.getfield 22, 3) := by decide +kernel
theorem dX1_record_14 : decode cX1_record 14 = .ok (.iconst 1, 1) := by decide +kernel
theorem dX1_record_15 : decode cX1_record 15 = .ok (.iadd, 1) := by decide +kernel
theorem dX1_record_16 : decode cX1_record 16 = .ok (.bipush 6, 2) := by decide +kernel
theorem dX1_record_18 : decode cX1_record 18 = .ok (.irem, 1) := by decide +kernel
theorem dX1_record_19 : decode cX1_record 19 = .ok (.putfield 22, 3) := by decide +kernel
theorem dX1_record_22 : decode cX1_record 22 = .ok (.aload_n 0, 1) := by decide +kernel
theorem dX1_record_23 : decode cX1_record 23 = .ok (.dup, 1) := by decide +kernel
theorem dX1_record_24 : decode cX1_record 24 = .ok (.getfield 18, 3) := by decide +kernel
theorem dX1_record_27 : decode cX1_record 27 = .ok (.iconst 1, 1) := by decide +kernel
theorem dX1_record_28 : decode cX1_record 28 = .ok (.isub, 1) := by decide +kernel
theorem dX1_record_29 : decode cX1_record 29 = .ok (.putfield 18, 3) := by decide +kernel
theorem dX1_record_32 : decode cX1_record 32 = .ok (.aload_n 0, 1) := by decide +kernel
theorem dX1_record_33 : decode cX1_record 33 = .ok (.getfield 11, 3) := by decide +kernel
theorem dX1_record_36 : decode cX1_record 36 = .ok (.aload_n 0, 1) := by decide +kernel
theorem dX1_record_37 : decode cX1_record 37 = .ok (.getfield 22, 3) := by decide +kernel
theorem dX1_record_40 : decode cX1_record 40 = .ok (.aload_n 0, 1) := by decide +kernel
theorem dX1_record_41 : decode cX1_record 41 = .ok (.getfield 18, 3) := by decide +kernel
theorem dX1_record_44 : decode cX1_record 44 = .ok (.iadd, 1) := by decide +kernel
theorem dX1_record_45 : decode cX1_record 45 = .ok (.bipush 6, 2) := by decide +kernel
theorem dX1_record_47 : decode cX1_record 47 = .ok (.irem, 1) := by decide +kernel
theorem dX1_record_48 : decode cX1_record 48 = .ok (.aaload, 1) := by decide +kernel
theorem dX1_record_49 : decode cX1_record 49 = .ok (.aload_n 1, 1) := by decide +kernel
theorem dX1_record_50 : decode cX1_record 50 = .ok (.invokevirtual 25, 3) := by decide +kernel
theorem dX1_record_53 : decode cX1_record 53 = .ok (.aload_n 0, 1) := by decide +kernel
theorem dX1_record_54 : decode cX1_record 54 = .ok (.dup, 1) := by decide +kernel
theorem dX1_record_55 : decode cX1_record 55 = .ok (.getfield 18, 3) := by decide +kernel
theorem dX1_record_58 : decode cX1_record 58 = .ok (.iconst 1, 1) := by decide +kernel
theorem dX1_record_59 : decode cX1_record 59 = .ok (.iadd, 1) := by decide +kernel
theorem dX1_record_60 : decode cX1_record 60 = .ok (.putfield 18, 3) := by decide +kernel
theorem dX1_record_63 : decode cX1_record 63 = .ok (.return_, 1) := by decide +kernel
theorem dX2_init_0 : decode cX2_init 0 = .ok (.aload_n 0, 1) := by decide +kernel
theorem dX2_init_1 : decode cX2_init 1 = .ok (.invokespecial 3, 3) := by decide +kernel
theorem dX2_init_4 : decode cX2_init 4 = .ok (.aload_n 0, 1) := by decide +kernel
theorem dX2_init_5 : decode cX2_init 5 = .ok (.bipush 20, 2) := by decide +kernel
theorem dX2_init_7 : decode cX2_init 7 = .ok (.newarray .char, 2) := by decide +kernel
theorem dX2_init_9 : decode cX2_init 9 = .ok (.putfield 9, 3) := by decide +kernel
theorem dX2_init_12 : decode cX2_init 12 = .ok (.return_, 1) := by decide +kernel
theorem dX2_lengthOf_0 : decode cX2_lengthOf 0 = .ok (.iconst 0, 1) := by decide +kernel
theorem dX2_lengthOf_1 : decode cX2_lengthOf 1 = .ok (.istore_n 2, 1) := by decide +kernel
theorem dX2_lengthOf_2 : decode cX2_lengthOf 2 = .ok (.lload_n 0, 1) := by decide +kernel
theorem dX2_lengthOf_3 : decode cX2_lengthOf 3 = .ok (.lstore_n 3, 1) := by decide +kernel
theorem dX2_lengthOf_4 : decode cX2_lengthOf 4 = .ok (.lload_n 3, 1) := by decide +kernel
theorem dX2_lengthOf_5 : decode cX2_lengthOf 5 = .ok (.lconst 0, 1) := by decide +kernel
theorem dX2_lengthOf_6 : decode cX2_lengthOf 6 = .ok (.lcmp, 1) := by decide +kernel
theorem dX2_lengthOf_7 : decode cX2_lengthOf 7 = .ok (.ifCond .eq 42, 3) := by decide +kernel
theorem dX2_lengthOf_10 : decode cX2_lengthOf 10 = .ok (.iload_n 2, 1) := by decide +kernel
theorem dX2_lengthOf_11 : decode cX2_lengthOf 11 = .ok (.bipush 8, 2) := by decide +kernel
theorem dX2_lengthOf_13 : decode cX2_lengthOf 13 = .ok (.if_icmp .ge 36, 3) := by decide +kernel
theorem dX2_lengthOf_16 : decode cX2_lengthOf 16 = .ok (.lload_n 3, 1) := by decide +kernel
theorem dX2_lengthOf_17 : decode cX2_lengthOf 17 = .ok (.ldc2_w 15, 3) := by decide +kernel
theorem dX2_lengthOf_20 : decode cX2_lengthOf 20 = .ok (.land, 1) := by decide +kernel
theorem dX2_lengthOf_21 : decode cX2_lengthOf 21 = .ok (.l2i, 1) := by decide +kernel
theorem dX2_lengthOf_22 : decode cX2_lengthOf 22 = .ok (.istore 5, 2) := by decide +kernel
theorem dX2_lengthOf_24 : decode cX2_lengthOf 24 = .ok (.iload 5, 2) := by decide +kernel
theorem dX2_lengthOf_26 : decode cX2_lengthOf 26 = .ok (.bipush 33, 2) := by decide +kernel
theorem dX2_lengthOf_28 : decode cX2_lengthOf 28 = .ok (.bipush 126, 2) := by decide +kernel
theorem dX2_lengthOf_30 : decode cX2_lengthOf 30 = .ok (.invokestatic 17, 3) := by decide +kernel
theorem dX2_lengthOf_33 : decode cX2_lengthOf 33 = .ok (.ifCond .ne 5, 3) := by decide +kernel
theorem dX2_lengthOf_36 : decode cX2_lengthOf 36 = .ok (.iconst 0, 1) := by decide +kernel
theorem dX2_lengthOf_37 : decode cX2_lengthOf 37 = .ok (.ireturn, 1) := by decide +kernel
theorem dX2_lengthOf_38 : decode cX2_lengthOf 38 = .ok (.lload_n 3, 1) := by decide +kernel
theorem dX2_lengthOf_39 : decode cX2_lengthOf 39 = .ok (.bipush 8, 2) := by decide +kernel
theorem dX2_lengthOf_41 : decode cX2_lengthOf 41 = .ok (.lushr, 1) := by decide +kernel
theorem dX2_lengthOf_42 : decode cX2_lengthOf 42 = .ok (.lstore_n 3, 1) := by decide +kernel
theorem dX2_lengthOf_43 : decode cX2_lengthOf 43 = .ok (.iinc 2 1, 3) := by decide +kernel
theorem dX2_lengthOf_46 : decode cX2_lengthOf 46 = .ok (.goto (-42), 3) := by decide +kernel
theorem dX2_lengthOf_49 : decode cX2_lengthOf 49 = .ok (.iload_n 2, 1) := by decide +kernel
theorem dX2_lengthOf_50 : decode cX2_lengthOf 50 = .ok (.ireturn, 1) := by decide +kernel
theorem dX2_append_0 : decode cX2_append 0 = .ok (.iload_n 3, 1) := by decide +kernel
theorem dX2_append_1 : decode cX2_append 1 = .ok (.iconst 1, 1) := by decide +kernel
theorem dX2_append_2 : decode cX2_append 2 = .ok (.isub, 1) := by decide +kernel
theorem dX2_append_3 : decode cX2_append 3 = .ok (.istore 4, 2) := by decide +kernel
theorem dX2_append_5 : decode cX2_append 5 = .ok (.iload 4, 2) := by decide +kernel
theorem dX2_append_7 : decode cX2_append 7 = .ok (.ifCond .lt 41, 3) := by decide +kernel
theorem dX2_append_10 : decode cX2_append 10 = .ok (.aload_n 0, 1) := by decide +kernel
theorem dX2_append_11 : decode cX2_append 11 = .ok (.getfield 9, 3) := by decide +kernel
theorem dX2_append_14 : decode cX2_append 14 = .ok (.aload_n 0, 1) := by decide +kernel
theorem dX2_append_15 : decode cX2_append 15 = .ok (.getfield 21, 3) := by decide +kernel
theorem dX2_append_18 : decode cX2_append 18 = .ok (.lload_n 1, 1) := by decide +kernel
theorem dX2_append_19 : decode cX2_append 19 = .ok (.bipush 8, 2) := by decide +kernel
theorem dX2_append_21 : decode cX2_append 21 = .ok (.iload 4, 2) := by decide +kernel
theorem dX2_append_23 : decode cX2_append 23 = .ok (.imul, 1) := by decide +kernel
theorem dX2_append_24 : decode cX2_append 24 = .ok (.lushr, 1) := by decide +kernel
theorem dX2_append_25 : decode cX2_append 25 = .ok (.ldc2_w 15, 3) := by decide +kernel
theorem dX2_append_28 : decode cX2_append 28 = .ok (.land, 1) := by decide +kernel
theorem dX2_append_29 : decode cX2_append 29 = .ok (.l2i, 1) := by decide +kernel
theorem dX2_append_30 : decode cX2_append 30 = .ok (.i2c, 1) := by decide +kernel
theorem dX2_append_31 : decode cX2_append 31 = .ok (.castore, 1) := by decide +kernel
theorem dX2_append_32 : decode cX2_append 32 = .ok (.aload_n 0, 1) := by decide +kernel
theorem dX2_append_33 : decode cX2_append 33 = .ok (.dup, 1) := by decide +kernel
theorem dX2_append_34 : decode cX2_append 34 = .ok (.getfield 21, 3) := by decide +kernel
theorem dX2_append_37 : decode cX2_append 37 = .ok (.iconst 1, 1) := by decide +kernel
theorem dX2_append_38 : decode cX2_append 38 = .ok (.iadd, 1) := by decide +kernel
theorem dX2_append_39 : decode cX2_append 39 = .ok (.putfield 21, 3) := by decide +kernel
theorem dX2_append_42 : decode cX2_append 42 = .ok (.iinc 4 (-1), 3) := by decide +kernel
theorem dX2_append_45 : decode cX2_append 45 = .ok (.goto (-40), 3) := by decide +kernel
theorem dX2_append_48 : decode cX2_append 48 = .ok (.return_, 1) := by decide +kernel
theorem dX2_firstFault_0 : decode cX2_firstFault 0 = .ok (.iconst 0, 1) := by decide +kernel
theorem dX2_firstFault_1 : decode cX2_firstFault 1 = .ok (.istore_n 1, 1) := by decide +kernel
theorem dX2_firstFault_2 : decode cX2_firstFault 2 = .ok (.iconst 0, 1) := by decide +kernel
theorem dX2_firstFault_3 : decode cX2_firstFault 3 = .ok (.istore_n 2, 1) := by decide +kernel
theorem dX2_firstFault_4 : decode cX2_firstFault 4 = .ok (.iload_n 2, 1) := by decide +kernel
theorem dX2_firstFault_5 : decode cX2_firstFault 5 = .ok (.aload_n 0, 1) := by decide +kernel
theorem dX2_firstFault_6 : decode cX2_firstFault 6 = .ok (.getfield 21, 3) := by decide +kernel
theorem dX2_firstFault_9 : decode cX2_firstFault 9 = .ok (.if_icmp .ge 70, 3) := by decide +kernel
theorem dX2_firstFault_12 : decode cX2_firstFault 12 = .ok (.iload_n 2, 1) := by decide +kernel
theorem dX2_firstFault_13 : decode cX2_firstFault 13 = .ok (.iconst 2, 1) := by decide +kernel
theorem dX2_firstFault_14 : decode cX2_firstFault 14 = .ok (.irem, 1) := by decide +kernel
theorem dX2_firstFault_15 : decode cX2_firstFault 15 = .ok (.iconst 1, 1) := by decide +kernel
theorem dX2_firstFault_16 : decode cX2_firstFault 16 = .ok (.if_icmp .ne 23, 3) := by decide +kernel
theorem dX2_firstFault_19 : decode cX2_firstFault 19 = .ok (.aload_n 0, 1) := by decide +kernel
theorem dX2_firstFault_20 : decode cX2_firstFault 20 = .ok (.getfield 9, 3) := by decide +kernel
theorem dX2_firstFault_23 : decode cX2_firstFault 23 = .ok (.iload_n 2, 1) := by decide +kernel
theorem dX2_firstFault_24 : decode cX2_firstFault 24 = .ok (.caload, 1) := by decide +kernel
theorem dX2_firstFault_25 : decode cX2_firstFault 25 = .ok (.bipush 62, 2) := by decide +kernel
theorem dX2_firstFault_27 : decode cX2_firstFault 27 = .ok (.if_icmp .ne 10, 3) := by decide +kernel
theorem dX2_firstFault_30 : decode cX2_firstFault 30 = .ok (.iload_n 1, 1) := by decide +kernel
theorem dX2_firstFault_31 : decode cX2_firstFault 31 = .ok (.sipush 255, 3) := by decide +kernel
theorem dX2_firstFault_34 : decode cX2_firstFault 34 = .ok (.if_icmp .ne 39, 3) := by decide +kernel
theorem dX2_firstFault_37 : decode cX2_firstFault 37 = .ok (.iload_n 2, 1) := by decide +kernel
theorem dX2_firstFault_38 : decode cX2_firstFault 38 = .ok (.ireturn, 1) := by decide +kernel
theorem dX2_firstFault_39 : decode cX2_firstFault 39 = .ok (.aload_n 0, 1) := by decide +kernel
theorem dX2_firstFault_40 : decode cX2_firstFault 40 = .ok (.getfield 9, 3) := by decide +kernel
theorem dX2_firstFault_43 : decode cX2_firstFault 43 = .ok (.iload_n 2, 1) := by decide +kernel
theorem dX2_firstFault_44 : decode cX2_firstFault 44 = .ok (.caload, 1) := by decide +kernel
theorem dX2_firstFault_45 : decode cX2_firstFault 45 = .ok (.bipush 97, 2) := by decide +kernel
theorem dX2_firstFault_47 : decode cX2_firstFault 47 = .ok (.isub, 1) := by decide +kernel
theorem dX2_firstFault_48 : decode cX2_firstFault 48 = .ok (.istore_n 3, 1) := by decide +kernel
theorem dX2_firstFault_49 : decode cX2_firstFault 49 = .ok (.iload_n 3, 1) := by decide +kernel
theorem dX2_firstFault_50 : decode cX2_firstFault 50 = .ok (.invokestatic 25, 3) := by decide +kernel
theorem dX2_firstFault_53 : decode cX2_firstFault 53 = .ok (.ifCond .eq 12, 3) := by decide +kernel
theorem dX2_firstFault_56 : decode cX2_firstFault 56 = .ok (.iload_n 1, 1) := by decide +kernel
theorem dX2_firstFault_57 : decode cX2_firstFault 57 = .ok (.iload_n 3, 1) := by decide +kernel
theorem dX2_firstFault_58 : decode cX2_firstFault 58 = .ok (.ishr, 1) := by decide +kernel
theorem dX2_firstFault_59 : decode cX2_firstFault 59 = .ok (.iconst 1, 1) := by decide +kernel
theorem dX2_firstFault_60 : decode cX2_firstFault 60 = .ok (.iand, 1) := by decide +kernel
theorem dX2_firstFault_61 : decode cX2_firstFault 61 = .ok (.iconst 1, 1) := by decide +kernel
theorem dX2_firstFault_62 : decode cX2_firstFault 62 = .ok (.if_icmp .ne 5, 3) := by decide +kernel
theorem dX2_firstFault_65 : decode cX2_firstFault 65 = .ok (.iload_n 2, 1) := by decide +kernel
theorem dX2_firstFault_66 : decode cX2_firstFault 66 = .ok (.ireturn, 1) := by decide +kernel
theorem dX2_firstFault_67 : decode cX2_firstFault 67 = .ok (.iload_n 1, 1) := by decide +kernel
theorem dX2_firstFault_68 : decode cX2_firstFault 68 = .ok (.iconst 1, 1) := by decide +kernel
theorem dX2_firstFault_69 : decode cX2_firstFault 69 = .ok (.iload_n 3, 1) := by decide +kernel
theorem dX2_firstFault_70 : decode cX2_firstFault 70 = .ok (.ishl, 1) := by decide +kernel
theorem dX2_firstFault_71 : decode cX2_firstFault 71 = .ok (.ior, 1) := by decide +kernel
theorem dX2_firstFault_72 : decode cX2_firstFault 72 = .ok (.istore_n 1, 1) := by decide +kernel
theorem dX2_firstFault_73 : decode cX2_firstFault 73 = .ok (.iinc 2 1, 3) := by decide +kernel
theorem dX2_firstFault_76 : decode cX2_firstFault 76 = .ok (.goto (-72), 3) := by decide +kernel
theorem dX2_firstFault_79 : decode cX2_firstFault 79 = .ok (.aload_n 0, 1) := by decide +kernel
theorem dX2_firstFault_80 : decode cX2_firstFault 80 = .ok (.getfield 21, 3) := by decide +kernel
theorem dX2_firstFault_83 : decode cX2_firstFault 83 = .ok (.iconst 2, 1) := by decide +kernel
theorem dX2_firstFault_84 : decode cX2_firstFault 84 = .ok (.irem, 1) := by decide +kernel
theorem dX2_firstFault_85 : decode cX2_firstFault 85 = .ok (.ifCond .ne 10, 3) := by decide +kernel
theorem dX2_firstFault_88 : decode cX2_firstFault 88 = .ok (.aload_n 0, 1) := by decide +kernel
theorem dX2_firstFault_89 : decode cX2_firstFault 89 = .ok (.getfield 21, 3) := by decide +kernel
theorem dX2_firstFault_92 : decode cX2_firstFault 92 = .ok (.goto 5, 3) := by decide +kernel
theorem dX2_firstFault_95 : decode cX2_firstFault 95 = .ok (.ldc 29, 2) := by decide +kernel
theorem dX2_firstFault_97 : decode cX2_firstFault 97 = .ok (.ireturn, 1) := by decide +kernel
theorem dX2_moveTo_0 : decode cX2_moveTo 0 = .ok (.aload_n 1, 1) := by decide +kernel
theorem dX2_moveTo_1 : decode cX2_moveTo 1 = .ok (.aload_n 0, 1) := by decide +kernel
theorem dX2_moveTo_2 : decode cX2_moveTo 2 = .ok (.getfield 21, 3) := by decide +kernel
theorem dX2_moveTo_5 : decode cX2_moveTo 5 = .ok (.iconst 1, 1) := by decide +kernel
theorem dX2_moveTo_6 : decode cX2_moveTo 6 = .ok (.iadd, 1) := by decide +kernel
theorem dX2_moveTo_7 : decode cX2_moveTo 7 = .ok (.iconst 2, 1) := by decide +kernel
theorem dX2_moveTo_8 : decode cX2_moveTo 8 = .ok (.idiv, 1) := by decide +kernel
theorem dX2_moveTo_9 : decode cX2_moveTo 9 = .ok (.bipush 8, 2) := by decide +kernel
theorem dX2_moveTo_11 : decode cX2_moveTo 11 = .ok (.invokestatic 30, 3) := by decide +kernel
theorem dX2_moveTo_14 : decode cX2_moveTo 14 = .ok (.putfield 36, 3) := by decide +kernel
theorem dX2_moveTo_17 : decode cX2_moveTo 17 = .ok (.iconst 0, 1) := by decide +kernel
theorem dX2_moveTo_18 : decode cX2_moveTo 18 = .ok (.istore_n 2, 1) := by decide +kernel
theorem dX2_moveTo_19 : decode cX2_moveTo 19 = .ok (.iload_n 2, 1) := by decide +kernel
theorem dX2_moveTo_20 : decode cX2_moveTo 20 = .ok (.aload_n 1, 1) := by decide +kernel
theorem dX2_moveTo_21 : decode cX2_moveTo 21 = .ok (.getfield 36, 3) := by decide +kernel
theorem dX2_moveTo_24 : decode cX2_moveTo 24 = .ok (.if_icmp .ge 26, 3) := by decide +kernel
theorem dX2_moveTo_27 : decode cX2_moveTo 27 = .ok (.aload_n 1, 1) := by decide +kernel
theorem dX2_moveTo_28 : decode cX2_moveTo 28 = .ok (.getfield 39, 3) := by decide +kernel
theorem dX2_moveTo_31 : decode cX2_moveTo 31 = .ok (.iload_n 2, 1) := by decide +kernel
theorem dX2_moveTo_32 : decode cX2_moveTo 32 = .ok (.aload_n 0, 1) := by decide +kernel
theorem dX2_moveTo_33 : decode cX2_moveTo 33 = .ok (.getfield 9, 3) := by decide +kernel
theorem dX2_moveTo_36 : decode cX2_moveTo 36 = .ok (.iconst 2, 1) := by decide +kernel
theorem dX2_moveTo_37 : decode cX2_moveTo 37 = .ok (.iload_n 2, 1) := by decide +kernel
theorem dX2_moveTo_38 : decode cX2_moveTo 38 = .ok (.imul, 1) := by decide +kernel
theorem dX2_moveTo_39 : decode cX2_moveTo 39 = .ok (.caload, 1) := by decide +kernel
theorem dX2_moveTo_40 : decode cX2_moveTo 40 = .ok (.bipush 97, 2) := by decide +kernel
theorem dX2_moveTo_42 : decode cX2_moveTo 42 = .ok (.isub, 1) := by decide +kernel
theorem dX2_moveTo_43 : decode cX2_moveTo 43 = .ok (.iastore, 1) := by decide +kernel
theorem dX2_moveTo_44 : decode cX2_moveTo 44 = .ok (.iinc 2 1, 3) := by decide +kernel
theorem dX2_moveTo_47 : decode cX2_moveTo 47 = .ok (.goto (-28), 3) := by decide +kernel
theorem dX2_moveTo_50 : decode cX2_moveTo 50 = .ok (.aload_n 0, 1) := by decide +kernel
theorem dX2_moveTo_51 : decode cX2_moveTo 51 = .ok (.iconst 0, 1) := by decide +kernel
theorem dX2_moveTo_52 : decode cX2_moveTo 52 = .ok (.putfield 21, 3) := by decide +kernel
theorem dX2_moveTo_55 : decode cX2_moveTo 55 = .ok (.return_, 1) := by decide +kernel
theorem dX3_init_0 : decode cX3_init 0 = .ok (.aload_n 0, 1) := by decide +kernel
theorem dX3_init_1 : decode cX3_init 1 = .ok (.invokespecial 3, 3) := by decide +kernel
theorem dX3_init_4 : decode cX3_init 4 = .ok (.aload_n 0, 1) := by decide +kernel
theorem dX3_init_5 : decode cX3_init 5 = .ok (.iconst 3, 1) := by decide +kernel
theorem dX3_init_6 : decode cX3_init 6 = .ok (.newarray .int, 2) := by decide +kernel
theorem dX3_init_8 : decode cX3_init 8 = .ok (.putfield 9, 3) := by decide +kernel
theorem dX3_init_11 : decode cX3_init 11 = .ok (.aload_n 0, 1) := by decide +kernel
theorem dX3_init_12 : decode cX3_init 12 = .ok (.bipush 8, 2) := by decide +kernel
theorem dX3_init_14 : decode cX3_init 14 = .ok (.newarray .int, 2) := by decide +kernel
theorem dX3_init_16 : decode cX3_init 16 = .ok (.putfield 15, 3) := by decide +kernel
theorem dX3_init_19 : decode cX3_init 19 = .ok (.aload_n 0, 1) := by decide +kernel
theorem dX3_init_20 : decode cX3_init 20 = .ok (.bipush 8, 2) := by decide +kernel
theorem dX3_init_22 : decode cX3_init 22 = .ok (.newarray .int, 2) := by decide +kernel
theorem dX3_init_24 : decode cX3_init 24 = .ok (.putfield 18, 3) := by decide +kernel
theorem dX3_init_27 : decode cX3_init 27 = .ok (.aload_n 0, 1) := by decide +kernel
theorem dX3_init_28 : decode cX3_init 28 = .ok (.bipush 8, 2) := by decide +kernel
theorem dX3_init_30 : decode cX3_init 30 = .ok (.newarray .int, 2) := by decide +kernel
theorem dX3_init_32 : decode cX3_init 32 = .ok (.putfield 21, 3) := by decide +kernel
theorem dX3_init_35 : decode cX3_init 35 = .ok (.aload_n 0, 1) := by decide +kernel
theorem dX3_init_36 : decode cX3_init 36 = .ok (.bipush 6, 2) := by decide +kernel
theorem dX3_init_38 : decode cX3_init 38 = .ok (.anewarray 24, 3) := by decide +kernel
theorem dX3_init_41 : decode cX3_init 41 = .ok (.putfield 26, 3) := by decide +kernel
theorem dX3_init_44 : decode cX3_init 44 = .ok (.getstatic 30, 3) := by decide +kernel
theorem dX3_init_47 : decode cX3_init 47 = .ok (.iconst 0, 1) := by decide +kernel
theorem dX3_init_48 : decode cX3_init 48 = .ok (.aload_n 0, 1) := by decide +kernel
theorem dX3_init_49 : decode cX3_init 49 = .ok (.getfield 9, 3) := by decide +kernel
theorem dX3_init_52 : decode cX3_init 52 = .ok (.iconst 0, 1) := by decide +kernel
theorem dX3_init_53 : decode cX3_init 53 = .ok (.iconst 3, 1) := by decide +kernel
theorem dX3_init_54 : decode cX3_init 54 = .ok (.invokestatic 33, 3) := by decide +kernel
theorem dX3_init_57 : decode cX3_init 57 = .ok (.iconst 0, 1) := by decide +kernel
theorem dX3_init_58 : decode cX3_init 58 = .ok (.istore_n 1, 1) := by decide +kernel
theorem dX3_init_59 : decode cX3_init 59 = .ok (.iload_n 1, 1) := by decide +kernel
theorem dX3_init_60 : decode cX3_init 60 = .ok (.bipush 8, 2) := by decide +kernel
theorem dX3_init_62 : decode cX3_init 62 = .ok (.if_icmp .ge 25, 3) := by decide +kernel
theorem dX3_init_65 : decode cX3_init 65 = .ok (.aload_n 0, 1) := by decide +kernel
theorem dX3_init_66 : decode cX3_init 66 = .ok (.getfield 15, 3) := by decide +kernel
theorem dX3_init_69 : decode cX3_init 69 = .ok (.iload_n 1, 1) := by decide +kernel
theorem dX3_init_70 : decode cX3_init 70 = .ok (.iconst 2, 1) := by decide +kernel
theorem dX3_init_71 : decode cX3_init 71 = .ok (.iload_n 1, 1) := by decide +kernel
theorem dX3_init_72 : decode cX3_init 72 = .ok (.imul, 1) := by decide +kernel
theorem dX3_init_73 : decode cX3_init 73 = .ok (.iastore, 1) := by decide +kernel
theorem dX3_init_74 : decode cX3_init 74 = .ok (.aload_n 0, 1) := by decide +kernel
theorem dX3_init_75 : decode cX3_init 75 = .ok (.getfield 21, 3) := by decide +kernel
theorem dX3_init_78 : decode cX3_init 78 = .ok (.iload_n 1, 1) := by decide +kernel
theorem dX3_init_79 : decode cX3_init 79 = .ok (.iconst 5, 1) := by decide +kernel
theorem dX3_init_80 : decode cX3_init 80 = .ok (.iastore, 1) := by decide +kernel
theorem dX3_init_81 : decode cX3_init 81 = .ok (.iinc 1 1, 3) := by decide +kernel
theorem dX3_init_84 : decode cX3_init 84 = .ok (.goto (-25), 3) := by decide +kernel
theorem dX3_init_87 : decode cX3_init 87 = .ok (.iconst 0, 1) := by decide +kernel
theorem dX3_init_88 : decode cX3_init 88 = .ok (.istore_n 1, 1) := by decide +kernel
theorem dX3_init_89 : decode cX3_init 89 = .ok (.iload_n 1, 1) := by decide +kernel
theorem dX3_init_90 : decode cX3_init 90 = .ok (.bipush 6, 2) := by decide +kernel
theorem dX3_init_92 : decode cX3_init 92 = .ok (.if_icmp .ge 22, 3) := by decide +kernel
theorem dX3_init_95 : decode cX3_init 95 = .ok (.aload_n 0, 1) := by decide +kernel
theorem dX3_init_96 : decode cX3_init 96 = .ok (.getfield 26, 3) := by decide +kernel
theorem dX3_init_99 : decode cX3_init 99 = .ok (.iload_n 1, 1) := by decide +kernel
theorem dX3_init_100 : decode cX3_init 100 = .ok (.new 24, 3) := by decide +kernel
theorem dX3_init_103 : decode cX3_init 103 = .ok (.dup, 1) := by decide +kernel
theorem dX3_init_104 : decode cX3_init 104 = .ok (.invokespecial 39, 3) := by decide +kernel
theorem dX3_init_107 : decode cX3_init 107 = .ok (.aastore, 1) := by decide +kernel
theorem dX3_init_108 : decode cX3_init 108 = .ok (.iinc 1 1, 3) := by decide +kernel
theorem dX3_init_111 : decode cX3_init 111 = .ok (.goto (-22), 3) := by decide +kernel
theorem dX3_init_114 : decode cX3_init 114 = .ok (.return_, 1) := by decide +kernel
theorem dX3_copyFrom_0 : decode cX3_copyFrom 0 = .ok (.aload_n 1, 1) := by decide +kernel
theorem dX3_copyFrom_1 : decode cX3_copyFrom 1 = .ok (.getfield 9, 3) := by decide +kernel
theorem dX3_copyFrom_4 : decode cX3_copyFrom 4 = .ok (.iconst 0, 1) := by decide +kernel
theorem dX3_copyFrom_5 : decode cX3_copyFrom 5 = .ok (.aload_n 0, 1) := by decide +kernel
theorem dX3_copyFrom_6 : decode cX3_copyFrom 6 = .ok (.getfield 9, 3) := by decide +kernel
theorem dX3_copyFrom_9 : decode cX3_copyFrom 9 = .ok (.iconst 0, 1) := by decide +kernel
theorem dX3_copyFrom_10 : decode cX3_copyFrom 10 = .ok (.iconst 3, 1) := by decide +kernel
theorem dX3_copyFrom_11 : decode cX3_copyFrom 11 = .ok (.invokestatic 33, 3) := by decide +kernel
theorem dX3_copyFrom_14 : decode cX3_copyFrom 14 = .ok (.aload_n 1, 1) := by decide +kernel
theorem dX3_copyFrom_15 : decode cX3_copyFrom 15 = .ok (.getfield 15, 3) := by decide +kernel
theorem dX3_copyFrom_18 : decode cX3_copyFrom 18 = .ok (.iconst 0, 1) := by decide +kernel
theorem dX3_copyFrom_19 : decode cX3_copyFrom 19 = .ok (.aload_n 0, 1) := by decide +kernel
theorem dX3_copyFrom_20 : decode cX3_copyFrom 20 = .ok (.getfield 15, 3) := by decide +kernel
theorem dX3_copyFrom_23 : decode cX3_copyFrom 23 = .ok (.iconst 0, 1) := by decide +kernel
theorem dX3_copyFrom_24 : decode cX3_copyFrom 24 = .ok (.bipush 8, 2) := by decide +kernel
theorem dX3_copyFrom_26 : decode cX3_copyFrom 26 = .ok (.invokestatic 33, 3) := by decide +kernel
theorem dX3_copyFrom_29 : decode cX3_copyFrom 29 = .ok (.aload_n 1, 1) := by decide +kernel
theorem dX3_copyFrom_30 : decode cX3_copyFrom 30 = .ok (.getfield 18, 3) := by decide +kernel
theorem dX3_copyFrom_33 : decode cX3_copyFrom 33 = .ok (.iconst 0, 1) := by decide +kernel
theorem dX3_copyFrom_34 : decode cX3_copyFrom 34 = .ok (.aload_n 0, 1) := by decide +kernel
theorem dX3_copyFrom_35 : decode cX3_copyFrom 35 = .ok (.getfield 18, 3) := by decide +kernel
theorem dX3_copyFrom_38 : decode cX3_copyFrom 38 = .ok (.iconst 0, 1) := by decide +kernel
theorem dX3_copyFrom_39 : decode cX3_copyFrom 39 = .ok (.bipush 8, 2) := by decide +kernel
theorem dX3_copyFrom_41 : decode cX3_copyFrom 41 = .ok (.invokestatic 33, 3) := by decide +kernel
theorem dX3_copyFrom_44 : decode cX3_copyFrom 44 = .ok (.aload_n 1, 1) := by decide +kernel
theorem dX3_copyFrom_45 : decode cX3_copyFrom 45 = .ok (.getfield 21, 3) := by decide +kernel
theorem dX3_copyFrom_48 : decode cX3_copyFrom 48 = .ok (.iconst 0, 1) := by decide +kernel
theorem dX3_copyFrom_49 : decode cX3_copyFrom 49 = .ok (.aload_n 0, 1) := by decide +kernel
theorem dX3_copyFrom_50 : decode cX3_copyFrom 50 = .ok (.getfield 21, 3) := by decide +kernel
theorem dX3_copyFrom_53 : decode cX3_copyFrom 53 = .ok (.iconst 0, 1) := by decide +kernel
theorem dX3_copyFrom_54 : decode cX3_copyFrom 54 = .ok (.bipush 8, 2) := by decide +kernel
theorem dX3_copyFrom_56 : decode cX3_copyFrom 56 = .ok (.invokestatic 33, 3) := by decide +kernel
theorem dX3_copyFrom_59 : decode cX3_copyFrom 59 = .ok (.aload_n 0, 1) := by decide +kernel
theorem dX3_copyFrom_60 : decode cX3_copyFrom 60 = .ok (.aload_n 1, 1) := by decide +kernel
theorem dX3_copyFrom_61 : decode cX3_copyFrom 61 = .ok (.getfield 40, 3) := by decide +kernel
theorem dX3_copyFrom_64 : decode cX3_copyFrom 64 = .ok (.putfield 40, 3) := by decide +kernel
theorem dX3_copyFrom_67 : decode cX3_copyFrom 67 = .ok (.iconst 0, 1) := by decide +kernel
theorem dX3_copyFrom_68 : decode cX3_copyFrom 68 = .ok (.istore_n 2, 1) := by decide +kernel
theorem dX3_copyFrom_69 : decode cX3_copyFrom 69 = .ok (.iload_n 2, 1) := by decide +kernel
theorem dX3_copyFrom_70 : decode cX3_copyFrom 70 = .ok (.bipush 6, 2) := by decide +kernel
theorem dX3_copyFrom_72 : decode cX3_copyFrom 72 = .ok (.if_icmp .ge 24, 3) := by decide +kernel
theorem dX3_copyFrom_75 : decode cX3_copyFrom 75 = .ok (.aload_n 0, 1) := by decide +kernel
theorem dX3_copyFrom_76 : decode cX3_copyFrom 76 = .ok (.getfield 26, 3) := by decide +kernel
theorem dX3_copyFrom_79 : decode cX3_copyFrom 79 = .ok (.iload_n 2, 1) := by decide +kernel
theorem dX3_copyFrom_80 : decode cX3_copyFrom 80 = .ok (.aaload, 1) := by decide +kernel
theorem dX3_copyFrom_81 : decode cX3_copyFrom 81 = .ok (.aload_n 1, 1) := by decide +kernel
theorem dX3_copyFrom_82 : decode cX3_copyFrom 82 = .ok (.getfield 26, 3) := by decide +kernel
theorem dX3_copyFrom_85 : decode cX3_copyFrom 85 = .ok (.iload_n 2, 1) := by decide +kernel
theorem dX3_copyFrom_86 : decode cX3_copyFrom 86 = .ok (.aaload, 1) := by decide +kernel
theorem dX3_copyFrom_87 : decode cX3_copyFrom 87 = .ok (.invokevirtual 44, 3) := by decide +kernel
theorem dX3_copyFrom_90 : decode cX3_copyFrom 90 = .ok (.iinc 2 1, 3) := by decide +kernel
theorem dX3_copyFrom_93 : decode cX3_copyFrom 93 = .ok (.goto (-24), 3) := by decide +kernel
theorem dX3_copyFrom_96 : decode cX3_copyFrom 96 = .ok (.aload_n 0, 1) := by decide +kernel
theorem dX3_copyFrom_97 : decode cX3_copyFrom 97 = .ok (.aload_n 1, 1) := by decide +kernel
theorem dX3_copyFrom_98 : decode cX3_copyFrom 98 = .ok (.getfield 48, 3) := by decide +kernel
theorem dX3_copyFrom_101 : decode cX3_copyFrom 101 = .ok (.putfield 48, 3) := by decide +kernel
theorem dX3_copyFrom_104 : decode cX3_copyFrom 104 = .ok (.return_, 1) := by decide +kernel
theorem dX3_isClosed_0 : decode cX3_isClosed 0 = .ok (.aload_n 0, 1) := by decide +kernel
theorem dX3_isClosed_1 : decode cX3_isClosed 1 = .ok (.getfield 40, 3) := by decide +kernel
theorem dX3_isClosed_4 : decode cX3_isClosed 4 = .ok (.iload_n 1, 1) := by decide +kernel
theorem dX3_isClosed_5 : decode cX3_isClosed 5 = .ok (.ishr, 1) := by decide +kernel
theorem dX3_isClosed_6 : decode cX3_isClosed 6 = .ok (.iconst 1, 1) := by decide +kernel
theorem dX3_isClosed_7 : decode cX3_isClosed 7 = .ok (.iand, 1) := by decide +kernel
theorem dX3_isClosed_8 : decode cX3_isClosed 8 = .ok (.iconst 1, 1) := by decide +kernel
theorem dX3_isClosed_9 : decode cX3_isClosed 9 = .ok (.if_icmp .ne 7, 3) := by decide +kernel
theorem dX3_isClosed_12 : decode cX3_isClosed 12 = .ok (.iconst 1, 1) := by decide +kernel
theorem dX3_isClosed_13 : decode cX3_isClosed 13 = .ok (.goto 4, 3) := by decide +kernel
theorem dX3_isClosed_16 : decode cX3_isClosed 16 = .ok (.iconst 0, 1) := by decide +kernel
theorem dX3_isClosed_17 : decode cX3_isClosed 17 = .ok (.ireturn, 1) := by decide +kernel
theorem dX3_openPlaces_0 : decode cX3_openPlaces 0 = .ok (.bipush 8, 2) := by decide +kernel
theorem dX3_openPlaces_2 : decode cX3_openPlaces 2 = .ok (.aload_n 0, 1) := by decide +kernel
theorem dX3_openPlaces_3 : decode cX3_openPlaces 3 = .ok (.getfield 40, 3) := by decide +kernel
theorem dX3_openPlaces_6 : decode cX3_openPlaces 6 = .ok (.invokestatic 51, 3) := by decide +kernel
theorem dX3_openPlaces_9 : decode cX3_openPlaces 9 = .ok (.isub, 1) := by decide +kernel
theorem dX3_openPlaces_10 : decode cX3_openPlaces 10 = .ok (.ireturn, 1) := by decide +kernel
theorem dX3_trailLength_0 : decode cX3_trailLength 0 = .ok (.iconst 0, 1) := by decide +kernel
theorem dX3_trailLength_1 : decode cX3_trailLength 1 = .ok (.istore_n 2, 1) := by decide +kernel
theorem dX3_trailLength_2 : decode cX3_trailLength 2 = .ok (.iconst 0, 1) := by decide +kernel
theorem dX3_trailLength_3 : decode cX3_trailLength 3 = .ok (.istore_n 3, 1) := by decide +kernel
theorem dX3_trailLength_4 : decode cX3_trailLength 4 = .ok (.iload_n 3, 1) := by decide +kernel
theorem dX3_trailLength_5 : decode cX3_trailLength 5 = .ok (.aload_n 0, 1) := by decide +kernel
theorem dX3_trailLength_6 : decode cX3_trailLength 6 = .ok (.getfield 26, 3) := by decide +kernel
theorem dX3_trailLength_9 : decode cX3_trailLength 9 = .ok (.iload_n 1, 1) := by decide +kernel
theorem dX3_trailLength_10 : decode cX3_trailLength 10 = .ok (.aaload, 1) := by decide +kernel
theorem dX3_trailLength_11 : decode cX3_trailLength 11 = .ok (.getfield 57, 3) := by decide +kernel
theorem dX3_trailLength_14 : decode cX3_trailLength 14 = .ok (.if_icmp .ge 30, 3) := by decide +kernel
theorem dX3_trailLength_17 : decode cX3_trailLength 17 = .ok (.aload_n 0, 1) := by decide +kernel
theorem dX3_trailLength_18 : decode cX3_trailLength 18 = .ok (.aload_n 0, 1) := by decide +kernel
theorem dX3_trailLength_19 : decode cX3_trailLength 19 = .ok (.getfield 26, 3) := by decide +kernel
theorem dX3_trailLength_22 : decode cX3_trailLength 22 = .ok (.iload_n 1, 1) := by decide +kernel
theorem dX3_trailLength_23 : decode cX3_trailLength 23 = .ok (.aaload, 1) := by decide +kernel
theorem dX3_trailLength_24 : decode cX3_trailLength 24 = .ok (.getfield 60, 3) := by decide +kernel
theorem dX3_trailLength_27 : decode cX3_trailLength 27 = .ok (.iload_n 3, 1) := by decide +kernel
theorem dX3_trailLength_28 : decode cX3_trailLength 28 = .ok (.iaload, 1) := by decide +kernel
theorem dX3_trailLength_29 : decode cX3_trailLength 29 = .ok (.invokevirtual 63, 3) := by decide +kernel
theorem dX3_trailLength_32 : decode cX3_trailLength 32 = .ok (.ifCond .ne 6, 3) := by decide +kernel
theorem dX3_trailLength_35 : decode cX3_trailLength 35 = .ok (.iinc 2 1, 3) := by decide +kernel
theorem dX3_trailLength_38 : decode cX3_trailLength 38 = .ok (.iinc 3 1, 3) := by decide +kernel
theorem dX3_trailLength_41 : decode cX3_trailLength 41 = .ok (.goto (-37), 3) := by decide +kernel
theorem dX3_trailLength_44 : decode cX3_trailLength 44 = .ok (.iload_n 2, 1) := by decide +kernel
theorem dX3_trailLength_45 : decode cX3_trailLength 45 = .ok (.ireturn, 1) := by decide +kernel
theorem dX3_lookOf_0 : decode cX3_lookOf 0 = .ok (.aload_n 0, 1) := by decide +kernel
theorem dX3_lookOf_1 : decode cX3_lookOf 1 = .ok (.getfield 26, 3) := by decide +kernel
theorem dX3_lookOf_4 : decode cX3_lookOf 4 = .ok (.iload_n 1, 1) := by decide +kernel
theorem dX3_lookOf_5 : decode cX3_lookOf 5 = .ok (.aaload, 1) := by decide +kernel
theorem dX3_lookOf_6 : decode cX3_lookOf 6 = .ok (.iload_n 2, 1) := by decide +kernel
theorem dX3_lookOf_7 : decode cX3_lookOf 7 = .ok (.invokevirtual 67, 3) := by decide +kernel
theorem dX3_lookOf_10 : decode cX3_lookOf 10 = .ok (.ifCond .eq 16, 3) := by decide +kernel
theorem dX3_lookOf_13 : decode cX3_lookOf 13 = .ok (.aload_n 0, 1) := by decide +kernel
theorem dX3_lookOf_14 : decode cX3_lookOf 14 = .ok (.getfield 21, 3) := by decide +kernel
theorem dX3_lookOf_17 : decode cX3_lookOf 17 = .ok (.iload_n 2, 1) := by decide +kernel
theorem dX3_lookOf_18 : decode cX3_lookOf 18 = .ok (.iaload, 1) := by decide +kernel
theorem dX3_lookOf_19 : decode cX3_lookOf 19 = .ok (.iconst 1, 1) := by decide +kernel
theorem dX3_lookOf_20 : decode cX3_lookOf 20 = .ok (.iadd, 1) := by decide +kernel
theorem dX3_lookOf_21 : decode cX3_lookOf 21 = .ok (.iconst 2, 1) := by decide +kernel
theorem dX3_lookOf_22 : decode cX3_lookOf 22 = .ok (.idiv, 1) := by decide +kernel
theorem dX3_lookOf_23 : decode cX3_lookOf 23 = .ok (.goto 9, 3) := by decide +kernel
theorem dX3_lookOf_26 : decode cX3_lookOf 26 = .ok (.aload_n 0, 1) := by decide +kernel
theorem dX3_lookOf_27 : decode cX3_lookOf 27 = .ok (.getfield 21, 3) := by decide +kernel
theorem dX3_lookOf_30 : decode cX3_lookOf 30 = .ok (.iload_n 2, 1) := by decide +kernel
theorem dX3_lookOf_31 : decode cX3_lookOf 31 = .ok (.iaload, 1) := by decide +kernel
theorem dX3_lookOf_32 : decode cX3_lookOf 32 = .ok (.ireturn, 1) := by decide +kernel
theorem dX4_init_0 : decode cX4_init 0 = .ok (.aload_n 0, 1) := by decide +kernel
theorem dX4_init_1 : decode cX4_init 1 = .ok (.invokespecial 3, 3) := by decide +kernel
theorem dX4_init_4 : decode cX4_init 4 = .ok (.aload_n 0, 1) := by decide +kernel
theorem dX4_init_5 : decode cX4_init 5 = .ok (.bipush 8, 2) := by decide +kernel
theorem dX4_init_7 : decode cX4_init 7 = .ok (.newarray .int, 2) := by decide +kernel
theorem dX4_init_9 : decode cX4_init 9 = .ok (.putfield 9, 3) := by decide +kernel
theorem dX4_init_12 : decode cX4_init 12 = .ok (.aload_n 0, 1) := by decide +kernel
theorem dX4_init_13 : decode cX4_init 13 = .ok (.iconst (-1), 1) := by decide +kernel
theorem dX4_init_14 : decode cX4_init 14 = .ok (.putfield 15, 3) := by decide +kernel
theorem dX4_init_17 : decode cX4_init 17 = .ok (.return_, 1) := by decide +kernel
theorem dX4_copyFrom_0 : decode cX4_copyFrom 0 = .ok (.aload_n 1, 1) := by decide +kernel
theorem dX4_copyFrom_1 : decode cX4_copyFrom 1 = .ok (.getfield 9, 3) := by decide +kernel
theorem dX4_copyFrom_4 : decode cX4_copyFrom 4 = .ok (.iconst 0, 1) := by decide +kernel
theorem dX4_copyFrom_5 : decode cX4_copyFrom 5 = .ok (.aload_n 0, 1) := by decide +kernel
theorem dX4_copyFrom_6 : decode cX4_copyFrom 6 = .ok (.getfield 9, 3) := by decide +kernel
theorem dX4_copyFrom_9 : decode cX4_copyFrom 9 = .ok (.iconst 0, 1) := by decide +kernel
theorem dX4_copyFrom_10 : decode cX4_copyFrom 10 = .ok (.bipush 8, 2) := by decide +kernel
theorem dX4_copyFrom_12 : decode cX4_copyFrom 12 = .ok (.invokestatic 19, 3) := by decide +kernel
theorem dX4_copyFrom_15 : decode cX4_copyFrom 15 = .ok (.aload_n 0, 1) := by decide +kernel
theorem dX4_copyFrom_16 : decode cX4_copyFrom 16 = .ok (.aload_n 1, 1) := by decide +kernel
theorem dX4_copyFrom_17 : decode cX4_copyFrom 17 = .ok (.getfield 25, 3) := by decide +kernel
theorem dX4_copyFrom_20 : decode cX4_copyFrom 20 = .ok (.putfield 25, 3) := by decide +kernel
theorem dX4_copyFrom_23 : decode cX4_copyFrom 23 = .ok (.aload_n 0, 1) := by decide +kernel
theorem dX4_copyFrom_24 : decode cX4_copyFrom 24 = .ok (.aload_n 1, 1) := by decide +kernel
theorem dX4_copyFrom_25 : decode cX4_copyFrom 25 = .ok (.getfield 28, 3) := by decide +kernel
theorem dX4_copyFrom_28 : decode cX4_copyFrom 28 = .ok (.putfield 28, 3) := by decide +kernel
theorem dX4_copyFrom_31 : decode cX4_copyFrom 31 = .ok (.aload_n 0, 1) := by decide +kernel
theorem dX4_copyFrom_32 : decode cX4_copyFrom 32 = .ok (.aload_n 1, 1) := by decide +kernel
theorem dX4_copyFrom_33 : decode cX4_copyFrom 33 = .ok (.getfield 31, 3) := by decide +kernel
theorem dX4_copyFrom_36 : decode cX4_copyFrom 36 = .ok (.putfield 31, 3) := by decide +kernel
theorem dX4_copyFrom_39 : decode cX4_copyFrom 39 = .ok (.aload_n 0, 1) := by decide +kernel
theorem dX4_copyFrom_40 : decode cX4_copyFrom 40 = .ok (.aload_n 1, 1) := by decide +kernel
theorem dX4_copyFrom_41 : decode cX4_copyFrom 41 = .ok (.getfield 15, 3) := by decide +kernel
theorem dX4_copyFrom_44 : decode cX4_copyFrom 44 = .ok (.putfield 15, 3) := by decide +kernel
theorem dX4_copyFrom_47 : decode cX4_copyFrom 47 = .ok (.return_, 1) := by decide +kernel
theorem dX4_hasHint_0 : decode cX4_hasHint 0 = .ok (.aload_n 0, 1) := by decide +kernel
theorem dX4_hasHint_1 : decode cX4_hasHint 1 = .ok (.getfield 31, 3) := by decide +kernel
theorem dX4_hasHint_4 : decode cX4_hasHint 4 = .ok (.iload_n 1, 1) := by decide +kernel
theorem dX4_hasHint_5 : decode cX4_hasHint 5 = .ok (.ishr, 1) := by decide +kernel
theorem dX4_hasHint_6 : decode cX4_hasHint 6 = .ok (.iconst 1, 1) := by decide +kernel
theorem dX4_hasHint_7 : decode cX4_hasHint 7 = .ok (.iand, 1) := by decide +kernel
theorem dX4_hasHint_8 : decode cX4_hasHint 8 = .ok (.iconst 1, 1) := by decide +kernel
theorem dX4_hasHint_9 : decode cX4_hasHint 9 = .ok (.if_icmp .ne 7, 3) := by decide +kernel
theorem dX4_hasHint_12 : decode cX4_hasHint 12 = .ok (.iconst 1, 1) := by decide +kernel
theorem dX4_hasHint_13 : decode cX4_hasHint 13 = .ok (.goto 4, 3) := by decide +kernel
theorem dX4_hasHint_16 : decode cX4_hasHint 16 = .ok (.iconst 0, 1) := by decide +kernel
theorem dX4_hasHint_17 : decode cX4_hasHint 17 = .ok (.ireturn, 1) := by decide +kernel
theorem dX4_exchangePlaces_0 : decode cX4_exchangePlaces 0 = .ok (.aload_n 0, 1) := by decide +kernel
theorem dX4_exchangePlaces_1 : decode cX4_exchangePlaces 1 = .ok (.getfield 9, 3) := by decide +kernel
theorem dX4_exchangePlaces_4 : decode cX4_exchangePlaces 4 = .ok (.iload_n 1, 1) := by decide +kernel
theorem dX4_exchangePlaces_5 : decode cX4_exchangePlaces 5 = .ok (.iaload, 1) := by decide +kernel
theorem dX4_exchangePlaces_6 : decode cX4_exchangePlaces 6 = .ok (.istore_n 3, 1) := by decide +kernel
theorem dX4_exchangePlaces_7 : decode cX4_exchangePlaces 7 = .ok (.aload_n 0, 1) := by decide +kernel
theorem dX4_exchangePlaces_8 : decode cX4_exchangePlaces 8 = .ok (.getfield 9, 3) := by decide +kernel
theorem dX4_exchangePlaces_11 : decode cX4_exchangePlaces 11 = .ok (.iload_n 1, 1) := by decide +kernel
theorem dX4_exchangePlaces_12 : decode cX4_exchangePlaces 12 = .ok (.aload_n 0, 1) := by decide +kernel
theorem dX4_exchangePlaces_13 : decode cX4_exchangePlaces 13 = .ok (.getfield 9, 3) := by decide +kernel
theorem dX4_exchangePlaces_16 : decode cX4_exchangePlaces 16 = .ok (.iload_n 2, 1) := by decide +kernel
theorem dX4_exchangePlaces_17 : decode cX4_exchangePlaces 17 = .ok (.iaload, 1) := by decide +kernel
theorem dX4_exchangePlaces_18 : decode cX4_exchangePlaces 18 = .ok (.iastore, 1) := by decide +kernel
theorem dX4_exchangePlaces_19 : decode cX4_exchangePlaces 19 = .ok (.aload_n 0, 1) := by decide +kernel
theorem dX4_exchangePlaces_20 : decode cX4_exchangePlaces 20 = .ok (.getfield 9, 3) := by decide +kernel
theorem dX4_exchangePlaces_23 : decode cX4_exchangePlaces 23 = .ok (.iload_n 2, 1) := by decide +kernel
theorem dX4_exchangePlaces_24 : decode cX4_exchangePlaces 24 = .ok (.iload_n 3, 1) := by decide +kernel
theorem dX4_exchangePlaces_25 : decode cX4_exchangePlaces 25 = .ok (.iastore, 1) := by decide +kernel
theorem dX4_exchangePlaces_26 : decode cX4_exchangePlaces 26 = .ok (.return_, 1) := by decide +kernel
theorem dX5_init_0 : decode cX5_init 0 = .ok (.aload_n 0, 1) := by decide +kernel
theorem dX5_init_1 : decode cX5_init 1 = .ok (.invokespecial 1, 3) := by decide +kernel
theorem dX5_init_4 : decode cX5_init 4 = .ok (.aload_n 0, 1) := by decide +kernel
theorem dX5_init_5 : decode cX5_init 5 = .ok (.new 7, 3) := by decide +kernel
theorem dX5_init_8 : decode cX5_init 8 = .ok (.dup, 1) := by decide +kernel
theorem dX5_init_9 : decode cX5_init 9 = .ok (.invokespecial 9, 3) := by decide +kernel
theorem dX5_init_12 : decode cX5_init 12 = .ok (.putfield 10, 3) := by decide +kernel
theorem dX5_init_15 : decode cX5_init 15 = .ok (.aload_n 0, 1) := by decide +kernel
theorem dX5_init_16 : decode cX5_init 16 = .ok (.new 7, 3) := by decide +kernel
theorem dX5_init_19 : decode cX5_init 19 = .ok (.dup, 1) := by decide +kernel
theorem dX5_init_20 : decode cX5_init 20 = .ok (.invokespecial 9, 3) := by decide +kernel
theorem dX5_init_23 : decode cX5_init 23 = .ok (.putfield 16, 3) := by decide +kernel
theorem dX5_init_26 : decode cX5_init 26 = .ok (.aload_n 0, 1) := by decide +kernel
theorem dX5_init_27 : decode cX5_init 27 = .ok (.new 19, 3) := by decide +kernel
theorem dX5_init_30 : decode cX5_init 30 = .ok (.dup, 1) := by decide +kernel
theorem dX5_init_31 : decode cX5_init 31 = .ok (.invokespecial 21, 3) := by decide +kernel
theorem dX5_init_34 : decode cX5_init 34 = .ok (.putfield 22, 3) := by decide +kernel
theorem dX5_init_37 : decode cX5_init 37 = .ok (.aload_n 0, 1) := by decide +kernel
theorem dX5_init_38 : decode cX5_init 38 = .ok (.new 26, 3) := by decide +kernel
theorem dX5_init_41 : decode cX5_init 41 = .ok (.dup, 1) := by decide +kernel
theorem dX5_init_42 : decode cX5_init 42 = .ok (.invokespecial 28, 3) := by decide +kernel
theorem dX5_init_45 : decode cX5_init 45 = .ok (.putfield 29, 3) := by decide +kernel
theorem dX5_init_48 : decode cX5_init 48 = .ok (.aload_n 0, 1) := by decide +kernel
theorem dX5_init_49 : decode cX5_init 49 = .ok (.new 33, 3) := by decide +kernel
theorem dX5_init_52 : decode cX5_init 52 = .ok (.dup, 1) := by decide +kernel
theorem dX5_init_53 : decode cX5_init 53 = .ok (.invokespecial 35, 3) := by decide +kernel
theorem dX5_init_56 : decode cX5_init 56 = .ok (.putfield 36, 3) := by decide +kernel
theorem dX5_init_59 : decode cX5_init 59 = .ok (.aload_n 0, 1) := by decide +kernel
theorem dX5_init_60 : decode cX5_init 60 = .ok (.iconst 2, 1) := by decide +kernel
theorem dX5_init_61 : decode cX5_init 61 = .ok (.anewarray 7, 3) := by decide +kernel
theorem dX5_init_64 : decode cX5_init 64 = .ok (.putfield 40, 3) := by decide +kernel
theorem dX5_init_67 : decode cX5_init 67 = .ok (.aload_n 0, 1) := by decide +kernel
theorem dX5_init_68 : decode cX5_init 68 = .ok (.iconst 2, 1) := by decide +kernel
theorem dX5_init_69 : decode cX5_init 69 = .ok (.newarray .boolean, 2) := by decide +kernel
theorem dX5_init_71 : decode cX5_init 71 = .ok (.putfield 44, 3) := by decide +kernel
theorem dX5_init_74 : decode cX5_init 74 = .ok (.iconst 0, 1) := by decide +kernel
theorem dX5_init_75 : decode cX5_init 75 = .ok (.istore_n 1, 1) := by decide +kernel
theorem dX5_init_76 : decode cX5_init 76 = .ok (.iload_n 1, 1) := by decide +kernel
theorem dX5_init_77 : decode cX5_init 77 = .ok (.iconst 2, 1) := by decide +kernel
theorem dX5_init_78 : decode cX5_init 78 = .ok (.if_icmp .ge 22, 3) := by decide +kernel
theorem dX5_init_81 : decode cX5_init 81 = .ok (.aload_n 0, 1) := by decide +kernel
theorem dX5_init_82 : decode cX5_init 82 = .ok (.getfield 40, 3) := by decide +kernel
theorem dX5_init_85 : decode cX5_init 85 = .ok (.iload_n 1, 1) := by decide +kernel
theorem dX5_init_86 : decode cX5_init 86 = .ok (.new 7, 3) := by decide +kernel
theorem dX5_init_89 : decode cX5_init 89 = .ok (.dup, 1) := by decide +kernel
theorem dX5_init_90 : decode cX5_init 90 = .ok (.invokespecial 9, 3) := by decide +kernel
theorem dX5_init_93 : decode cX5_init 93 = .ok (.aastore, 1) := by decide +kernel
theorem dX5_init_94 : decode cX5_init 94 = .ok (.iinc 1 1, 3) := by decide +kernel
theorem dX5_init_97 : decode cX5_init 97 = .ok (.goto (-21), 3) := by decide +kernel
theorem dX5_init_100 : decode cX5_init 100 = .ok (.return_, 1) := by decide +kernel
theorem dX5_set_0 : decode cX5_set 0 = .ok (.iload_n 1, 1) := by decide +kernel
theorem dX5_set_1 : decode cX5_set 1 = .ok (.iconst 0, 1) := by decide +kernel
theorem dX5_set_2 : decode cX5_set 2 = .ok (.iconst 2, 1) := by decide +kernel
theorem dX5_set_3 : decode cX5_set 3 = .ok (.invokestatic 48, 3) := by decide +kernel
theorem dX5_set_6 : decode cX5_set 6 = .ok (.ifCond .ne 6, 3) := by decide +kernel
theorem dX5_set_9 : decode cX5_set 9 = .ok (.ldc 52, 2) := by decide +kernel
theorem dX5_set_11 : decode cX5_set 11 = .ok (.ireturn, 1) := by decide +kernel
theorem dX5_set_12 : decode cX5_set 12 = .ok (.iload_n 2, 1) := by decide +kernel
theorem dX5_set_13 : decode cX5_set 13 = .ok (.getstatic 53, 3) := by decide +kernel
theorem dX5_set_16 : decode cX5_set 16 = .ok (.iload_n 1, 1) := by decide +kernel
theorem dX5_set_17 : decode cX5_set 17 = .ok (.iaload, 1) := by decide +kernel
theorem dX5_set_18 : decode cX5_set 18 = .ok (.getstatic 57, 3) := by decide +kernel
theorem dX5_set_21 : decode cX5_set 21 = .ok (.iload_n 1, 1) := by decide +kernel
theorem dX5_set_22 : decode cX5_set 22 = .ok (.iaload, 1) := by decide +kernel
theorem dX5_set_23 : decode cX5_set 23 = .ok (.invokestatic 48, 3) := by decide +kernel
theorem dX5_set_26 : decode cX5_set 26 = .ok (.ifCond .ne 6, 3) := by decide +kernel
theorem dX5_set_29 : decode cX5_set 29 = .ok (.ldc 52, 2) := by decide +kernel
theorem dX5_set_31 : decode cX5_set 31 = .ok (.ireturn, 1) := by decide +kernel
theorem dX5_set_32 : decode cX5_set 32 = .ok (.aload_n 0, 1) := by decide +kernel
theorem dX5_set_33 : decode cX5_set 33 = .ok (.getfield 36, 3) := by decide +kernel
theorem dX5_set_36 : decode cX5_set 36 = .ok (.aload_n 0, 1) := by decide +kernel
theorem dX5_set_37 : decode cX5_set 37 = .ok (.getfield 10, 3) := by decide +kernel
theorem dX5_set_40 : decode cX5_set 40 = .ok (.invokevirtual 60, 3) := by decide +kernel
theorem dX5_set_43 : decode cX5_set 43 = .ok (.aload_n 0, 1) := by decide +kernel
theorem dX5_set_44 : decode cX5_set 44 = .ok (.getfield 10, 3) := by decide +kernel
theorem dX5_set_47 : decode cX5_set 47 = .ok (.getfield 64, 3) := by decide +kernel
theorem dX5_set_50 : decode cX5_set 50 = .ok (.iload_n 1, 1) := by decide +kernel
theorem dX5_set_51 : decode cX5_set 51 = .ok (.iaload, 1) := by decide +kernel
theorem dX5_set_52 : decode cX5_set 52 = .ok (.istore_n 3, 1) := by decide +kernel
theorem dX5_set_53 : decode cX5_set 53 = .ok (.aload_n 0, 1) := by decide +kernel
theorem dX5_set_54 : decode cX5_set 54 = .ok (.getfield 10, 3) := by decide +kernel
theorem dX5_set_57 : decode cX5_set 57 = .ok (.getfield 64, 3) := by decide +kernel
theorem dX5_set_60 : decode cX5_set 60 = .ok (.iload_n 1, 1) := by decide +kernel
theorem dX5_set_61 : decode cX5_set 61 = .ok (.iload_n 2, 1) := by decide +kernel
theorem dX5_set_62 : decode cX5_set 62 = .ok (.iastore, 1) := by decide +kernel
theorem dX5_set_63 : decode cX5_set 63 = .ok (.iload_n 3, 1) := by decide +kernel
theorem dX5_set_64 : decode cX5_set 64 = .ok (.ireturn, 1) := by decide +kernel
theorem dX5_place_0 : decode cX5_place 0 = .ok (.iload_n 1, 1) := by decide +kernel
theorem dX5_place_1 : decode cX5_place 1 = .ok (.invokestatic 67, 3) := by decide +kernel
theorem dX5_place_4 : decode cX5_place 4 = .ok (.ifCond .ne 6, 3) := by decide +kernel
theorem dX5_place_7 : decode cX5_place 7 = .ok (.ldc 71, 2) := by decide +kernel
theorem dX5_place_9 : decode cX5_place 9 = .ok (.ireturn, 1) := by decide +kernel
theorem dX5_place_10 : decode cX5_place 10 = .ok (.iload_n 2, 1) := by decide +kernel
theorem dX5_place_11 : decode cX5_place 11 = .ok (.iconst 0, 1) := by decide +kernel
theorem dX5_place_12 : decode cX5_place 12 = .ok (.bipush 20, 2) := by decide +kernel
theorem dX5_place_14 : decode cX5_place 14 = .ok (.invokestatic 48, 3) := by decide +kernel
theorem dX5_place_17 : decode cX5_place 17 = .ok (.ifCond .eq 24, 3) := by decide +kernel
theorem dX5_place_20 : decode cX5_place 20 = .ok (.iload_n 3, 1) := by decide +kernel
theorem dX5_place_21 : decode cX5_place 21 = .ok (.iconst 0, 1) := by decide +kernel
theorem dX5_place_22 : decode cX5_place 22 = .ok (.bipush 20, 2) := by decide +kernel
theorem dX5_place_24 : decode cX5_place 24 = .ok (.invokestatic 48, 3) := by decide +kernel
theorem dX5_place_27 : decode cX5_place 27 = .ok (.ifCond .eq 14, 3) := by decide +kernel
theorem dX5_place_30 : decode cX5_place 30 = .ok (.iload 4, 2) := by decide +kernel
theorem dX5_place_32 : decode cX5_place 32 = .ok (.iconst 1, 1) := by decide +kernel
theorem dX5_place_33 : decode cX5_place 33 = .ok (.bipush 15, 2) := by decide +kernel
theorem dX5_place_35 : decode cX5_place 35 = .ok (.invokestatic 48, 3) := by decide +kernel
theorem dX5_place_38 : decode cX5_place 38 = .ok (.ifCond .ne 6, 3) := by decide +kernel
theorem dX5_place_41 : decode cX5_place 41 = .ok (.ldc 52, 2) := by decide +kernel
theorem dX5_place_43 : decode cX5_place 43 = .ok (.ireturn, 1) := by decide +kernel
theorem dX5_place_44 : decode cX5_place 44 = .ok (.aload_n 0, 1) := by decide +kernel
theorem dX5_place_45 : decode cX5_place 45 = .ok (.getfield 36, 3) := by decide +kernel
theorem dX5_place_48 : decode cX5_place 48 = .ok (.aload_n 0, 1) := by decide +kernel
theorem dX5_place_49 : decode cX5_place 49 = .ok (.getfield 10, 3) := by decide +kernel
theorem dX5_place_52 : decode cX5_place 52 = .ok (.invokevirtual 60, 3) := by decide +kernel
theorem dX5_place_55 : decode cX5_place 55 = .ok (.aload_n 0, 1) := by decide +kernel
theorem dX5_place_56 : decode cX5_place 56 = .ok (.getfield 10, 3) := by decide +kernel
theorem dX5_place_59 : decode cX5_place 59 = .ok (.getfield 72, 3) := by decide +kernel
theorem dX5_place_62 : decode cX5_place 62 = .ok (.iload_n 1, 1) := by decide +kernel
theorem dX5_place_63 : decode cX5_place 63 = .ok (.iaload, 1) := by decide +kernel
theorem dX5_place_64 : decode cX5_place 64 = .ok (.istore 5, 2) := by decide +kernel
theorem dX5_place_66 : decode cX5_place 66 = .ok (.aload_n 0, 1) := by decide +kernel
theorem dX5_place_67 : decode cX5_place 67 = .ok (.getfield 10, 3) := by decide +kernel
theorem dX5_place_70 : decode cX5_place 70 = .ok (.getfield 75, 3) := by decide +kernel
theorem dX5_place_73 : decode cX5_place 73 = .ok (.iload_n 1, 1) := by decide +kernel
theorem dX5_place_74 : decode cX5_place 74 = .ok (.iload_n 2, 1) := by decide +kernel
theorem dX5_place_75 : decode cX5_place 75 = .ok (.iastore, 1) := by decide +kernel
theorem dX5_place_76 : decode cX5_place 76 = .ok (.aload_n 0, 1) := by decide +kernel
theorem dX5_place_77 : decode cX5_place 77 = .ok (.getfield 10, 3) := by decide +kernel
theorem dX5_place_80 : decode cX5_place 80 = .ok (.getfield 78, 3) := by decide +kernel
theorem dX5_place_83 : decode cX5_place 83 = .ok (.iload_n 1, 1) := by decide +kernel
theorem dX5_place_84 : decode cX5_place 84 = .ok (.iload_n 3, 1) := by decide +kernel
theorem dX5_place_85 : decode cX5_place 85 = .ok (.iastore, 1) := by decide +kernel
theorem dX5_place_86 : decode cX5_place 86 = .ok (.aload_n 0, 1) := by decide +kernel
theorem dX5_place_87 : decode cX5_place 87 = .ok (.getfield 10, 3) := by decide +kernel
theorem dX5_place_90 : decode cX5_place 90 = .ok (.getfield 72, 3) := by decide +kernel
theorem dX5_place_93 : decode cX5_place 93 = .ok (.iload_n 1, 1) := by decide +kernel
theorem dX5_place_94 : decode cX5_place 94 = .ok (.iload 4, 2) := by decide +kernel
theorem dX5_place_96 : decode cX5_place 96 = .ok (.iastore, 1) := by decide +kernel
theorem dX5_place_97 : decode cX5_place 97 = .ok (.iload 5, 2) := by decide +kernel
theorem dX5_place_99 : decode cX5_place 99 = .ok (.ireturn, 1) := by decide +kernel
theorem dX5_close_0 : decode cX5_close 0 = .ok (.iload_n 1, 1) := by decide +kernel
theorem dX5_close_1 : decode cX5_close 1 = .ok (.invokestatic 67, 3) := by decide +kernel
theorem dX5_close_4 : decode cX5_close 4 = .ok (.ifCond .ne 6, 3) := by decide +kernel
theorem dX5_close_7 : decode cX5_close 7 = .ok (.ldc 71, 2) := by decide +kernel
theorem dX5_close_9 : decode cX5_close 9 = .ok (.ireturn, 1) := by decide +kernel
theorem dX5_close_10 : decode cX5_close 10 = .ok (.aload_n 0, 1) := by decide +kernel
theorem dX5_close_11 : decode cX5_close 11 = .ok (.getfield 10, 3) := by decide +kernel
theorem dX5_close_14 : decode cX5_close 14 = .ok (.iload_n 1, 1) := by decide +kernel
theorem dX5_close_15 : decode cX5_close 15 = .ok (.invokevirtual 81, 3) := by decide +kernel
theorem dX5_close_18 : decode cX5_close 18 = .ok (.iload_n 2, 1) := by decide +kernel
theorem dX5_close_19 : decode cX5_close 19 = .ok (.if_icmp .ne 6, 3) := by decide +kernel
theorem dX5_close_22 : decode cX5_close 22 = .ok (.ldc 84, 2) := by decide +kernel
theorem dX5_close_24 : decode cX5_close 24 = .ok (.ireturn, 1) := by decide +kernel
theorem dX5_close_25 : decode cX5_close 25 = .ok (.aload_n 0, 1) := by decide +kernel
theorem dX5_close_26 : decode cX5_close 26 = .ok (.getfield 36, 3) := by decide +kernel
theorem dX5_close_29 : decode cX5_close 29 = .ok (.aload_n 0, 1) := by decide +kernel
theorem dX5_close_30 : decode cX5_close 30 = .ok (.getfield 10, 3) := by decide +kernel
theorem dX5_close_33 : decode cX5_close 33 = .ok (.invokevirtual 60, 3) := by decide +kernel
theorem dX5_close_36 : decode cX5_close 36 = .ok (.aload_n 0, 1) := by decide +kernel
theorem dX5_close_37 : decode cX5_close 37 = .ok (.getfield 10, 3) := by decide +kernel
theorem dX5_close_40 : decode cX5_close 40 = .ok (.aload_n 0, 1) := by decide +kernel
theorem dX5_close_41 : decode cX5_close 41 = .ok (.getfield 10, 3) := by decide +kernel
theorem dX5_close_44 : decode cX5_close 44 = .ok (.getfield 85, 3) := by decide +kernel
theorem dX5_close_47 : decode cX5_close 47 = .ok (.iconst 1, 1) := by decide +kernel
theorem dX5_close_48 : decode cX5_close 48 = .ok (.iload_n 1, 1) := by decide +kernel
theorem dX5_close_49 : decode cX5_close 49 = .ok (.ishl, 1) := by decide +kernel
theorem dX5_close_50 : decode cX5_close 50 = .ok (.ixor, 1) := by decide +kernel
theorem dX5_close_51 : decode cX5_close 51 = .ok (.putfield 85, 3) := by decide +kernel
theorem dX5_close_54 : decode cX5_close 54 = .ok (.aload_n 0, 1) := by decide +kernel
theorem dX5_close_55 : decode cX5_close 55 = .ok (.getfield 10, 3) := by decide +kernel
theorem dX5_close_58 : decode cX5_close 58 = .ok (.invokevirtual 89, 3) := by decide +kernel
theorem dX5_close_61 : decode cX5_close 61 = .ok (.ireturn, 1) := by decide +kernel
theorem dX5_team_0 : decode cX5_team 0 = .ok (.iload_n 1, 1) := by decide +kernel
theorem dX5_team_1 : decode cX5_team 1 = .ok (.iconst 0, 1) := by decide +kernel
theorem dX5_team_2 : decode cX5_team 2 = .ok (.sipush 200, 3) := by decide +kernel
theorem dX5_team_5 : decode cX5_team 5 = .ok (.invokestatic 48, 3) := by decide +kernel
theorem dX5_team_8 : decode cX5_team 8 = .ok (.ifCond .ne 6, 3) := by decide +kernel
theorem dX5_team_11 : decode cX5_team 11 = .ok (.ldc 52, 2) := by decide +kernel
theorem dX5_team_13 : decode cX5_team 13 = .ok (.ireturn, 1) := by decide +kernel
theorem dX5_team_14 : decode cX5_team 14 = .ok (.aload_n 0, 1) := by decide +kernel
theorem dX5_team_15 : decode cX5_team 15 = .ok (.getfield 29, 3) := by decide +kernel
theorem dX5_team_18 : decode cX5_team 18 = .ok (.invokevirtual 93, 3) := by decide +kernel
theorem dX5_team_21 : decode cX5_team 21 = .ok (.ldc 96, 2) := by decide +kernel
theorem dX5_team_23 : decode cX5_team 23 = .ok (.if_icmp .eq 6, 3) := by decide +kernel
theorem dX5_team_26 : decode cX5_team 26 = .ok (.ldc 97, 2) := by decide +kernel
theorem dX5_team_28 : decode cX5_team 28 = .ok (.ireturn, 1) := by decide +kernel
theorem dX5_team_29 : decode cX5_team 29 = .ok (.aload_n 0, 1) := by decide +kernel
theorem dX5_team_30 : decode cX5_team 30 = .ok (.getfield 10, 3) := by decide +kernel
theorem dX5_team_33 : decode cX5_team 33 = .ok (.getfield 98, 3) := by decide +kernel
theorem dX5_team_36 : decode cX5_team 36 = .ok (.bipush 6, 2) := by decide +kernel
theorem dX5_team_38 : decode cX5_team 38 = .ok (.if_icmp .lt 6, 3) := by decide +kernel
theorem dX5_team_41 : decode cX5_team 41 = .ok (.ldc 101, 2) := by decide +kernel
theorem dX5_team_43 : decode cX5_team 43 = .ok (.ireturn, 1) := by decide +kernel
theorem dX5_team_44 : decode cX5_team 44 = .ok (.aload_n 0, 1) := by decide +kernel
theorem dX5_team_45 : decode cX5_team 45 = .ok (.getfield 36, 3) := by decide +kernel
theorem dX5_team_48 : decode cX5_team 48 = .ok (.aload_n 0, 1) := by decide +kernel
theorem dX5_team_49 : decode cX5_team 49 = .ok (.getfield 10, 3) := by decide +kernel
theorem dX5_team_52 : decode cX5_team 52 = .ok (.invokevirtual 60, 3) := by decide +kernel
theorem dX5_team_55 : decode cX5_team 55 = .ok (.aload_n 0, 1) := by decide +kernel
theorem dX5_team_56 : decode cX5_team 56 = .ok (.getfield 10, 3) := by decide +kernel
theorem dX5_team_59 : decode cX5_team 59 = .ok (.getfield 98, 3) := by decide +kernel
theorem dX5_team_62 : decode cX5_team 62 = .ok (.istore_n 2, 1) := by decide +kernel
theorem dX5_team_63 : decode cX5_team 63 = .ok (.aload_n 0, 1) := by decide +kernel
theorem dX5_team_64 : decode cX5_team 64 = .ok (.getfield 10, 3) := by decide +kernel
theorem dX5_team_67 : decode cX5_team 67 = .ok (.getfield 102, 3) := by decide +kernel
theorem dX5_team_70 : decode cX5_team 70 = .ok (.iload_n 2, 1) := by decide +kernel
theorem dX5_team_71 : decode cX5_team 71 = .ok (.aaload, 1) := by decide +kernel
theorem dX5_team_72 : decode cX5_team 72 = .ok (.astore_n 3, 1) := by decide +kernel
theorem dX5_team_73 : decode cX5_team 73 = .ok (.aload_n 0, 1) := by decide +kernel
theorem dX5_team_74 : decode cX5_team 74 = .ok (.getfield 29, 3) := by decide +kernel
theorem dX5_team_77 : decode cX5_team 77 = .ok (.aload_n 3, 1) := by decide +kernel
theorem dX5_team_78 : decode cX5_team 78 = .ok (.invokevirtual 106, 3) := by decide +kernel
theorem dX5_team_81 : decode cX5_team 81 = .ok (.aload_n 3, 1) := by decide +kernel
theorem dX5_team_82 : decode cX5_team 82 = .ok (.iload_n 1, 1) := by decide +kernel
theorem dX5_team_83 : decode cX5_team 83 = .ok (.putfield 110, 3) := by decide +kernel
theorem dX5_team_86 : decode cX5_team 86 = .ok (.aload_n 3, 1) := by decide +kernel
theorem dX5_team_87 : decode cX5_team 87 = .ok (.iconst 0, 1) := by decide +kernel
theorem dX5_team_88 : decode cX5_team 88 = .ok (.putfield 115, 3) := by decide +kernel
theorem dX5_team_91 : decode cX5_team 91 = .ok (.aload_n 3, 1) := by decide +kernel
theorem dX5_team_92 : decode cX5_team 92 = .ok (.iconst (-1), 1) := by decide +kernel
theorem dX5_team_93 : decode cX5_team 93 = .ok (.putfield 118, 3) := by decide +kernel
theorem dX5_team_96 : decode cX5_team 96 = .ok (.aload_n 0, 1) := by decide +kernel
theorem dX5_team_97 : decode cX5_team 97 = .ok (.getfield 10, 3) := by decide +kernel
theorem dX5_team_100 : decode cX5_team 100 = .ok (.iload_n 2, 1) := by decide +kernel
theorem dX5_team_101 : decode cX5_team 101 = .ok (.iconst 1, 1) := by decide +kernel
theorem dX5_team_102 : decode cX5_team 102 = .ok (.iadd, 1) := by decide +kernel
theorem dX5_team_103 : decode cX5_team 103 = .ok (.putfield 98, 3) := by decide +kernel
theorem dX5_team_106 : decode cX5_team 106 = .ok (.iload_n 2, 1) := by decide +kernel
theorem dX5_team_107 : decode cX5_team 107 = .ok (.ireturn, 1) := by decide +kernel
theorem dX5_route_0 : decode cX5_route 0 = .ok (.aload_n 0, 1) := by decide +kernel
theorem dX5_route_1 : decode cX5_route 1 = .ok (.iload_n 1, 1) := by decide +kernel
theorem dX5_route_2 : decode cX5_route 2 = .ok (.invokevirtual 121, 3) := by decide +kernel
theorem dX5_route_5 : decode cX5_route 5 = .ok (.ifCond .ne 6, 3) := by decide +kernel
theorem dX5_route_8 : decode cX5_route 8 = .ok (.ldc 71, 2) := by decide +kernel
theorem dX5_route_10 : decode cX5_route 10 = .ok (.ireturn, 1) := by decide +kernel
theorem dX5_route_11 : decode cX5_route 11 = .ok (.aload_n 0, 1) := by decide +kernel
theorem dX5_route_12 : decode cX5_route 12 = .ok (.getfield 29, 3) := by decide +kernel
theorem dX5_route_15 : decode cX5_route 15 = .ok (.invokevirtual 93, 3) := by decide +kernel
theorem dX5_route_18 : decode cX5_route 18 = .ok (.ldc 96, 2) := by decide +kernel
theorem dX5_route_20 : decode cX5_route 20 = .ok (.if_icmp .eq 6, 3) := by decide +kernel
theorem dX5_route_23 : decode cX5_route 23 = .ok (.ldc 97, 2) := by decide +kernel
theorem dX5_route_25 : decode cX5_route 25 = .ok (.ireturn, 1) := by decide +kernel
theorem dX5_route_26 : decode cX5_route 26 = .ok (.aload_n 0, 1) := by decide +kernel
theorem dX5_route_27 : decode cX5_route 27 = .ok (.getfield 36, 3) := by decide +kernel
theorem dX5_route_30 : decode cX5_route 30 = .ok (.aload_n 0, 1) := by decide +kernel
theorem dX5_route_31 : decode cX5_route 31 = .ok (.getfield 10, 3) := by decide +kernel
theorem dX5_route_34 : decode cX5_route 34 = .ok (.invokevirtual 60, 3) := by decide +kernel
theorem dX5_route_37 : decode cX5_route 37 = .ok (.aload_n 0, 1) := by decide +kernel
theorem dX5_route_38 : decode cX5_route 38 = .ok (.getfield 29, 3) := by decide +kernel
theorem dX5_route_41 : decode cX5_route 41 = .ok (.aload_n 0, 1) := by decide +kernel
theorem dX5_route_42 : decode cX5_route 42 = .ok (.getfield 10, 3) := by decide +kernel
theorem dX5_route_45 : decode cX5_route 45 = .ok (.getfield 102, 3) := by decide +kernel
theorem dX5_route_48 : decode cX5_route 48 = .ok (.iload_n 1, 1) := by decide +kernel
theorem dX5_route_49 : decode cX5_route 49 = .ok (.aaload, 1) := by decide +kernel
theorem dX5_route_50 : decode cX5_route 50 = .ok (.invokevirtual 106, 3) := by decide +kernel
theorem dX5_route_53 : decode cX5_route 53 = .ok (.aload_n 0, 1) := by decide +kernel
theorem dX5_route_54 : decode cX5_route 54 = .ok (.getfield 10, 3) := by decide +kernel
theorem dX5_route_57 : decode cX5_route 57 = .ok (.iload_n 1, 1) := by decide +kernel
theorem dX5_route_58 : decode cX5_route 58 = .ok (.invokevirtual 124, 3) := by decide +kernel
theorem dX5_route_61 : decode cX5_route 61 = .ok (.ireturn, 1) := by decide +kernel
theorem dX5_leave_0 : decode cX5_leave 0 = .ok (.aload_n 0, 1) := by decide +kernel
theorem dX5_leave_1 : decode cX5_leave 1 = .ok (.iload_n 1, 1) := by decide +kernel
theorem dX5_leave_2 : decode cX5_leave 2 = .ok (.invokevirtual 121, 3) := by decide +kernel
theorem dX5_leave_5 : decode cX5_leave 5 = .ok (.ifCond .ne 6, 3) := by decide +kernel
theorem dX5_leave_8 : decode cX5_leave 8 = .ok (.ldc 71, 2) := by decide +kernel
theorem dX5_leave_10 : decode cX5_leave 10 = .ok (.ireturn, 1) := by decide +kernel
theorem dX5_leave_11 : decode cX5_leave 11 = .ok (.aload_n 0, 1) := by decide +kernel
theorem dX5_leave_12 : decode cX5_leave 12 = .ok (.getfield 36, 3) := by decide +kernel
theorem dX5_leave_15 : decode cX5_leave 15 = .ok (.aload_n 0, 1) := by decide +kernel
theorem dX5_leave_16 : decode cX5_leave 16 = .ok (.getfield 10, 3) := by decide +kernel
theorem dX5_leave_19 : decode cX5_leave 19 = .ok (.invokevirtual 60, 3) := by decide +kernel
theorem dX5_leave_22 : decode cX5_leave 22 = .ok (.aload_n 0, 1) := by decide +kernel
theorem dX5_leave_23 : decode cX5_leave 23 = .ok (.getfield 10, 3) := by decide +kernel
theorem dX5_leave_26 : decode cX5_leave 26 = .ok (.aload_n 0, 1) := by decide +kernel
theorem dX5_leave_27 : decode cX5_leave 27 = .ok (.getfield 10, 3) := by decide +kernel
theorem dX5_leave_30 : decode cX5_leave 30 = .ok (.getfield 98, 3) := by decide +kernel
theorem dX5_leave_33 : decode cX5_leave 33 = .ok (.iconst 1, 1) := by decide +kernel
theorem dX5_leave_34 : decode cX5_leave 34 = .ok (.isub, 1) := by decide +kernel
theorem dX5_leave_35 : decode cX5_leave 35 = .ok (.putfield 98, 3) := by decide +kernel
theorem dX5_leave_38 : decode cX5_leave 38 = .ok (.iload_n 1, 1) := by decide +kernel
theorem dX5_leave_39 : decode cX5_leave 39 = .ok (.istore_n 2, 1) := by decide +kernel
theorem dX5_leave_40 : decode cX5_leave 40 = .ok (.iload_n 2, 1) := by decide +kernel
theorem dX5_leave_41 : decode cX5_leave 41 = .ok (.aload_n 0, 1) := by decide +kernel
theorem dX5_leave_42 : decode cX5_leave 42 = .ok (.getfield 10, 3) := by decide +kernel
theorem dX5_leave_45 : decode cX5_leave 45 = .ok (.getfield 98, 3) := by decide +kernel
theorem dX5_leave_48 : decode cX5_leave 48 = .ok (.if_icmp .ge 32, 3) := by decide +kernel
theorem dX5_leave_51 : decode cX5_leave 51 = .ok (.aload_n 0, 1) := by decide +kernel
theorem dX5_leave_52 : decode cX5_leave 52 = .ok (.getfield 10, 3) := by decide +kernel
theorem dX5_leave_55 : decode cX5_leave 55 = .ok (.getfield 102, 3) := by decide +kernel
theorem dX5_leave_58 : decode cX5_leave 58 = .ok (.iload_n 2, 1) := by decide +kernel
theorem dX5_leave_59 : decode cX5_leave 59 = .ok (.aaload, 1) := by decide +kernel
theorem dX5_leave_60 : decode cX5_leave 60 = .ok (.aload_n 0, 1) := by decide +kernel
theorem dX5_leave_61 : decode cX5_leave 61 = .ok (.getfield 10, 3) := by decide +kernel
theorem dX5_leave_64 : decode cX5_leave 64 = .ok (.getfield 102, 3) := by decide +kernel
theorem dX5_leave_67 : decode cX5_leave 67 = .ok (.iload_n 2, 1) := by decide +kernel
theorem dX5_leave_68 : decode cX5_leave 68 = .ok (.iconst 1, 1) := by decide +kernel
theorem dX5_leave_69 : decode cX5_leave 69 = .ok (.iadd, 1) := by decide +kernel
theorem dX5_leave_70 : decode cX5_leave 70 = .ok (.aaload, 1) := by decide +kernel
theorem dX5_leave_71 : decode cX5_leave 71 = .ok (.invokevirtual 128, 3) := by decide +kernel
theorem dX5_leave_74 : decode cX5_leave 74 = .ok (.iinc 2 1, 3) := by decide +kernel
theorem dX5_leave_77 : decode cX5_leave 77 = .ok (.goto (-37), 3) := by decide +kernel
theorem dX5_leave_80 : decode cX5_leave 80 = .ok (.aload_n 0, 1) := by decide +kernel
theorem dX5_leave_81 : decode cX5_leave 81 = .ok (.getfield 10, 3) := by decide +kernel
theorem dX5_leave_84 : decode cX5_leave 84 = .ok (.getfield 98, 3) := by decide +kernel
theorem dX5_leave_87 : decode cX5_leave 87 = .ok (.ireturn, 1) := by decide +kernel
theorem dX5_start_0 : decode cX5_start 0 = .ok (.aload_n 0, 1) := by decide +kernel
theorem dX5_start_1 : decode cX5_start 1 = .ok (.iload_n 1, 1) := by decide +kernel
theorem dX5_start_2 : decode cX5_start 2 = .ok (.invokevirtual 121, 3) := by decide +kernel
theorem dX5_start_5 : decode cX5_start 5 = .ok (.ifCond .ne 6, 3) := by decide +kernel
theorem dX5_start_8 : decode cX5_start 8 = .ok (.ldc 71, 2) := by decide +kernel
theorem dX5_start_10 : decode cX5_start 10 = .ok (.ireturn, 1) := by decide +kernel
theorem dX5_start_11 : decode cX5_start 11 = .ok (.iload_n 2, 1) := by decide +kernel
theorem dX5_start_12 : decode cX5_start 12 = .ok (.iconst 0, 1) := by decide +kernel
theorem dX5_start_13 : decode cX5_start 13 = .ok (.sipush 200, 3) := by decide +kernel
theorem dX5_start_16 : decode cX5_start 16 = .ok (.invokestatic 48, 3) := by decide +kernel
theorem dX5_start_19 : decode cX5_start 19 = .ok (.ifCond .ne 6, 3) := by decide +kernel
theorem dX5_start_22 : decode cX5_start 22 = .ok (.ldc 52, 2) := by decide +kernel
theorem dX5_start_24 : decode cX5_start 24 = .ok (.ireturn, 1) := by decide +kernel
theorem dX5_start_25 : decode cX5_start 25 = .ok (.aload_n 0, 1) := by decide +kernel
theorem dX5_start_26 : decode cX5_start 26 = .ok (.getfield 36, 3) := by decide +kernel
theorem dX5_start_29 : decode cX5_start 29 = .ok (.aload_n 0, 1) := by decide +kernel
theorem dX5_start_30 : decode cX5_start 30 = .ok (.getfield 10, 3) := by decide +kernel
theorem dX5_start_33 : decode cX5_start 33 = .ok (.invokevirtual 60, 3) := by decide +kernel
theorem dX5_start_36 : decode cX5_start 36 = .ok (.aload_n 0, 1) := by decide +kernel
theorem dX5_start_37 : decode cX5_start 37 = .ok (.getfield 10, 3) := by decide +kernel
theorem dX5_start_40 : decode cX5_start 40 = .ok (.getfield 102, 3) := by decide +kernel
theorem dX5_start_43 : decode cX5_start 43 = .ok (.iload_n 1, 1) := by decide +kernel
theorem dX5_start_44 : decode cX5_start 44 = .ok (.aaload, 1) := by decide +kernel
theorem dX5_start_45 : decode cX5_start 45 = .ok (.getfield 110, 3) := by decide +kernel
theorem dX5_start_48 : decode cX5_start 48 = .ok (.istore_n 3, 1) := by decide +kernel
theorem dX5_start_49 : decode cX5_start 49 = .ok (.aload_n 0, 1) := by decide +kernel
theorem dX5_start_50 : decode cX5_start 50 = .ok (.getfield 10, 3) := by decide +kernel
theorem dX5_start_53 : decode cX5_start 53 = .ok (.getfield 102, 3) := by decide +kernel
theorem dX5_start_56 : decode cX5_start 56 = .ok (.iload_n 1, 1) := by decide +kernel
theorem dX5_start_57 : decode cX5_start 57 = .ok (.aaload, 1) := by decide +kernel
theorem dX5_start_58 : decode cX5_start 58 = .ok (.iload_n 2, 1) := by decide +kernel
theorem dX5_start_59 : decode cX5_start 59 = .ok (.putfield 110, 3) := by decide +kernel
theorem dX5_start_62 : decode cX5_start 62 = .ok (.iload_n 3, 1) := by decide +kernel
theorem dX5_start_63 : decode cX5_start 63 = .ok (.ireturn, 1) := by decide +kernel
theorem dX5_hint_0 : decode cX5_hint 0 = .ok (.aload_n 0, 1) := by decide +kernel
theorem dX5_hint_1 : decode cX5_hint 1 = .ok (.iload_n 1, 1) := by decide +kernel
theorem dX5_hint_2 : decode cX5_hint 2 = .ok (.invokevirtual 121, 3) := by decide +kernel
theorem dX5_hint_5 : decode cX5_hint 5 = .ok (.ifCond .eq 10, 3) := by decide +kernel
theorem dX5_hint_8 : decode cX5_hint 8 = .ok (.iload_n 2, 1) := by decide +kernel
theorem dX5_hint_9 : decode cX5_hint 9 = .ok (.invokestatic 67, 3) := by decide +kernel
theorem dX5_hint_12 : decode cX5_hint 12 = .ok (.ifCond .ne 6, 3) := by decide +kernel
theorem dX5_hint_15 : decode cX5_hint 15 = .ok (.ldc 71, 2) := by decide +kernel
theorem dX5_hint_17 : decode cX5_hint 17 = .ok (.ireturn, 1) := by decide +kernel
theorem dX5_hint_18 : decode cX5_hint 18 = .ok (.aload_n 0, 1) := by decide +kernel
theorem dX5_hint_19 : decode cX5_hint 19 = .ok (.getfield 10, 3) := by decide +kernel
theorem dX5_hint_22 : decode cX5_hint 22 = .ok (.getfield 102, 3) := by decide +kernel
theorem dX5_hint_25 : decode cX5_hint 25 = .ok (.iload_n 1, 1) := by decide +kernel
theorem dX5_hint_26 : decode cX5_hint 26 = .ok (.aaload, 1) := by decide +kernel
theorem dX5_hint_27 : decode cX5_hint 27 = .ok (.iload_n 2, 1) := by decide +kernel
theorem dX5_hint_28 : decode cX5_hint 28 = .ok (.invokevirtual 131, 3) := by decide +kernel
theorem dX5_hint_31 : decode cX5_hint 31 = .ok (.iload_n 3, 1) := by decide +kernel
theorem dX5_hint_32 : decode cX5_hint 32 = .ok (.if_icmp .ne 6, 3) := by decide +kernel
theorem dX5_hint_35 : decode cX5_hint 35 = .ok (.ldc 84, 2) := by decide +kernel
theorem dX5_hint_37 : decode cX5_hint 37 = .ok (.ireturn, 1) := by decide +kernel
theorem dX5_hint_38 : decode cX5_hint 38 = .ok (.aload_n 0, 1) := by decide +kernel
theorem dX5_hint_39 : decode cX5_hint 39 = .ok (.getfield 36, 3) := by decide +kernel
theorem dX5_hint_42 : decode cX5_hint 42 = .ok (.aload_n 0, 1) := by decide +kernel
theorem dX5_hint_43 : decode cX5_hint 43 = .ok (.getfield 10, 3) := by decide +kernel
theorem dX5_hint_46 : decode cX5_hint 46 = .ok (.invokevirtual 60, 3) := by decide +kernel
theorem dX5_hint_49 : decode cX5_hint 49 = .ok (.aload_n 0, 1) := by decide +kernel
theorem dX5_hint_50 : decode cX5_hint 50 = .ok (.getfield 10, 3) := by decide +kernel
theorem dX5_hint_53 : decode cX5_hint 53 = .ok (.getfield 102, 3) := by decide +kernel
theorem dX5_hint_56 : decode cX5_hint 56 = .ok (.iload_n 1, 1) := by decide +kernel
theorem dX5_hint_57 : decode cX5_hint 57 = .ok (.aaload, 1) := by decide +kernel
theorem dX5_hint_58 : decode cX5_hint 58 = .ok (.aload_n 0, 1) := by decide +kernel
theorem dX5_hint_59 : decode cX5_hint 59 = .ok (.getfield 10, 3) := by decide +kernel
theorem dX5_hint_62 : decode cX5_hint 62 = .ok (.getfield 102, 3) := by decide +kernel
theorem dX5_hint_65 : decode cX5_hint 65 = .ok (.iload_n 1, 1) := by decide +kernel
theorem dX5_hint_66 : decode cX5_hint 66 = .ok (.aaload, 1) := by decide +kernel
theorem dX5_hint_67 : decode cX5_hint 67 = .ok (.getfield 115, 3) := by decide +kernel
theorem dX5_hint_70 : decode cX5_hint 70 = .ok (.iconst 1, 1) := by decide +kernel
theorem dX5_hint_71 : decode cX5_hint 71 = .ok (.iload_n 2, 1) := by decide +kernel
theorem dX5_hint_72 : decode cX5_hint 72 = .ok (.ishl, 1) := by decide +kernel
theorem dX5_hint_73 : decode cX5_hint 73 = .ok (.ixor, 1) := by decide +kernel
theorem dX5_hint_74 : decode cX5_hint 74 = .ok (.putfield 115, 3) := by decide +kernel
theorem dX5_hint_77 : decode cX5_hint 77 = .ok (.aload_n 0, 1) := by decide +kernel
theorem dX5_hint_78 : decode cX5_hint 78 = .ok (.iload_n 1, 1) := by decide +kernel
theorem dX5_hint_79 : decode cX5_hint 79 = .ok (.invokevirtual 134, 3) := by decide +kernel
theorem dX5_hint_82 : decode cX5_hint 82 = .ok (.ireturn, 1) := by decide +kernel
theorem dX5_lose_0 : decode cX5_lose 0 = .ok (.aload_n 0, 1) := by decide +kernel
theorem dX5_lose_1 : decode cX5_lose 1 = .ok (.iload_n 1, 1) := by decide +kernel
theorem dX5_lose_2 : decode cX5_lose 2 = .ok (.invokevirtual 121, 3) := by decide +kernel
theorem dX5_lose_5 : decode cX5_lose 5 = .ok (.ifCond .eq 15, 3) := by decide +kernel
theorem dX5_lose_8 : decode cX5_lose 8 = .ok (.iload_n 2, 1) := by decide +kernel
theorem dX5_lose_9 : decode cX5_lose 9 = .ok (.iconst (-1), 1) := by decide +kernel
theorem dX5_lose_10 : decode cX5_lose 10 = .ok (.if_icmp .eq 13, 3) := by decide +kernel
theorem dX5_lose_13 : decode cX5_lose 13 = .ok (.iload_n 2, 1) := by decide +kernel
theorem dX5_lose_14 : decode cX5_lose 14 = .ok (.invokestatic 67, 3) := by decide +kernel
theorem dX5_lose_17 : decode cX5_lose 17 = .ok (.ifCond .ne 6, 3) := by decide +kernel
theorem dX5_lose_20 : decode cX5_lose 20 = .ok (.ldc 71, 2) := by decide +kernel
theorem dX5_lose_22 : decode cX5_lose 22 = .ok (.ireturn, 1) := by decide +kernel
theorem dX5_lose_23 : decode cX5_lose 23 = .ok (.aload_n 0, 1) := by decide +kernel
theorem dX5_lose_24 : decode cX5_lose 24 = .ok (.getfield 36, 3) := by decide +kernel
theorem dX5_lose_27 : decode cX5_lose 27 = .ok (.aload_n 0, 1) := by decide +kernel
theorem dX5_lose_28 : decode cX5_lose 28 = .ok (.getfield 10, 3) := by decide +kernel
theorem dX5_lose_31 : decode cX5_lose 31 = .ok (.invokevirtual 60, 3) := by decide +kernel
theorem dX5_lose_34 : decode cX5_lose 34 = .ok (.aload_n 0, 1) := by decide +kernel
theorem dX5_lose_35 : decode cX5_lose 35 = .ok (.getfield 10, 3) := by decide +kernel
theorem dX5_lose_38 : decode cX5_lose 38 = .ok (.getfield 102, 3) := by decide +kernel
theorem dX5_lose_41 : decode cX5_lose 41 = .ok (.iload_n 1, 1) := by decide +kernel
theorem dX5_lose_42 : decode cX5_lose 42 = .ok (.aaload, 1) := by decide +kernel
theorem dX5_lose_43 : decode cX5_lose 43 = .ok (.iload_n 2, 1) := by decide +kernel
theorem dX5_lose_44 : decode cX5_lose 44 = .ok (.putfield 118, 3) := by decide +kernel
theorem dX5_lose_47 : decode cX5_lose 47 = .ok (.aload_n 0, 1) := by decide +kernel
theorem dX5_lose_48 : decode cX5_lose 48 = .ok (.iload_n 1, 1) := by decide +kernel
theorem dX5_lose_49 : decode cX5_lose 49 = .ok (.invokevirtual 134, 3) := by decide +kernel
theorem dX5_lose_52 : decode cX5_lose 52 = .ok (.ireturn, 1) := by decide +kernel
theorem dX5_exchange_0 : decode cX5_exchange 0 = .ok (.aload_n 0, 1) := by decide +kernel
theorem dX5_exchange_1 : decode cX5_exchange 1 = .ok (.iload_n 1, 1) := by decide +kernel
theorem dX5_exchange_2 : decode cX5_exchange 2 = .ok (.invokevirtual 121, 3) := by decide +kernel
theorem dX5_exchange_5 : decode cX5_exchange 5 = .ok (.ifCond .eq 21, 3) := by decide +kernel
theorem dX5_exchange_8 : decode cX5_exchange 8 = .ok (.aload_n 0, 1) := by decide +kernel
theorem dX5_exchange_9 : decode cX5_exchange 9 = .ok (.iload_n 1, 1) := by decide +kernel
theorem dX5_exchange_10 : decode cX5_exchange 10 = .ok (.iload_n 2, 1) := by decide +kernel
theorem dX5_exchange_11 : decode cX5_exchange 11 = .ok (.invokevirtual 147, 3) := by decide +kernel
theorem dX5_exchange_14 : decode cX5_exchange 14 = .ok (.ifCond .eq 12, 3) := by decide +kernel
theorem dX5_exchange_17 : decode cX5_exchange 17 = .ok (.aload_n 0, 1) := by decide +kernel
theorem dX5_exchange_18 : decode cX5_exchange 18 = .ok (.iload_n 1, 1) := by decide +kernel
theorem dX5_exchange_19 : decode cX5_exchange 19 = .ok (.iload_n 3, 1) := by decide +kernel
theorem dX5_exchange_20 : decode cX5_exchange 20 = .ok (.invokevirtual 147, 3) := by decide +kernel
theorem dX5_exchange_23 : decode cX5_exchange 23 = .ok (.ifCond .ne 6, 3) := by decide +kernel
theorem dX5_exchange_26 : decode cX5_exchange 26 = .ok (.ldc 71, 2) := by decide +kernel
theorem dX5_exchange_28 : decode cX5_exchange 28 = .ok (.ireturn, 1) := by decide +kernel
theorem dX5_exchange_29 : decode cX5_exchange 29 = .ok (.iload_n 2, 1) := by decide +kernel
theorem dX5_exchange_30 : decode cX5_exchange 30 = .ok (.iload_n 3, 1) := by decide +kernel
theorem dX5_exchange_31 : decode cX5_exchange 31 = .ok (.if_icmp .ne 6, 3) := by decide +kernel
theorem dX5_exchange_34 : decode cX5_exchange 34 = .ok (.ldc 52, 2) := by decide +kernel
theorem dX5_exchange_36 : decode cX5_exchange 36 = .ok (.ireturn, 1) := by decide +kernel
theorem dX5_exchange_37 : decode cX5_exchange 37 = .ok (.aload_n 0, 1) := by decide +kernel
theorem dX5_exchange_38 : decode cX5_exchange 38 = .ok (.getfield 36, 3) := by decide +kernel
theorem dX5_exchange_41 : decode cX5_exchange 41 = .ok (.aload_n 0, 1) := by decide +kernel
theorem dX5_exchange_42 : decode cX5_exchange 42 = .ok (.getfield 10, 3) := by decide +kernel
theorem dX5_exchange_45 : decode cX5_exchange 45 = .ok (.invokevirtual 60, 3) := by decide +kernel
theorem dX5_exchange_48 : decode cX5_exchange 48 = .ok (.aload_n 0, 1) := by decide +kernel
theorem dX5_exchange_49 : decode cX5_exchange 49 = .ok (.getfield 10, 3) := by decide +kernel
theorem dX5_exchange_52 : decode cX5_exchange 52 = .ok (.getfield 102, 3) := by decide +kernel
theorem dX5_exchange_55 : decode cX5_exchange 55 = .ok (.iload_n 1, 1) := by decide +kernel
theorem dX5_exchange_56 : decode cX5_exchange 56 = .ok (.aaload, 1) := by decide +kernel
theorem dX5_exchange_57 : decode cX5_exchange 57 = .ok (.iload_n 2, 1) := by decide +kernel
theorem dX5_exchange_58 : decode cX5_exchange 58 = .ok (.iload_n 3, 1) := by decide +kernel
theorem dX5_exchange_59 : decode cX5_exchange 59 = .ok (.invokevirtual 151, 3) := by decide +kernel
theorem dX5_exchange_62 : decode cX5_exchange 62 = .ok (.aload_n 0, 1) := by decide +kernel
theorem dX5_exchange_63 : decode cX5_exchange 63 = .ok (.iload_n 1, 1) := by decide +kernel
theorem dX5_exchange_64 : decode cX5_exchange 64 = .ok (.invokevirtual 134, 3) := by decide +kernel
theorem dX5_exchange_67 : decode cX5_exchange 67 = .ok (.ireturn, 1) := by decide +kernel
theorem dX5_visit_0 : decode cX5_visit 0 = .ok (.aload_n 0, 1) := by decide +kernel
theorem dX5_visit_1 : decode cX5_visit 1 = .ok (.iload_n 1, 1) := by decide +kernel
theorem dX5_visit_2 : decode cX5_visit 2 = .ok (.invokevirtual 121, 3) := by decide +kernel
theorem dX5_visit_5 : decode cX5_visit 5 = .ok (.ifCond .ne 6, 3) := by decide +kernel
theorem dX5_visit_8 : decode cX5_visit 8 = .ok (.ldc 71, 2) := by decide +kernel
theorem dX5_visit_10 : decode cX5_visit 10 = .ok (.ireturn, 1) := by decide +kernel
theorem dX5_visit_11 : decode cX5_visit 11 = .ok (.iload_n 3, 1) := by decide +kernel
theorem dX5_visit_12 : decode cX5_visit 12 = .ok (.iconst 0, 1) := by decide +kernel
theorem dX5_visit_13 : decode cX5_visit 13 = .ok (.iconst 4, 1) := by decide +kernel
theorem dX5_visit_14 : decode cX5_visit 14 = .ok (.invokestatic 48, 3) := by decide +kernel
theorem dX5_visit_17 : decode cX5_visit 17 = .ok (.ifCond .ne 6, 3) := by decide +kernel
theorem dX5_visit_20 : decode cX5_visit 20 = .ok (.ldc 52, 2) := by decide +kernel
theorem dX5_visit_22 : decode cX5_visit 22 = .ok (.ireturn, 1) := by decide +kernel
theorem dX5_visit_23 : decode cX5_visit 23 = .ok (.aload_n 0, 1) := by decide +kernel
theorem dX5_visit_24 : decode cX5_visit 24 = .ok (.invokevirtual 159, 3) := by decide +kernel
theorem dX5_visit_27 : decode cX5_visit 27 = .ok (.iload_n 2, 1) := by decide +kernel
theorem dX5_visit_28 : decode cX5_visit 28 = .ok (.iconst 0, 1) := by decide +kernel
theorem dX5_visit_29 : decode cX5_visit 29 = .ok (.aload_n 0, 1) := by decide +kernel
theorem dX5_visit_30 : decode cX5_visit 30 = .ok (.getfield 22, 3) := by decide +kernel
theorem dX5_visit_33 : decode cX5_visit 33 = .ok (.getfield 165, 3) := by decide +kernel
theorem dX5_visit_36 : decode cX5_visit 36 = .ok (.iload_n 1, 1) := by decide +kernel
theorem dX5_visit_37 : decode cX5_visit 37 = .ok (.iaload, 1) := by decide +kernel
theorem dX5_visit_38 : decode cX5_visit 38 = .ok (.iconst 1, 1) := by decide +kernel
theorem dX5_visit_39 : decode cX5_visit 39 = .ok (.isub, 1) := by decide +kernel
theorem dX5_visit_40 : decode cX5_visit 40 = .ok (.invokestatic 48, 3) := by decide +kernel
theorem dX5_visit_43 : decode cX5_visit 43 = .ok (.ifCond .ne 6, 3) := by decide +kernel
theorem dX5_visit_46 : decode cX5_visit 46 = .ok (.ldc 96, 2) := by decide +kernel
theorem dX5_visit_48 : decode cX5_visit 48 = .ok (.ireturn, 1) := by decide +kernel
theorem dX5_visit_49 : decode cX5_visit 49 = .ok (.iload_n 3, 1) := by decide +kernel
theorem dX5_visit_50 : decode cX5_visit 50 = .ok (.tableswitch 78 0 3 #[30, 42, 54, 66], 30) := by decide +kernel
theorem dX5_visit_80 : decode cX5_visit 80 = .ok (.aload_n 0, 1) := by decide +kernel
theorem dX5_visit_81 : decode cX5_visit 81 = .ok (.getfield 22, 3) := by decide +kernel
theorem dX5_visit_84 : decode cX5_visit 84 = .ok (.getfield 168, 3) := by decide +kernel
theorem dX5_visit_87 : decode cX5_visit 87 = .ok (.iload_n 1, 1) := by decide +kernel
theorem dX5_visit_88 : decode cX5_visit 88 = .ok (.aaload, 1) := by decide +kernel
theorem dX5_visit_89 : decode cX5_visit 89 = .ok (.iload_n 2, 1) := by decide +kernel
theorem dX5_visit_90 : decode cX5_visit 90 = .ok (.iaload, 1) := by decide +kernel
theorem dX5_visit_91 : decode cX5_visit 91 = .ok (.ireturn, 1) := by decide +kernel
theorem dX5_visit_92 : decode cX5_visit 92 = .ok (.aload_n 0, 1) := by decide +kernel
theorem dX5_visit_93 : decode cX5_visit 93 = .ok (.getfield 22, 3) := by decide +kernel
theorem dX5_visit_96 : decode cX5_visit 96 = .ok (.getfield 172, 3) := by decide +kernel
theorem dX5_visit_99 : decode cX5_visit 99 = .ok (.iload_n 1, 1) := by decide +kernel
theorem dX5_visit_100 : decode cX5_visit 100 = .ok (.aaload, 1) := by decide +kernel
theorem dX5_visit_101 : decode cX5_visit 101 = .ok (.iload_n 2, 1) := by decide +kernel
theorem dX5_visit_102 : decode cX5_visit 102 = .ok (.iaload, 1) := by decide +kernel
theorem dX5_visit_103 : decode cX5_visit 103 = .ok (.ireturn, 1) := by decide +kernel
theorem dX5_visit_104 : decode cX5_visit 104 = .ok (.aload_n 0, 1) := by decide +kernel
theorem dX5_visit_105 : decode cX5_visit 105 = .ok (.getfield 22, 3) := by decide +kernel
theorem dX5_visit_108 : decode cX5_visit 108 = .ok (.getfield 175, 3) := by decide +kernel
theorem dX5_visit_111 : decode cX5_visit 111 = .ok (.iload_n 1, 1) := by decide +kernel
theorem dX5_visit_112 : decode cX5_visit 112 = .ok (.aaload, 1) := by decide +kernel
theorem dX5_visit_113 : decode cX5_visit 113 = .ok (.iload_n 2, 1) := by decide +kernel
theorem dX5_visit_114 : decode cX5_visit 114 = .ok (.iaload, 1) := by decide +kernel
theorem dX5_visit_115 : decode cX5_visit 115 = .ok (.ireturn, 1) := by decide +kernel
theorem dX5_visit_116 : decode cX5_visit 116 = .ok (.aload_n 0, 1) := by decide +kernel
theorem dX5_visit_117 : decode cX5_visit 117 = .ok (.getfield 22, 3) := by decide +kernel
theorem dX5_visit_120 : decode cX5_visit 120 = .ok (.getfield 178, 3) := by decide +kernel
theorem dX5_visit_123 : decode cX5_visit 123 = .ok (.iload_n 1, 1) := by decide +kernel
theorem dX5_visit_124 : decode cX5_visit 124 = .ok (.aaload, 1) := by decide +kernel
theorem dX5_visit_125 : decode cX5_visit 125 = .ok (.iload_n 2, 1) := by decide +kernel
theorem dX5_visit_126 : decode cX5_visit 126 = .ok (.iaload, 1) := by decide +kernel
theorem dX5_visit_127 : decode cX5_visit 127 = .ok (.ireturn, 1) := by decide +kernel
theorem dX5_visit_128 : decode cX5_visit 128 = .ok (.aload_n 0, 1) := by decide +kernel
theorem dX5_visit_129 : decode cX5_visit 129 = .ok (.getfield 22, 3) := by decide +kernel
theorem dX5_visit_132 : decode cX5_visit 132 = .ok (.getfield 181, 3) := by decide +kernel
theorem dX5_visit_135 : decode cX5_visit 135 = .ok (.iload_n 1, 1) := by decide +kernel
theorem dX5_visit_136 : decode cX5_visit 136 = .ok (.aaload, 1) := by decide +kernel
theorem dX5_visit_137 : decode cX5_visit 137 = .ok (.iload_n 2, 1) := by decide +kernel
theorem dX5_visit_138 : decode cX5_visit 138 = .ok (.iaload, 1) := by decide +kernel
theorem dX5_visit_139 : decode cX5_visit 139 = .ok (.ireturn, 1) := by decide +kernel
theorem dX5_teamOf_0 : decode cX5_teamOf 0 = .ok (.aload_n 0, 1) := by decide +kernel
theorem dX5_teamOf_1 : decode cX5_teamOf 1 = .ok (.iload_n 1, 1) := by decide +kernel
theorem dX5_teamOf_2 : decode cX5_teamOf 2 = .ok (.invokevirtual 121, 3) := by decide +kernel
theorem dX5_teamOf_5 : decode cX5_teamOf 5 = .ok (.ifCond .ne 6, 3) := by decide +kernel
theorem dX5_teamOf_8 : decode cX5_teamOf 8 = .ok (.ldc 71, 2) := by decide +kernel
theorem dX5_teamOf_10 : decode cX5_teamOf 10 = .ok (.ireturn, 1) := by decide +kernel
theorem dX5_teamOf_11 : decode cX5_teamOf 11 = .ok (.aload_n 0, 1) := by decide +kernel
theorem dX5_teamOf_12 : decode cX5_teamOf 12 = .ok (.invokevirtual 159, 3) := by decide +kernel
theorem dX5_teamOf_15 : decode cX5_teamOf 15 = .ok (.iload_n 2, 1) := by decide +kernel
theorem dX5_teamOf_16 : decode cX5_teamOf 16 = .ok (.tableswitch 156 0 9 #[56, 69, 79, 92, 102, 111, 120, 129, 138, 147], 56) := by decide +kernel
theorem dX5_teamOf_72 : decode cX5_teamOf 72 = .ok (.aload_n 0, 1) := by decide +kernel
theorem dX5_teamOf_73 : decode cX5_teamOf 73 = .ok (.getfield 10, 3) := by decide +kernel
theorem dX5_teamOf_76 : decode cX5_teamOf 76 = .ok (.getfield 102, 3) := by decide +kernel
theorem dX5_teamOf_79 : decode cX5_teamOf 79 = .ok (.iload_n 1, 1) := by decide +kernel
theorem dX5_teamOf_80 : decode cX5_teamOf 80 = .ok (.aaload, 1) := by decide +kernel
theorem dX5_teamOf_81 : decode cX5_teamOf 81 = .ok (.getfield 110, 3) := by decide +kernel
theorem dX5_teamOf_84 : decode cX5_teamOf 84 = .ok (.ireturn, 1) := by decide +kernel
theorem dX5_teamOf_85 : decode cX5_teamOf 85 = .ok (.aload_n 0, 1) := by decide +kernel
theorem dX5_teamOf_86 : decode cX5_teamOf 86 = .ok (.getfield 22, 3) := by decide +kernel
theorem dX5_teamOf_89 : decode cX5_teamOf 89 = .ok (.getfield 184, 3) := by decide +kernel
theorem dX5_teamOf_92 : decode cX5_teamOf 92 = .ok (.iload_n 1, 1) := by decide +kernel
theorem dX5_teamOf_93 : decode cX5_teamOf 93 = .ok (.iaload, 1) := by decide +kernel
theorem dX5_teamOf_94 : decode cX5_teamOf 94 = .ok (.ireturn, 1) := by decide +kernel
theorem dX5_teamOf_95 : decode cX5_teamOf 95 = .ok (.aload_n 0, 1) := by decide +kernel
theorem dX5_teamOf_96 : decode cX5_teamOf 96 = .ok (.getfield 10, 3) := by decide +kernel
theorem dX5_teamOf_99 : decode cX5_teamOf 99 = .ok (.getfield 102, 3) := by decide +kernel
theorem dX5_teamOf_102 : decode cX5_teamOf 102 = .ok (.iload_n 1, 1) := by decide +kernel
theorem dX5_teamOf_103 : decode cX5_teamOf 103 = .ok (.aaload, 1) := by decide +kernel
theorem dX5_teamOf_104 : decode cX5_teamOf 104 = .ok (.getfield 137, 3) := by decide +kernel
theorem dX5_teamOf_107 : decode cX5_teamOf 107 = .ok (.ireturn, 1) := by decide +kernel
theorem dX5_teamOf_108 : decode cX5_teamOf 108 = .ok (.aload_n 0, 1) := by decide +kernel
theorem dX5_teamOf_109 : decode cX5_teamOf 109 = .ok (.getfield 22, 3) := by decide +kernel
theorem dX5_teamOf_112 : decode cX5_teamOf 112 = .ok (.getfield 165, 3) := by decide +kernel
theorem dX5_teamOf_115 : decode cX5_teamOf 115 = .ok (.iload_n 1, 1) := by decide +kernel
theorem dX5_teamOf_116 : decode cX5_teamOf 116 = .ok (.iaload, 1) := by decide +kernel
theorem dX5_teamOf_117 : decode cX5_teamOf 117 = .ok (.ireturn, 1) := by decide +kernel
theorem dX5_teamOf_118 : decode cX5_teamOf 118 = .ok (.aload_n 0, 1) := by decide +kernel
theorem dX5_teamOf_119 : decode cX5_teamOf 119 = .ok (.getfield 22, 3) := by decide +kernel
theorem dX5_teamOf_122 : decode cX5_teamOf 122 = .ok (.iload_n 1, 1) := by decide +kernel
theorem dX5_teamOf_123 : decode cX5_teamOf 123 = .ok (.invokevirtual 187, 3) := by decide +kernel
theorem dX5_teamOf_126 : decode cX5_teamOf 126 = .ok (.ireturn, 1) := by decide +kernel
theorem dX5_teamOf_127 : decode cX5_teamOf 127 = .ok (.aload_n 0, 1) := by decide +kernel
theorem dX5_teamOf_128 : decode cX5_teamOf 128 = .ok (.getfield 22, 3) := by decide +kernel
theorem dX5_teamOf_131 : decode cX5_teamOf 131 = .ok (.iload_n 1, 1) := by decide +kernel
theorem dX5_teamOf_132 : decode cX5_teamOf 132 = .ok (.invokevirtual 190, 3) := by decide +kernel
theorem dX5_teamOf_135 : decode cX5_teamOf 135 = .ok (.ireturn, 1) := by decide +kernel
theorem dX5_teamOf_136 : decode cX5_teamOf 136 = .ok (.aload_n 0, 1) := by decide +kernel
theorem dX5_teamOf_137 : decode cX5_teamOf 137 = .ok (.getfield 22, 3) := by decide +kernel
theorem dX5_teamOf_140 : decode cX5_teamOf 140 = .ok (.iload_n 1, 1) := by decide +kernel
theorem dX5_teamOf_141 : decode cX5_teamOf 141 = .ok (.invokevirtual 193, 3) := by decide +kernel
theorem dX5_teamOf_144 : decode cX5_teamOf 144 = .ok (.ireturn, 1) := by decide +kernel
theorem dX5_teamOf_145 : decode cX5_teamOf 145 = .ok (.aload_n 0, 1) := by decide +kernel
theorem dX5_teamOf_146 : decode cX5_teamOf 146 = .ok (.getfield 22, 3) := by decide +kernel
theorem dX5_teamOf_149 : decode cX5_teamOf 149 = .ok (.iload_n 1, 1) := by decide +kernel
theorem dX5_teamOf_150 : decode cX5_teamOf 150 = .ok (.invokevirtual 196, 3) := by decide +kernel
theorem dX5_teamOf_153 : decode cX5_teamOf 153 = .ok (.ireturn, 1) := by decide +kernel
theorem dX5_teamOf_154 : decode cX5_teamOf 154 = .ok (.aload_n 0, 1) := by decide +kernel
theorem dX5_teamOf_155 : decode cX5_teamOf 155 = .ok (.getfield 22, 3) := by decide +kernel
theorem dX5_teamOf_158 : decode cX5_teamOf 158 = .ok (.iload_n 1, 1) := by decide +kernel
theorem dX5_teamOf_159 : decode cX5_teamOf 159 = .ok (.invokevirtual 199, 3) := by decide +kernel
theorem dX5_teamOf_162 : decode cX5_teamOf 162 = .ok (.ireturn, 1) := by decide +kernel
theorem dX5_teamOf_163 : decode cX5_teamOf 163 = .ok (.aload_n 0, 1) := by decide +kernel
theorem dX5_teamOf_164 : decode cX5_teamOf 164 = .ok (.getfield 22, 3) := by decide +kernel
theorem dX5_teamOf_167 : decode cX5_teamOf 167 = .ok (.iload_n 1, 1) := by decide +kernel
theorem dX5_teamOf_168 : decode cX5_teamOf 168 = .ok (.invokevirtual 202, 3) := by decide +kernel
theorem dX5_teamOf_171 : decode cX5_teamOf 171 = .ok (.ireturn, 1) := by decide +kernel
theorem dX5_teamOf_172 : decode cX5_teamOf 172 = .ok (.ldc 52, 2) := by decide +kernel
theorem dX5_teamOf_174 : decode cX5_teamOf 174 = .ok (.ireturn, 1) := by decide +kernel
theorem dX5_placeOf_0 : decode cX5_placeOf 0 = .ok (.iload_n 1, 1) := by decide +kernel
theorem dX5_placeOf_1 : decode cX5_placeOf 1 = .ok (.invokestatic 67, 3) := by decide +kernel
theorem dX5_placeOf_4 : decode cX5_placeOf 4 = .ok (.ifCond .ne 6, 3) := by decide +kernel
theorem dX5_placeOf_7 : decode cX5_placeOf 7 = .ok (.ldc 71, 2) := by decide +kernel
theorem dX5_placeOf_9 : decode cX5_placeOf 9 = .ok (.ireturn, 1) := by decide +kernel
theorem dX5_placeOf_10 : decode cX5_placeOf 10 = .ok (.aload_n 0, 1) := by decide +kernel
theorem dX5_placeOf_11 : decode cX5_placeOf 11 = .ok (.invokevirtual 159, 3) := by decide +kernel
theorem dX5_placeOf_14 : decode cX5_placeOf 14 = .ok (.iload_n 2, 1) := by decide +kernel
theorem dX5_placeOf_15 : decode cX5_placeOf 15 = .ok (.tableswitch 128 0 7 #[45, 55, 65, 75, 92, 101, 110, 119], 45) := by decide +kernel
theorem dX5_placeOf_60 : decode cX5_placeOf 60 = .ok (.aload_n 0, 1) := by decide +kernel
theorem dX5_placeOf_61 : decode cX5_placeOf 61 = .ok (.getfield 10, 3) := by decide +kernel
theorem dX5_placeOf_64 : decode cX5_placeOf 64 = .ok (.getfield 75, 3) := by decide +kernel
theorem dX5_placeOf_67 : decode cX5_placeOf 67 = .ok (.iload_n 1, 1) := by decide +kernel
theorem dX5_placeOf_68 : decode cX5_placeOf 68 = .ok (.iaload, 1) := by decide +kernel
theorem dX5_placeOf_69 : decode cX5_placeOf 69 = .ok (.ireturn, 1) := by decide +kernel
theorem dX5_placeOf_70 : decode cX5_placeOf 70 = .ok (.aload_n 0, 1) := by decide +kernel
theorem dX5_placeOf_71 : decode cX5_placeOf 71 = .ok (.getfield 10, 3) := by decide +kernel
theorem dX5_placeOf_74 : decode cX5_placeOf 74 = .ok (.getfield 78, 3) := by decide +kernel
theorem dX5_placeOf_77 : decode cX5_placeOf 77 = .ok (.iload_n 1, 1) := by decide +kernel
theorem dX5_placeOf_78 : decode cX5_placeOf 78 = .ok (.iaload, 1) := by decide +kernel
theorem dX5_placeOf_79 : decode cX5_placeOf 79 = .ok (.ireturn, 1) := by decide +kernel
theorem dX5_placeOf_80 : decode cX5_placeOf 80 = .ok (.aload_n 0, 1) := by decide +kernel
theorem dX5_placeOf_81 : decode cX5_placeOf 81 = .ok (.getfield 10, 3) := by decide +kernel
theorem dX5_placeOf_84 : decode cX5_placeOf 84 = .ok (.getfield 72, 3) := by decide +kernel
theorem dX5_placeOf_87 : decode cX5_placeOf 87 = .ok (.iload_n 1, 1) := by decide +kernel
theorem dX5_placeOf_88 : decode cX5_placeOf 88 = .ok (.iaload, 1) := by decide +kernel
theorem dX5_placeOf_89 : decode cX5_placeOf 89 = .ok (.ireturn, 1) := by decide +kernel
theorem dX5_placeOf_90 : decode cX5_placeOf 90 = .ok (.aload_n 0, 1) := by decide +kernel
theorem dX5_placeOf_91 : decode cX5_placeOf 91 = .ok (.getfield 10, 3) := by decide +kernel
theorem dX5_placeOf_94 : decode cX5_placeOf 94 = .ok (.iload_n 1, 1) := by decide +kernel
theorem dX5_placeOf_95 : decode cX5_placeOf 95 = .ok (.invokevirtual 81, 3) := by decide +kernel
theorem dX5_placeOf_98 : decode cX5_placeOf 98 = .ok (.ifCond .eq 7, 3) := by decide +kernel
theorem dX5_placeOf_101 : decode cX5_placeOf 101 = .ok (.iconst 0, 1) := by decide +kernel
theorem dX5_placeOf_102 : decode cX5_placeOf 102 = .ok (.goto 4, 3) := by decide +kernel
theorem dX5_placeOf_105 : decode cX5_placeOf 105 = .ok (.iconst 1, 1) := by decide +kernel
theorem dX5_placeOf_106 : decode cX5_placeOf 106 = .ok (.ireturn, 1) := by decide +kernel
theorem dX5_placeOf_107 : decode cX5_placeOf 107 = .ok (.aload_n 0, 1) := by decide +kernel
theorem dX5_placeOf_108 : decode cX5_placeOf 108 = .ok (.getfield 22, 3) := by decide +kernel
theorem dX5_placeOf_111 : decode cX5_placeOf 111 = .ok (.iload_n 1, 1) := by decide +kernel
theorem dX5_placeOf_112 : decode cX5_placeOf 112 = .ok (.invokevirtual 205, 3) := by decide +kernel
theorem dX5_placeOf_115 : decode cX5_placeOf 115 = .ok (.ireturn, 1) := by decide +kernel
theorem dX5_placeOf_116 : decode cX5_placeOf 116 = .ok (.aload_n 0, 1) := by decide +kernel
theorem dX5_placeOf_117 : decode cX5_placeOf 117 = .ok (.getfield 22, 3) := by decide +kernel
theorem dX5_placeOf_120 : decode cX5_placeOf 120 = .ok (.iload_n 1, 1) := by decide +kernel
theorem dX5_placeOf_121 : decode cX5_placeOf 121 = .ok (.invokevirtual 208, 3) := by decide +kernel
theorem dX5_placeOf_124 : decode cX5_placeOf 124 = .ok (.ireturn, 1) := by decide +kernel
theorem dX5_placeOf_125 : decode cX5_placeOf 125 = .ok (.aload_n 0, 1) := by decide +kernel
theorem dX5_placeOf_126 : decode cX5_placeOf 126 = .ok (.getfield 22, 3) := by decide +kernel
theorem dX5_placeOf_129 : decode cX5_placeOf 129 = .ok (.iload_n 1, 1) := by decide +kernel
theorem dX5_placeOf_130 : decode cX5_placeOf 130 = .ok (.invokevirtual 211, 3) := by decide +kernel
theorem dX5_placeOf_133 : decode cX5_placeOf 133 = .ok (.ireturn, 1) := by decide +kernel
theorem dX5_placeOf_134 : decode cX5_placeOf 134 = .ok (.aload_n 0, 1) := by decide +kernel
theorem dX5_placeOf_135 : decode cX5_placeOf 135 = .ok (.getfield 22, 3) := by decide +kernel
theorem dX5_placeOf_138 : decode cX5_placeOf 138 = .ok (.iload_n 1, 1) := by decide +kernel
theorem dX5_placeOf_139 : decode cX5_placeOf 139 = .ok (.invokevirtual 214, 3) := by decide +kernel
theorem dX5_placeOf_142 : decode cX5_placeOf 142 = .ok (.ireturn, 1) := by decide +kernel
theorem dX5_placeOf_143 : decode cX5_placeOf 143 = .ok (.ldc 52, 2) := by decide +kernel
theorem dX5_placeOf_145 : decode cX5_placeOf 145 = .ok (.ireturn, 1) := by decide +kernel
theorem dX5_where_0 : decode cX5_where 0 = .ok (.aload_n 0, 1) := by decide +kernel
theorem dX5_where_1 : decode cX5_where 1 = .ok (.iload_n 1, 1) := by decide +kernel
theorem dX5_where_2 : decode cX5_where 2 = .ok (.invokevirtual 121, 3) := by decide +kernel
theorem dX5_where_5 : decode cX5_where 5 = .ok (.ifCond .ne 6, 3) := by decide +kernel
theorem dX5_where_8 : decode cX5_where 8 = .ok (.ldc 71, 2) := by decide +kernel
theorem dX5_where_10 : decode cX5_where 10 = .ok (.ireturn, 1) := by decide +kernel
theorem dX5_where_11 : decode cX5_where 11 = .ok (.iload_n 2, 1) := by decide +kernel
theorem dX5_where_12 : decode cX5_where 12 = .ok (.ifCond .ge 6, 3) := by decide +kernel
theorem dX5_where_15 : decode cX5_where 15 = .ok (.ldc 52, 2) := by decide +kernel
theorem dX5_where_17 : decode cX5_where 17 = .ok (.ireturn, 1) := by decide +kernel
theorem dX5_where_18 : decode cX5_where 18 = .ok (.aload_n 0, 1) := by decide +kernel
theorem dX5_where_19 : decode cX5_where 19 = .ok (.invokevirtual 159, 3) := by decide +kernel
theorem dX5_where_22 : decode cX5_where 22 = .ok (.aload_n 0, 1) := by decide +kernel
theorem dX5_where_23 : decode cX5_where 23 = .ok (.getfield 22, 3) := by decide +kernel
theorem dX5_where_26 : decode cX5_where 26 = .ok (.iload_n 1, 1) := by decide +kernel
theorem dX5_where_27 : decode cX5_where 27 = .ok (.iload_n 2, 1) := by decide +kernel
theorem dX5_where_28 : decode cX5_where 28 = .ok (.invokevirtual 217, 3) := by decide +kernel
theorem dX5_where_31 : decode cX5_where 31 = .ok (.ireturn, 1) := by decide +kernel
theorem dX5_told_0 : decode cX5_told 0 = .ok (.aload_n 0, 1) := by decide +kernel
theorem dX5_told_1 : decode cX5_told 1 = .ok (.iload_n 1, 1) := by decide +kernel
theorem dX5_told_2 : decode cX5_told 2 = .ok (.invokevirtual 121, 3) := by decide +kernel
theorem dX5_told_5 : decode cX5_told 5 = .ok (.ifCond .ne 6, 3) := by decide +kernel
theorem dX5_told_8 : decode cX5_told 8 = .ok (.ldc 71, 2) := by decide +kernel
theorem dX5_told_10 : decode cX5_told 10 = .ok (.ireturn, 1) := by decide +kernel
theorem dX5_told_11 : decode cX5_told 11 = .ok (.iload_n 2, 1) := by decide +kernel
theorem dX5_told_12 : decode cX5_told 12 = .ok (.ifCond .ge 6, 3) := by decide +kernel
theorem dX5_told_15 : decode cX5_told 15 = .ok (.ldc 52, 2) := by decide +kernel
theorem dX5_told_17 : decode cX5_told 17 = .ok (.ireturn, 1) := by decide +kernel
theorem dX5_told_18 : decode cX5_told 18 = .ok (.aload_n 0, 1) := by decide +kernel
theorem dX5_told_19 : decode cX5_told 19 = .ok (.invokevirtual 159, 3) := by decide +kernel
theorem dX5_told_22 : decode cX5_told 22 = .ok (.aload_n 0, 1) := by decide +kernel
theorem dX5_told_23 : decode cX5_told 23 = .ok (.getfield 22, 3) := by decide +kernel
theorem dX5_told_26 : decode cX5_told 26 = .ok (.iload_n 1, 1) := by decide +kernel
theorem dX5_told_27 : decode cX5_told 27 = .ok (.iload_n 2, 1) := by decide +kernel
theorem dX5_told_28 : decode cX5_told 28 = .ok (.invokevirtual 221, 3) := by decide +kernel
theorem dX5_told_31 : decode cX5_told 31 = .ok (.ireturn, 1) := by decide +kernel
theorem dX5_count_0 : decode cX5_count 0 = .ok (.aload_n 0, 1) := by decide +kernel
theorem dX5_count_1 : decode cX5_count 1 = .ok (.invokevirtual 159, 3) := by decide +kernel
theorem dX5_count_4 : decode cX5_count 4 = .ok (.iload_n 1, 1) := by decide +kernel
theorem dX5_count_5 : decode cX5_count 5 = .ok (.tableswitch 157 0 12 #[67, 67, 67, 77, 85, 93, 101, 109, 117, 125, 133, 141, 149], 67) := by decide +kernel
theorem dX5_count_72 : decode cX5_count 72 = .ok (.aload_n 0, 1) := by decide +kernel
theorem dX5_count_73 : decode cX5_count 73 = .ok (.getfield 10, 3) := by decide +kernel
theorem dX5_count_76 : decode cX5_count 76 = .ok (.getfield 64, 3) := by decide +kernel
theorem dX5_count_79 : decode cX5_count 79 = .ok (.iload_n 1, 1) := by decide +kernel
theorem dX5_count_80 : decode cX5_count 80 = .ok (.iaload, 1) := by decide +kernel
theorem dX5_count_81 : decode cX5_count 81 = .ok (.ireturn, 1) := by decide +kernel
theorem dX5_count_82 : decode cX5_count 82 = .ok (.aload_n 0, 1) := by decide +kernel
theorem dX5_count_83 : decode cX5_count 83 = .ok (.getfield 10, 3) := by decide +kernel
theorem dX5_count_86 : decode cX5_count 86 = .ok (.getfield 98, 3) := by decide +kernel
theorem dX5_count_89 : decode cX5_count 89 = .ok (.ireturn, 1) := by decide +kernel
theorem dX5_count_90 : decode cX5_count 90 = .ok (.aload_n 0, 1) := by decide +kernel
theorem dX5_count_91 : decode cX5_count 91 = .ok (.getfield 10, 3) := by decide +kernel
theorem dX5_count_94 : decode cX5_count 94 = .ok (.invokevirtual 89, 3) := by decide +kernel
theorem dX5_count_97 : decode cX5_count 97 = .ok (.ireturn, 1) := by decide +kernel
theorem dX5_count_98 : decode cX5_count 98 = .ok (.aload_n 0, 1) := by decide +kernel
theorem dX5_count_99 : decode cX5_count 99 = .ok (.getfield 22, 3) := by decide +kernel
theorem dX5_count_102 : decode cX5_count 102 = .ok (.invokevirtual 162, 3) := by decide +kernel
theorem dX5_count_105 : decode cX5_count 105 = .ok (.ireturn, 1) := by decide +kernel
theorem dX5_count_106 : decode cX5_count 106 = .ok (.aload_n 0, 1) := by decide +kernel
theorem dX5_count_107 : decode cX5_count 107 = .ok (.getfield 22, 3) := by decide +kernel
theorem dX5_count_110 : decode cX5_count 110 = .ok (.invokevirtual 224, 3) := by decide +kernel
theorem dX5_count_113 : decode cX5_count 113 = .ok (.ireturn, 1) := by decide +kernel
theorem dX5_count_114 : decode cX5_count 114 = .ok (.aload_n 0, 1) := by decide +kernel
theorem dX5_count_115 : decode cX5_count 115 = .ok (.getfield 22, 3) := by decide +kernel
theorem dX5_count_118 : decode cX5_count 118 = .ok (.invokevirtual 227, 3) := by decide +kernel
theorem dX5_count_121 : decode cX5_count 121 = .ok (.ireturn, 1) := by decide +kernel
theorem dX5_count_122 : decode cX5_count 122 = .ok (.aload_n 0, 1) := by decide +kernel
theorem dX5_count_123 : decode cX5_count 123 = .ok (.getfield 22, 3) := by decide +kernel
theorem dX5_count_126 : decode cX5_count 126 = .ok (.invokevirtual 230, 3) := by decide +kernel
theorem dX5_count_129 : decode cX5_count 129 = .ok (.ireturn, 1) := by decide +kernel
theorem dX5_count_130 : decode cX5_count 130 = .ok (.aload_n 0, 1) := by decide +kernel
theorem dX5_count_131 : decode cX5_count 131 = .ok (.getfield 22, 3) := by decide +kernel
theorem dX5_count_134 : decode cX5_count 134 = .ok (.invokevirtual 233, 3) := by decide +kernel
theorem dX5_count_137 : decode cX5_count 137 = .ok (.ireturn, 1) := by decide +kernel
theorem dX5_count_138 : decode cX5_count 138 = .ok (.aload_n 0, 1) := by decide +kernel
theorem dX5_count_139 : decode cX5_count 139 = .ok (.getfield 22, 3) := by decide +kernel
theorem dX5_count_142 : decode cX5_count 142 = .ok (.invokevirtual 236, 3) := by decide +kernel
theorem dX5_count_145 : decode cX5_count 145 = .ok (.ireturn, 1) := by decide +kernel
theorem dX5_count_146 : decode cX5_count 146 = .ok (.aload_n 0, 1) := by decide +kernel
theorem dX5_count_147 : decode cX5_count 147 = .ok (.getfield 29, 3) := by decide +kernel
theorem dX5_count_150 : decode cX5_count 150 = .ok (.getfield 239, 3) := by decide +kernel
theorem dX5_count_153 : decode cX5_count 153 = .ok (.ireturn, 1) := by decide +kernel
theorem dX5_count_154 : decode cX5_count 154 = .ok (.aload_n 0, 1) := by decide +kernel
theorem dX5_count_155 : decode cX5_count 155 = .ok (.getfield 36, 3) := by decide +kernel
theorem dX5_count_158 : decode cX5_count 158 = .ok (.getfield 240, 3) := by decide +kernel
theorem dX5_count_161 : decode cX5_count 161 = .ok (.ireturn, 1) := by decide +kernel
theorem dX5_count_162 : decode cX5_count 162 = .ok (.ldc 52, 2) := by decide +kernel
theorem dX5_count_164 : decode cX5_count 164 = .ok (.ireturn, 1) := by decide +kernel
theorem dX5_put_0 : decode cX5_put 0 = .ok (.lload_n 1, 1) := by decide +kernel
theorem dX5_put_1 : decode cX5_put 1 = .ok (.invokestatic 251, 3) := by decide +kernel
theorem dX5_put_4 : decode cX5_put 4 = .ok (.istore_n 3, 1) := by decide +kernel
theorem dX5_put_5 : decode cX5_put 5 = .ok (.iload_n 3, 1) := by decide +kernel
theorem dX5_put_6 : decode cX5_put 6 = .ok (.ifCond .ne 6, 3) := by decide +kernel
theorem dX5_put_9 : decode cX5_put 9 = .ok (.ldc 52, 2) := by decide +kernel
theorem dX5_put_11 : decode cX5_put 11 = .ok (.ireturn, 1) := by decide +kernel
theorem dX5_put_12 : decode cX5_put 12 = .ok (.aload_n 0, 1) := by decide +kernel
theorem dX5_put_13 : decode cX5_put 13 = .ok (.getfield 29, 3) := by decide +kernel
theorem dX5_put_16 : decode cX5_put 16 = .ok (.getfield 239, 3) := by decide +kernel
theorem dX5_put_19 : decode cX5_put 19 = .ok (.iload_n 3, 1) := by decide +kernel
theorem dX5_put_20 : decode cX5_put 20 = .ok (.iadd, 1) := by decide +kernel
theorem dX5_put_21 : decode cX5_put 21 = .ok (.bipush 20, 2) := by decide +kernel
theorem dX5_put_23 : decode cX5_put 23 = .ok (.if_icmp .le 6, 3) := by decide +kernel
theorem dX5_put_26 : decode cX5_put 26 = .ok (.ldc 101, 2) := by decide +kernel
theorem dX5_put_28 : decode cX5_put 28 = .ok (.ireturn, 1) := by decide +kernel
theorem dX5_put_29 : decode cX5_put 29 = .ok (.aload_n 0, 1) := by decide +kernel
theorem dX5_put_30 : decode cX5_put 30 = .ok (.getfield 29, 3) := by decide +kernel
theorem dX5_put_33 : decode cX5_put 33 = .ok (.lload_n 1, 1) := by decide +kernel
theorem dX5_put_34 : decode cX5_put 34 = .ok (.iload_n 3, 1) := by decide +kernel
theorem dX5_put_35 : decode cX5_put 35 = .ok (.invokevirtual 255, 3) := by decide +kernel
theorem dX5_put_38 : decode cX5_put 38 = .ok (.aload_n 0, 1) := by decide +kernel
theorem dX5_put_39 : decode cX5_put 39 = .ok (.getfield 29, 3) := by decide +kernel
theorem dX5_put_42 : decode cX5_put 42 = .ok (.getfield 239, 3) := by decide +kernel
theorem dX5_put_45 : decode cX5_put 45 = .ok (.ireturn, 1) := by decide +kernel
theorem dX5_wipe_0 : decode cX5_wipe 0 = .ok (.aload_n 0, 1) := by decide +kernel
theorem dX5_wipe_1 : decode cX5_wipe 1 = .ok (.getfield 29, 3) := by decide +kernel
theorem dX5_wipe_4 : decode cX5_wipe 4 = .ok (.getfield 239, 3) := by decide +kernel
theorem dX5_wipe_7 : decode cX5_wipe 7 = .ok (.istore_n 1, 1) := by decide +kernel
theorem dX5_wipe_8 : decode cX5_wipe 8 = .ok (.aload_n 0, 1) := by decide +kernel
theorem dX5_wipe_9 : decode cX5_wipe 9 = .ok (.getfield 29, 3) := by decide +kernel
theorem dX5_wipe_12 : decode cX5_wipe 12 = .ok (.iconst 0, 1) := by decide +kernel
theorem dX5_wipe_13 : decode cX5_wipe 13 = .ok (.putfield 239, 3) := by decide +kernel
theorem dX5_wipe_16 : decode cX5_wipe 16 = .ok (.iload_n 1, 1) := by decide +kernel
theorem dX5_wipe_17 : decode cX5_wipe 17 = .ok (.ireturn, 1) := by decide +kernel
theorem dX5_isFrom_0 : decode cX5_isFrom 0 = .ok (.iload_n 0, 1) := by decide +kernel
theorem dX5_isFrom_1 : decode cX5_isFrom 1 = .ok (.iload_n 1, 1) := by decide +kernel
theorem dX5_isFrom_2 : decode cX5_isFrom 2 = .ok (.if_icmp .lt 12, 3) := by decide +kernel
theorem dX5_isFrom_5 : decode cX5_isFrom 5 = .ok (.iload_n 0, 1) := by decide +kernel
theorem dX5_isFrom_6 : decode cX5_isFrom 6 = .ok (.iload_n 2, 1) := by decide +kernel
theorem dX5_isFrom_7 : decode cX5_isFrom 7 = .ok (.if_icmp .gt 7, 3) := by decide +kernel
theorem dX5_isFrom_10 : decode cX5_isFrom 10 = .ok (.iconst 1, 1) := by decide +kernel
theorem dX5_isFrom_11 : decode cX5_isFrom 11 = .ok (.goto 4, 3) := by decide +kernel
theorem dX5_isFrom_14 : decode cX5_isFrom 14 = .ok (.iconst 0, 1) := by decide +kernel
theorem dX5_isFrom_15 : decode cX5_isFrom 15 = .ok (.ireturn, 1) := by decide +kernel
theorem dX5_isPlace_0 : decode cX5_isPlace 0 = .ok (.iload_n 0, 1) := by decide +kernel
theorem dX5_isPlace_1 : decode cX5_isPlace 1 = .ok (.iconst 0, 1) := by decide +kernel
theorem dX5_isPlace_2 : decode cX5_isPlace 2 = .ok (.bipush 7, 2) := by decide +kernel
theorem dX5_isPlace_4 : decode cX5_isPlace 4 = .ok (.invokestatic 48, 3) := by decide +kernel
theorem dX5_isPlace_7 : decode cX5_isPlace 7 = .ok (.ireturn, 1) := by decide +kernel
theorem dX5_isTeam_0 : decode cX5_isTeam 0 = .ok (.iload_n 1, 1) := by decide +kernel
theorem dX5_isTeam_1 : decode cX5_isTeam 1 = .ok (.iconst 0, 1) := by decide +kernel
theorem dX5_isTeam_2 : decode cX5_isTeam 2 = .ok (.aload_n 0, 1) := by decide +kernel
theorem dX5_isTeam_3 : decode cX5_isTeam 3 = .ok (.getfield 10, 3) := by decide +kernel
theorem dX5_isTeam_6 : decode cX5_isTeam 6 = .ok (.getfield 98, 3) := by decide +kernel
theorem dX5_isTeam_9 : decode cX5_isTeam 9 = .ok (.iconst 1, 1) := by decide +kernel
theorem dX5_isTeam_10 : decode cX5_isTeam 10 = .ok (.isub, 1) := by decide +kernel
theorem dX5_isTeam_11 : decode cX5_isTeam 11 = .ok (.invokestatic 48, 3) := by decide +kernel
theorem dX5_isTeam_14 : decode cX5_isTeam 14 = .ok (.ireturn, 1) := by decide +kernel
theorem dX5_isInRoute_0 : decode cX5_isInRoute 0 = .ok (.iload_n 2, 1) := by decide +kernel
theorem dX5_isInRoute_1 : decode cX5_isInRoute 1 = .ok (.iconst 0, 1) := by decide +kernel
theorem dX5_isInRoute_2 : decode cX5_isInRoute 2 = .ok (.aload_n 0, 1) := by decide +kernel
theorem dX5_isInRoute_3 : decode cX5_isInRoute 3 = .ok (.getfield 10, 3) := by decide +kernel
theorem dX5_isInRoute_6 : decode cX5_isInRoute 6 = .ok (.getfield 102, 3) := by decide +kernel
theorem dX5_isInRoute_9 : decode cX5_isInRoute 9 = .ok (.iload_n 1, 1) := by decide +kernel
theorem dX5_isInRoute_10 : decode cX5_isInRoute 10 = .ok (.aaload, 1) := by decide +kernel
theorem dX5_isInRoute_11 : decode cX5_isInRoute 11 = .ok (.getfield 137, 3) := by decide +kernel
theorem dX5_isInRoute_14 : decode cX5_isInRoute 14 = .ok (.iconst 1, 1) := by decide +kernel
theorem dX5_isInRoute_15 : decode cX5_isInRoute 15 = .ok (.isub, 1) := by decide +kernel
theorem dX5_isInRoute_16 : decode cX5_isInRoute 16 = .ok (.invokestatic 48, 3) := by decide +kernel
theorem dX5_isInRoute_19 : decode cX5_isInRoute 19 = .ok (.ireturn, 1) := by decide +kernel
theorem dX5_playNow_0 : decode cX5_playNow 0 = .ok (.aload_n 0, 1) := by decide +kernel
theorem dX5_playNow_1 : decode cX5_playNow 1 = .ok (.getfield 22, 3) := by decide +kernel
theorem dX5_playNow_4 : decode cX5_playNow 4 = .ok (.aload_n 0, 1) := by decide +kernel
theorem dX5_playNow_5 : decode cX5_playNow 5 = .ok (.getfield 10, 3) := by decide +kernel
theorem dX5_playNow_8 : decode cX5_playNow 8 = .ok (.aload_n 0, 1) := by decide +kernel
theorem dX5_playNow_9 : decode cX5_playNow 9 = .ok (.getfield 10, 3) := by decide +kernel
theorem dX5_playNow_12 : decode cX5_playNow 12 = .ok (.getfield 98, 3) := by decide +kernel
theorem dX5_playNow_15 : decode cX5_playNow 15 = .ok (.invokevirtual 247, 3) := by decide +kernel
theorem dX5_playNow_18 : decode cX5_playNow 18 = .ok (.return_, 1) := by decide +kernel
theorem dX5_endNow_0 : decode cX5_endNow 0 = .ok (.aload_n 0, 1) := by decide +kernel
theorem dX5_endNow_1 : decode cX5_endNow 1 = .ok (.invokevirtual 159, 3) := by decide +kernel
theorem dX5_endNow_4 : decode cX5_endNow 4 = .ok (.aload_n 0, 1) := by decide +kernel
theorem dX5_endNow_5 : decode cX5_endNow 5 = .ok (.getfield 22, 3) := by decide +kernel
theorem dX5_endNow_8 : decode cX5_endNow 8 = .ok (.getfield 184, 3) := by decide +kernel
theorem dX5_endNow_11 : decode cX5_endNow 11 = .ok (.iload_n 1, 1) := by decide +kernel
theorem dX5_endNow_12 : decode cX5_endNow 12 = .ok (.iaload, 1) := by decide +kernel
theorem dX5_endNow_13 : decode cX5_endNow 13 = .ok (.ireturn, 1) := by decide +kernel
theorem dJ6_bitCount_0f7a4_0 : decode cJ6_bitCount_0f7a4 0 = .ok (.iload_n 0, 1) := by decide +kernel
theorem dJ6_bitCount_0f7a4_1 : decode cJ6_bitCount_0f7a4 1 = .ok (.iload_n 0, 1) := by decide +kernel
theorem dJ6_bitCount_0f7a4_2 : decode cJ6_bitCount_0f7a4 2 = .ok (.iconst 1, 1) := by decide +kernel
theorem dJ6_bitCount_0f7a4_3 : decode cJ6_bitCount_0f7a4 3 = .ok (.iushr, 1) := by decide +kernel
theorem dJ6_bitCount_0f7a4_4 : decode cJ6_bitCount_0f7a4 4 = .ok (.ldc_w 265, 3) := by decide +kernel
theorem dJ6_bitCount_0f7a4_7 : decode cJ6_bitCount_0f7a4 7 = .ok (.iand, 1) := by decide +kernel
theorem dJ6_bitCount_0f7a4_8 : decode cJ6_bitCount_0f7a4 8 = .ok (.isub, 1) := by decide +kernel
theorem dJ6_bitCount_0f7a4_9 : decode cJ6_bitCount_0f7a4 9 = .ok (.istore_n 0, 1) := by decide +kernel
theorem dJ6_bitCount_0f7a4_10 : decode cJ6_bitCount_0f7a4 10 = .ok (.iload_n 0, 1) := by decide +kernel
theorem dJ6_bitCount_0f7a4_11 : decode cJ6_bitCount_0f7a4 11 = .ok (.ldc_w 266, 3) := by decide +kernel
theorem dJ6_bitCount_0f7a4_14 : decode cJ6_bitCount_0f7a4 14 = .ok (.iand, 1) := by decide +kernel
theorem dJ6_bitCount_0f7a4_15 : decode cJ6_bitCount_0f7a4 15 = .ok (.iload_n 0, 1) := by decide +kernel
theorem dJ6_bitCount_0f7a4_16 : decode cJ6_bitCount_0f7a4 16 = .ok (.iconst 2, 1) := by decide +kernel
theorem dJ6_bitCount_0f7a4_17 : decode cJ6_bitCount_0f7a4 17 = .ok (.iushr, 1) := by decide +kernel
theorem dJ6_bitCount_0f7a4_18 : decode cJ6_bitCount_0f7a4 18 = .ok (.ldc_w 266, 3) := by decide +kernel
theorem dJ6_bitCount_0f7a4_21 : decode cJ6_bitCount_0f7a4 21 = .ok (.iand, 1) := by decide +kernel
theorem dJ6_bitCount_0f7a4_22 : decode cJ6_bitCount_0f7a4 22 = .ok (.iadd, 1) := by decide +kernel
theorem dJ6_bitCount_0f7a4_23 : decode cJ6_bitCount_0f7a4 23 = .ok (.istore_n 0, 1) := by decide +kernel
theorem dJ6_bitCount_0f7a4_24 : decode cJ6_bitCount_0f7a4 24 = .ok (.iload_n 0, 1) := by decide +kernel
theorem dJ6_bitCount_0f7a4_25 : decode cJ6_bitCount_0f7a4 25 = .ok (.iload_n 0, 1) := by decide +kernel
theorem dJ6_bitCount_0f7a4_26 : decode cJ6_bitCount_0f7a4 26 = .ok (.iconst 4, 1) := by decide +kernel
theorem dJ6_bitCount_0f7a4_27 : decode cJ6_bitCount_0f7a4 27 = .ok (.iushr, 1) := by decide +kernel
theorem dJ6_bitCount_0f7a4_28 : decode cJ6_bitCount_0f7a4 28 = .ok (.iadd, 1) := by decide +kernel
theorem dJ6_bitCount_0f7a4_29 : decode cJ6_bitCount_0f7a4 29 = .ok (.ldc_w 267, 3) := by decide +kernel
theorem dJ6_bitCount_0f7a4_32 : decode cJ6_bitCount_0f7a4 32 = .ok (.iand, 1) := by decide +kernel
theorem dJ6_bitCount_0f7a4_33 : decode cJ6_bitCount_0f7a4 33 = .ok (.istore_n 0, 1) := by decide +kernel
theorem dJ6_bitCount_0f7a4_34 : decode cJ6_bitCount_0f7a4 34 = .ok (.iload_n 0, 1) := by decide +kernel
theorem dJ6_bitCount_0f7a4_35 : decode cJ6_bitCount_0f7a4 35 = .ok (.iload_n 0, 1) := by decide +kernel
theorem dJ6_bitCount_0f7a4_36 : decode cJ6_bitCount_0f7a4 36 = .ok (.bipush 8, 2) := by decide +kernel
theorem dJ6_bitCount_0f7a4_38 : decode cJ6_bitCount_0f7a4 38 = .ok (.iushr, 1) := by decide +kernel
theorem dJ6_bitCount_0f7a4_39 : decode cJ6_bitCount_0f7a4 39 = .ok (.iadd, 1) := by decide +kernel
theorem dJ6_bitCount_0f7a4_40 : decode cJ6_bitCount_0f7a4 40 = .ok (.istore_n 0, 1) := by decide +kernel
theorem dJ6_bitCount_0f7a4_41 : decode cJ6_bitCount_0f7a4 41 = .ok (.iload_n 0, 1) := by decide +kernel
theorem dJ6_bitCount_0f7a4_42 : decode cJ6_bitCount_0f7a4 42 = .ok (.iload_n 0, 1) := by decide +kernel
theorem dJ6_bitCount_0f7a4_43 : decode cJ6_bitCount_0f7a4 43 = .ok (.bipush 16, 2) := by decide +kernel
theorem dJ6_bitCount_0f7a4_45 : decode cJ6_bitCount_0f7a4 45 = .ok (.iushr, 1) := by decide +kernel
theorem dJ6_bitCount_0f7a4_46 : decode cJ6_bitCount_0f7a4 46 = .ok (.iadd, 1) := by decide +kernel
theorem dJ6_bitCount_0f7a4_47 : decode cJ6_bitCount_0f7a4 47 = .ok (.istore_n 0, 1) := by decide +kernel
theorem dJ6_bitCount_0f7a4_48 : decode cJ6_bitCount_0f7a4 48 = .ok (.iload_n 0, 1) := by decide +kernel
theorem dJ6_bitCount_0f7a4_49 : decode cJ6_bitCount_0f7a4 49 = .ok (.bipush 63, 2) := by decide +kernel
theorem dJ6_bitCount_0f7a4_51 : decode cJ6_bitCount_0f7a4 51 = .ok (.iand, 1) := by decide +kernel
theorem dJ6_bitCount_0f7a4_52 : decode cJ6_bitCount_0f7a4 52 = .ok (.ireturn, 1) := by decide +kernel
theorem dJ9_abs_0f7a4_0 : decode cJ9_abs_0f7a4 0 = .ok (.iload_n 0, 1) := by decide +kernel
theorem dJ9_abs_0f7a4_1 : decode cJ9_abs_0f7a4 1 = .ok (.ifCond .ge 8, 3) := by decide +kernel
theorem dJ9_abs_0f7a4_4 : decode cJ9_abs_0f7a4 4 = .ok (.iload_n 0, 1) := by decide +kernel
theorem dJ9_abs_0f7a4_5 : decode cJ9_abs_0f7a4 5 = .ok (.ineg, 1) := by decide +kernel
theorem dJ9_abs_0f7a4_6 : decode cJ9_abs_0f7a4 6 = .ok (.goto 4, 3) := by decide +kernel
theorem dJ9_abs_0f7a4_9 : decode cJ9_abs_0f7a4 9 = .ok (.iload_n 0, 1) := by decide +kernel
theorem dJ9_abs_0f7a4_10 : decode cJ9_abs_0f7a4 10 = .ok (.ireturn, 1) := by decide +kernel
theorem dJ9_max_7cf53_0 : decode cJ9_max_7cf53 0 = .ok (.iload_n 0, 1) := by decide +kernel
theorem dJ9_max_7cf53_1 : decode cJ9_max_7cf53 1 = .ok (.iload_n 1, 1) := by decide +kernel
theorem dJ9_max_7cf53_2 : decode cJ9_max_7cf53 2 = .ok (.if_icmp .lt 7, 3) := by decide +kernel
theorem dJ9_max_7cf53_5 : decode cJ9_max_7cf53 5 = .ok (.iload_n 0, 1) := by decide +kernel
theorem dJ9_max_7cf53_6 : decode cJ9_max_7cf53 6 = .ok (.goto 4, 3) := by decide +kernel
theorem dJ9_max_7cf53_9 : decode cJ9_max_7cf53 9 = .ok (.iload_n 1, 1) := by decide +kernel
theorem dJ9_max_7cf53_10 : decode cJ9_max_7cf53 10 = .ok (.ireturn, 1) := by decide +kernel
theorem dJ9_min_7cf53_0 : decode cJ9_min_7cf53 0 = .ok (.iload_n 0, 1) := by decide +kernel
theorem dJ9_min_7cf53_1 : decode cJ9_min_7cf53 1 = .ok (.iload_n 1, 1) := by decide +kernel
theorem dJ9_min_7cf53_2 : decode cJ9_min_7cf53 2 = .ok (.if_icmp .gt 7, 3) := by decide +kernel
theorem dJ9_min_7cf53_5 : decode cJ9_min_7cf53 5 = .ok (.iload_n 0, 1) := by decide +kernel
theorem dJ9_min_7cf53_6 : decode cJ9_min_7cf53 6 = .ok (.goto 4, 3) := by decide +kernel
theorem dJ9_min_7cf53_9 : decode cJ9_min_7cf53 9 = .ok (.iload_n 1, 1) := by decide +kernel
theorem dJ9_min_7cf53_10 : decode cJ9_min_7cf53 10 = .ok (.ireturn, 1) := by decide +kernel
theorem dJ7_fill_53178_0 : decode cJ7_fill_53178 0 = .ok (.iconst 0, 1) := by decide +kernel
theorem dJ7_fill_53178_1 : decode cJ7_fill_53178 1 = .ok (.istore_n 2, 1) := by decide +kernel
theorem dJ7_fill_53178_2 : decode cJ7_fill_53178 2 = .ok (.aload_n 0, 1) := by decide +kernel
theorem dJ7_fill_53178_3 : decode cJ7_fill_53178 3 = .ok (.arraylength, 1) := by decide +kernel
theorem dJ7_fill_53178_4 : decode cJ7_fill_53178 4 = .ok (.istore_n 3, 1) := by decide +kernel
theorem dJ7_fill_53178_5 : decode cJ7_fill_53178 5 = .ok (.iload_n 2, 1) := by decide +kernel
theorem dJ7_fill_53178_6 : decode cJ7_fill_53178 6 = .ok (.iload_n 3, 1) := by decide +kernel
theorem dJ7_fill_53178_7 : decode cJ7_fill_53178 7 = .ok (.if_icmp .ge 13, 3) := by decide +kernel
theorem dJ7_fill_53178_10 : decode cJ7_fill_53178 10 = .ok (.aload_n 0, 1) := by decide +kernel
theorem dJ7_fill_53178_11 : decode cJ7_fill_53178 11 = .ok (.iload_n 2, 1) := by decide +kernel
theorem dJ7_fill_53178_12 : decode cJ7_fill_53178 12 = .ok (.iload_n 1, 1) := by decide +kernel
theorem dJ7_fill_53178_13 : decode cJ7_fill_53178 13 = .ok (.iastore, 1) := by decide +kernel
theorem dJ7_fill_53178_14 : decode cJ7_fill_53178 14 = .ok (.iinc 2 1, 3) := by decide +kernel
theorem dJ7_fill_53178_17 : decode cJ7_fill_53178 17 = .ok (.goto (-12), 3) := by decide +kernel
theorem dJ7_fill_53178_20 : decode cJ7_fill_53178 20 = .ok (.return_, 1) := by decide +kernel
theorem dL_cell_0 : decode cL_cell 0 = .ok (.iload_n 1, 1) := by decide +kernel
theorem dL_cell_1 : decode cL_cell 1 = .ok (.aload_n 0, 1) := by decide +kernel
theorem dL_cell_2 : decode cL_cell 2 = .ok (.arraylength, 1) := by decide +kernel
theorem dL_cell_3 : decode cL_cell 3 = .ok (.if_icmp .ge 9, 3) := by decide +kernel
theorem dL_cell_6 : decode cL_cell 6 = .ok (.aload_n 0, 1) := by decide +kernel
theorem dL_cell_7 : decode cL_cell 7 = .ok (.iload_n 1, 1) := by decide +kernel
theorem dL_cell_8 : decode cL_cell 8 = .ok (.iaload, 1) := by decide +kernel
theorem dL_cell_9 : decode cL_cell 9 = .ok (.goto 11, 3) := by decide +kernel
theorem dL_cell_12 : decode cL_cell 12 = .ok (.ldc 7, 2) := by decide +kernel
theorem dL_cell_14 : decode cL_cell 14 = .ok (.iload_n 1, 1) := by decide +kernel
theorem dL_cell_15 : decode cL_cell 15 = .ok (.imul, 1) := by decide +kernel
theorem dL_cell_16 : decode cL_cell 16 = .ok (.sipush 29201, 3) := by decide +kernel
theorem dL_cell_19 : decode cL_cell 19 = .ok (.iadd, 1) := by decide +kernel
theorem dL_cell_20 : decode cL_cell 20 = .ok (.ireturn, 1) := by decide +kernel
theorem dL_low_0 : decode cL_low 0 = .ok (.iload_n 0, 1) := by decide +kernel
theorem dL_low_1 : decode cL_low 1 = .ok (.ldc 8, 2) := by decide +kernel
theorem dL_low_3 : decode cL_low 3 = .ok (.iand, 1) := by decide +kernel
theorem dL_low_4 : decode cL_low 4 = .ok (.iload_n 1, 1) := by decide +kernel
theorem dL_low_5 : decode cL_low 5 = .ok (.irem, 1) := by decide +kernel
theorem dL_low_6 : decode cL_low 6 = .ok (.ireturn, 1) := by decide +kernel
theorem dL_size_0 : decode cL_size 0 = .ok (.iload_n 0, 1) := by decide +kernel
theorem dL_size_1 : decode cL_size 1 = .ok (.ifCond .ge 8, 3) := by decide +kernel
theorem dL_size_4 : decode cL_size 4 = .ok (.iload_n 0, 1) := by decide +kernel
theorem dL_size_5 : decode cL_size 5 = .ok (.ineg, 1) := by decide +kernel
theorem dL_size_6 : decode cL_size 6 = .ok (.goto 4, 3) := by decide +kernel
theorem dL_size_9 : decode cL_size 9 = .ok (.iload_n 0, 1) := by decide +kernel
theorem dL_size_10 : decode cL_size 10 = .ok (.ireturn, 1) := by decide +kernel
theorem dL_way_0 : decode cL_way 0 = .ok (.aload_n 0, 1) := by decide +kernel
theorem dL_way_1 : decode cL_way 1 = .ok (.iload 4, 2) := by decide +kernel
theorem dL_way_3 : decode cL_way 3 = .ok (.iconst 0, 1) := by decide +kernel
theorem dL_way_4 : decode cL_way 4 = .ok (.invokevirtual 9, 3) := by decide +kernel
theorem dL_way_7 : decode cL_way 7 = .ok (.istore 5, 2) := by decide +kernel
theorem dL_way_9 : decode cL_way 9 = .ok (.iconst 0, 1) := by decide +kernel
theorem dL_way_10 : decode cL_way 10 = .ok (.istore 6, 2) := by decide +kernel
theorem dL_way_12 : decode cL_way 12 = .ok (.iconst 0, 1) := by decide +kernel
theorem dL_way_13 : decode cL_way 13 = .ok (.istore 7, 2) := by decide +kernel
theorem dL_way_15 : decode cL_way 15 = .ok (.iconst 0, 1) := by decide +kernel
theorem dL_way_16 : decode cL_way 16 = .ok (.istore 8, 2) := by decide +kernel
theorem dL_way_18 : decode cL_way 18 = .ok (.iconst 0, 1) := by decide +kernel
theorem dL_way_19 : decode cL_way 19 = .ok (.istore 9, 2) := by decide +kernel
theorem dL_way_21 : decode cL_way 21 = .ok (.iconst 0, 1) := by decide +kernel
theorem dL_way_22 : decode cL_way 22 = .ok (.istore 10, 2) := by decide +kernel
theorem dL_way_24 : decode cL_way 24 = .ok (.iconst 0, 1) := by decide +kernel
theorem dL_way_25 : decode cL_way 25 = .ok (.istore 11, 2) := by decide +kernel
theorem dL_way_27 : decode cL_way 27 = .ok (.iconst 0, 1) := by decide +kernel
theorem dL_way_28 : decode cL_way 28 = .ok (.istore 12, 2) := by decide +kernel
theorem dL_way_30 : decode cL_way 30 = .ok (.iconst 0, 1) := by decide +kernel
theorem dL_way_31 : decode cL_way 31 = .ok (.istore 13, 2) := by decide +kernel
theorem dL_way_33 : decode cL_way 33 = .ok (.iconst 0, 1) := by decide +kernel
theorem dL_way_34 : decode cL_way 34 = .ok (.istore 14, 2) := by decide +kernel
theorem dL_way_36 : decode cL_way 36 = .ok (.iload 14, 2) := by decide +kernel
theorem dL_way_38 : decode cL_way 38 = .ok (.bipush 8, 2) := by decide +kernel
theorem dL_way_40 : decode cL_way 40 = .ok (.if_icmp .ge 386, 3) := by decide +kernel
theorem dL_way_43 : decode cL_way 43 = .ok (.aload_n 1, 1) := by decide +kernel
theorem dL_way_44 : decode cL_way 44 = .ok (.bipush 8, 2) := by decide +kernel
theorem dL_way_46 : decode cL_way 46 = .ok (.iload 4, 2) := by decide +kernel
theorem dL_way_48 : decode cL_way 48 = .ok (.imul, 1) := by decide +kernel
theorem dL_way_49 : decode cL_way 49 = .ok (.iload 14, 2) := by decide +kernel
theorem dL_way_51 : decode cL_way 51 = .ok (.iadd, 1) := by decide +kernel
theorem dL_way_52 : decode cL_way 52 = .ok (.iaload, 1) := by decide +kernel
theorem dL_way_53 : decode cL_way 53 = .ok (.ifCond .lt 373, 3) := by decide +kernel
theorem dL_way_56 : decode cL_way 56 = .ok (.aload_n 1, 1) := by decide +kernel
theorem dL_way_57 : decode cL_way 57 = .ok (.bipush 8, 2) := by decide +kernel
theorem dL_way_59 : decode cL_way 59 = .ok (.iload 4, 2) := by decide +kernel
theorem dL_way_61 : decode cL_way 61 = .ok (.imul, 1) := by decide +kernel
theorem dL_way_62 : decode cL_way 62 = .ok (.iload 14, 2) := by decide +kernel
theorem dL_way_64 : decode cL_way 64 = .ok (.iadd, 1) := by decide +kernel
theorem dL_way_65 : decode cL_way 65 = .ok (.iaload, 1) := by decide +kernel
theorem dL_way_66 : decode cL_way 66 = .ok (.istore 15, 2) := by decide +kernel
theorem dL_way_68 : decode cL_way 68 = .ok (.iinc 7 1, 3) := by decide +kernel
theorem dL_way_71 : decode cL_way 71 = .ok (.aload_n 0, 1) := by decide +kernel
theorem dL_way_72 : decode cL_way 72 = .ok (.iload 15, 2) := by decide +kernel
theorem dL_way_74 : decode cL_way 74 = .ok (.iconst 3, 1) := by decide +kernel
theorem dL_way_75 : decode cL_way 75 = .ok (.invokevirtual 15, 3) := by decide +kernel
theorem dL_way_78 : decode cL_way 78 = .ok (.ifCond .ne 6, 3) := by decide +kernel
theorem dL_way_81 : decode cL_way 81 = .ok (.goto 339, 3) := by decide +kernel
theorem dL_way_84 : decode cL_way 84 = .ok (.aload_n 0, 1) := by decide +kernel
theorem dL_way_85 : decode cL_way 85 = .ok (.iload 15, 2) := by decide +kernel
theorem dL_way_87 : decode cL_way 87 = .ok (.iconst 0, 1) := by decide +kernel
theorem dL_way_88 : decode cL_way 88 = .ok (.invokevirtual 15, 3) := by decide +kernel
theorem dL_way_91 : decode cL_way 91 = .ok (.iload 8, 2) := by decide +kernel
theorem dL_way_93 : decode cL_way 93 = .ok (.isub, 1) := by decide +kernel
theorem dL_way_94 : decode cL_way 94 = .ok (.invokestatic 18, 3) := by decide +kernel
theorem dL_way_97 : decode cL_way 97 = .ok (.aload_n 0, 1) := by decide +kernel
theorem dL_way_98 : decode cL_way 98 = .ok (.iload 15, 2) := by decide +kernel
theorem dL_way_100 : decode cL_way 100 = .ok (.iconst 1, 1) := by decide +kernel
theorem dL_way_101 : decode cL_way 101 = .ok (.invokevirtual 15, 3) := by decide +kernel
theorem dL_way_104 : decode cL_way 104 = .ok (.iload 9, 2) := by decide +kernel
theorem dL_way_106 : decode cL_way 106 = .ok (.isub, 1) := by decide +kernel
theorem dL_way_107 : decode cL_way 107 = .ok (.invokestatic 18, 3) := by decide +kernel
theorem dL_way_110 : decode cL_way 110 = .ok (.iadd, 1) := by decide +kernel
theorem dL_way_111 : decode cL_way 111 = .ok (.iload 13, 2) := by decide +kernel
theorem dL_way_113 : decode cL_way 113 = .ok (.ifCond .eq 11, 3) := by decide +kernel
theorem dL_way_116 : decode cL_way 116 = .ok (.aload_n 0, 1) := by decide +kernel
theorem dL_way_117 : decode cL_way 117 = .ok (.iconst 2, 1) := by decide +kernel
theorem dL_way_118 : decode cL_way 118 = .ok (.invokevirtual 24, 3) := by decide +kernel
theorem dL_way_121 : decode cL_way 121 = .ok (.goto 4, 3) := by decide +kernel
theorem dL_way_124 : decode cL_way 124 = .ok (.iconst 1, 1) := by decide +kernel
theorem dL_way_125 : decode cL_way 125 = .ok (.imul, 1) := by decide +kernel
theorem dL_way_126 : decode cL_way 126 = .ok (.istore 16, 2) := by decide +kernel
theorem dL_way_128 : decode cL_way 128 = .ok (.aload_n 0, 1) := by decide +kernel
theorem dL_way_129 : decode cL_way 129 = .ok (.iload 15, 2) := by decide +kernel
theorem dL_way_131 : decode cL_way 131 = .ok (.iconst 2, 1) := by decide +kernel
theorem dL_way_132 : decode cL_way 132 = .ok (.invokevirtual 15, 3) := by decide +kernel
theorem dL_way_135 : decode cL_way 135 = .ok (.istore 17, 2) := by decide +kernel
theorem dL_way_137 : decode cL_way 137 = .ok (.aload_n 2, 1) := by decide +kernel
theorem dL_way_138 : decode cL_way 138 = .ok (.iload 4, 2) := by decide +kernel
theorem dL_way_140 : decode cL_way 140 = .ok (.iaload, 1) := by decide +kernel
theorem dL_way_141 : decode cL_way 141 = .ok (.iload 15, 2) := by decide +kernel
theorem dL_way_143 : decode cL_way 143 = .ok (.ishr, 1) := by decide +kernel
theorem dL_way_144 : decode cL_way 144 = .ok (.iconst 1, 1) := by decide +kernel
theorem dL_way_145 : decode cL_way 145 = .ok (.iand, 1) := by decide +kernel
theorem dL_way_146 : decode cL_way 146 = .ok (.iconst 1, 1) := by decide +kernel
theorem dL_way_147 : decode cL_way 147 = .ok (.if_icmp .ne 7, 3) := by decide +kernel
theorem dL_way_150 : decode cL_way 150 = .ok (.iconst 1, 1) := by decide +kernel
theorem dL_way_151 : decode cL_way 151 = .ok (.goto 4, 3) := by decide +kernel
theorem dL_way_154 : decode cL_way 154 = .ok (.iconst 0, 1) := by decide +kernel
theorem dL_way_155 : decode cL_way 155 = .ok (.istore 18, 2) := by decide +kernel
theorem dL_way_157 : decode cL_way 157 = .ok (.aload_n 0, 1) := by decide +kernel
theorem dL_way_158 : decode cL_way 158 = .ok (.iload 4, 2) := by decide +kernel
theorem dL_way_160 : decode cL_way 160 = .ok (.iload 6, 2) := by decide +kernel
theorem dL_way_162 : decode cL_way 162 = .ok (.iconst 1, 1) := by decide +kernel
theorem dL_way_163 : decode cL_way 163 = .ok (.invokevirtual 27, 3) := by decide +kernel
theorem dL_way_166 : decode cL_way 166 = .ok (.istore 19, 2) := by decide +kernel
theorem dL_way_168 : decode cL_way 168 = .ok (.aload_n 0, 1) := by decide +kernel
theorem dL_way_169 : decode cL_way 169 = .ok (.iload 4, 2) := by decide +kernel
theorem dL_way_171 : decode cL_way 171 = .ok (.iload 6, 2) := by decide +kernel
theorem dL_way_173 : decode cL_way 173 = .ok (.iconst 2, 1) := by decide +kernel
theorem dL_way_174 : decode cL_way 174 = .ok (.invokevirtual 27, 3) := by decide +kernel
theorem dL_way_177 : decode cL_way 177 = .ok (.istore 20, 2) := by decide +kernel
theorem dL_way_179 : decode cL_way 179 = .ok (.aload_n 0, 1) := by decide +kernel
theorem dL_way_180 : decode cL_way 180 = .ok (.iload 4, 2) := by decide +kernel
theorem dL_way_182 : decode cL_way 182 = .ok (.iload 6, 2) := by decide +kernel
theorem dL_way_184 : decode cL_way 184 = .ok (.iconst 3, 1) := by decide +kernel
theorem dL_way_185 : decode cL_way 185 = .ok (.invokevirtual 27, 3) := by decide +kernel
theorem dL_way_188 : decode cL_way 188 = .ok (.istore 21, 2) := by decide +kernel
theorem dL_way_190 : decode cL_way 190 = .ok (.aload_n 0, 1) := by decide +kernel
theorem dL_way_191 : decode cL_way 191 = .ok (.iload 4, 2) := by decide +kernel
theorem dL_way_193 : decode cL_way 193 = .ok (.iload 6, 2) := by decide +kernel
theorem dL_way_195 : decode cL_way 195 = .ok (.iconst 0, 1) := by decide +kernel
theorem dL_way_196 : decode cL_way 196 = .ok (.invokevirtual 27, 3) := by decide +kernel
theorem dL_way_199 : decode cL_way 199 = .ok (.iload 15, 2) := by decide +kernel
theorem dL_way_201 : decode cL_way 201 = .ok (.if_icmp .ne 61, 3) := by decide +kernel
theorem dL_way_204 : decode cL_way 204 = .ok (.aload_n 0, 1) := by decide +kernel
theorem dL_way_205 : decode cL_way 205 = .ok (.iload 4, 2) := by decide +kernel
theorem dL_way_207 : decode cL_way 207 = .ok (.iload 6, 2) := by decide +kernel
theorem dL_way_209 : decode cL_way 209 = .ok (.iconst 4, 1) := by decide +kernel
theorem dL_way_210 : decode cL_way 210 = .ok (.invokevirtual 27, 3) := by decide +kernel
theorem dL_way_213 : decode cL_way 213 = .ok (.iload 16, 2) := by decide +kernel
theorem dL_way_215 : decode cL_way 215 = .ok (.if_icmp .ne 47, 3) := by decide +kernel
theorem dL_way_218 : decode cL_way 218 = .ok (.iload 19, 2) := by decide +kernel
theorem dL_way_220 : decode cL_way 220 = .ok (.iload 5, 2) := by decide +kernel
theorem dL_way_222 : decode cL_way 222 = .ok (.iload 16, 2) := by decide +kernel
theorem dL_way_224 : decode cL_way 224 = .ok (.iadd, 1) := by decide +kernel
theorem dL_way_225 : decode cL_way 225 = .ok (.if_icmp .ne 37, 3) := by decide +kernel
theorem dL_way_228 : decode cL_way 228 = .ok (.iload 20, 2) := by decide +kernel
theorem dL_way_230 : decode cL_way 230 = .ok (.iload 19, 2) := by decide +kernel
theorem dL_way_232 : decode cL_way 232 = .ok (.if_icmp .lt 30, 3) := by decide +kernel
theorem dL_way_235 : decode cL_way 235 = .ok (.iload 21, 2) := by decide +kernel
theorem dL_way_237 : decode cL_way 237 = .ok (.iload 20, 2) := by decide +kernel
theorem dL_way_239 : decode cL_way 239 = .ok (.iload 18, 2) := by decide +kernel
theorem dL_way_241 : decode cL_way 241 = .ok (.ifCond .eq 15, 3) := by decide +kernel
theorem dL_way_244 : decode cL_way 244 = .ok (.iload 17, 2) := by decide +kernel
theorem dL_way_246 : decode cL_way 246 = .ok (.iconst 2, 1) := by decide +kernel
theorem dL_way_247 : decode cL_way 247 = .ok (.idiv, 1) := by decide +kernel
theorem dL_way_248 : decode cL_way 248 = .ok (.iload 17, 2) := by decide +kernel
theorem dL_way_250 : decode cL_way 250 = .ok (.iconst 2, 1) := by decide +kernel
theorem dL_way_251 : decode cL_way 251 = .ok (.irem, 1) := by decide +kernel
theorem dL_way_252 : decode cL_way 252 = .ok (.iadd, 1) := by decide +kernel
theorem dL_way_253 : decode cL_way 253 = .ok (.goto 5, 3) := by decide +kernel
theorem dL_way_256 : decode cL_way 256 = .ok (.iload 17, 2) := by decide +kernel
theorem dL_way_258 : decode cL_way 258 = .ok (.iadd, 1) := by decide +kernel
theorem dL_way_259 : decode cL_way 259 = .ok (.if_icmp .eq 5, 3) := by decide +kernel
theorem dL_way_262 : decode cL_way 262 = .ok (.iconst 0, 1) := by decide +kernel
theorem dL_way_263 : decode cL_way 263 = .ok (.ireturn, 1) := by decide +kernel
theorem dL_way_264 : decode cL_way 264 = .ok (.aload_n 0, 1) := by decide +kernel
theorem dL_way_265 : decode cL_way 265 = .ok (.iload 4, 2) := by decide +kernel
theorem dL_way_267 : decode cL_way 267 = .ok (.iload 5, 2) := by decide +kernel
theorem dL_way_269 : decode cL_way 269 = .ok (.invokevirtual 31, 3) := by decide +kernel
theorem dL_way_272 : decode cL_way 272 = .ok (.iload 15, 2) := by decide +kernel
theorem dL_way_274 : decode cL_way 274 = .ok (.if_icmp .ne 66, 3) := by decide +kernel
theorem dL_way_277 : decode cL_way 277 = .ok (.aload_n 0, 1) := by decide +kernel
theorem dL_way_278 : decode cL_way 278 = .ok (.iload 4, 2) := by decide +kernel
theorem dL_way_280 : decode cL_way 280 = .ok (.iload 19, 2) := by decide +kernel
theorem dL_way_282 : decode cL_way 282 = .ok (.invokevirtual 34, 3) := by decide +kernel
theorem dL_way_285 : decode cL_way 285 = .ok (.iload 15, 2) := by decide +kernel
theorem dL_way_287 : decode cL_way 287 = .ok (.if_icmp .ne 53, 3) := by decide +kernel
theorem dL_way_290 : decode cL_way 290 = .ok (.aload_n 0, 1) := by decide +kernel
theorem dL_way_291 : decode cL_way 291 = .ok (.iload 4, 2) := by decide +kernel
theorem dL_way_293 : decode cL_way 293 = .ok (.iload 21, 2) := by decide +kernel
theorem dL_way_295 : decode cL_way 295 = .ok (.iconst 1, 1) := by decide +kernel
theorem dL_way_296 : decode cL_way 296 = .ok (.isub, 1) := by decide +kernel
theorem dL_way_297 : decode cL_way 297 = .ok (.invokevirtual 34, 3) := by decide +kernel
theorem dL_way_300 : decode cL_way 300 = .ok (.iload 15, 2) := by decide +kernel
theorem dL_way_302 : decode cL_way 302 = .ok (.if_icmp .ne 38, 3) := by decide +kernel
theorem dL_way_305 : decode cL_way 305 = .ok (.aload_n 0, 1) := by decide +kernel
theorem dL_way_306 : decode cL_way 306 = .ok (.iload 4, 2) := by decide +kernel
theorem dL_way_308 : decode cL_way 308 = .ok (.iload 21, 2) := by decide +kernel
theorem dL_way_310 : decode cL_way 310 = .ok (.iconst 1, 1) := by decide +kernel
theorem dL_way_311 : decode cL_way 311 = .ok (.isub, 1) := by decide +kernel
theorem dL_way_312 : decode cL_way 312 = .ok (.invokevirtual 31, 3) := by decide +kernel
theorem dL_way_315 : decode cL_way 315 = .ok (.iload 15, 2) := by decide +kernel
theorem dL_way_317 : decode cL_way 317 = .ok (.if_icmp .ne 23, 3) := by decide +kernel
theorem dL_way_320 : decode cL_way 320 = .ok (.iload 16, 2) := by decide +kernel
theorem dL_way_322 : decode cL_way 322 = .ok (.ifCond .le 20, 3) := by decide +kernel
theorem dL_way_325 : decode cL_way 325 = .ok (.aload_n 0, 1) := by decide +kernel
theorem dL_way_326 : decode cL_way 326 = .ok (.iload 4, 2) := by decide +kernel
theorem dL_way_328 : decode cL_way 328 = .ok (.iload 19, 2) := by decide +kernel
theorem dL_way_330 : decode cL_way 330 = .ok (.iconst 1, 1) := by decide +kernel
theorem dL_way_331 : decode cL_way 331 = .ok (.isub, 1) := by decide +kernel
theorem dL_way_332 : decode cL_way 332 = .ok (.invokevirtual 34, 3) := by decide +kernel
theorem dL_way_335 : decode cL_way 335 = .ok (.ldc 37, 2) := by decide +kernel
theorem dL_way_337 : decode cL_way 337 = .ok (.if_icmp .eq 5, 3) := by decide +kernel
theorem dL_way_340 : decode cL_way 340 = .ok (.iconst 0, 1) := by decide +kernel
theorem dL_way_341 : decode cL_way 341 = .ok (.ireturn, 1) := by decide +kernel
theorem dL_way_342 : decode cL_way 342 = .ok (.iload 13, 2) := by decide +kernel
theorem dL_way_344 : decode cL_way 344 = .ok (.ifCond .ne 12, 3) := by decide +kernel
theorem dL_way_347 : decode cL_way 347 = .ok (.aload_n 3, 1) := by decide +kernel
theorem dL_way_348 : decode cL_way 348 = .ok (.iload 4, 2) := by decide +kernel
theorem dL_way_350 : decode cL_way 350 = .ok (.iaload, 1) := by decide +kernel
theorem dL_way_351 : decode cL_way 351 = .ok (.iload 15, 2) := by decide +kernel
theorem dL_way_353 : decode cL_way 353 = .ok (.if_icmp .ne 7, 3) := by decide +kernel
theorem dL_way_356 : decode cL_way 356 = .ok (.iconst 1, 1) := by decide +kernel
theorem dL_way_357 : decode cL_way 357 = .ok (.goto 4, 3) := by decide +kernel
theorem dL_way_360 : decode cL_way 360 = .ok (.iconst 0, 1) := by decide +kernel
theorem dL_way_361 : decode cL_way 361 = .ok (.istore 13, 2) := by decide +kernel
theorem dL_way_363 : decode cL_way 363 = .ok (.iload 10, 2) := by decide +kernel
theorem dL_way_365 : decode cL_way 365 = .ok (.iload 16, 2) := by decide +kernel
theorem dL_way_367 : decode cL_way 367 = .ok (.iadd, 1) := by decide +kernel
theorem dL_way_368 : decode cL_way 368 = .ok (.istore 10, 2) := by decide +kernel
theorem dL_way_370 : decode cL_way 370 = .ok (.iload 11, 2) := by decide +kernel
theorem dL_way_372 : decode cL_way 372 = .ok (.iload 20, 2) := by decide +kernel
theorem dL_way_374 : decode cL_way 374 = .ok (.iload 19, 2) := by decide +kernel
theorem dL_way_376 : decode cL_way 376 = .ok (.isub, 1) := by decide +kernel
theorem dL_way_377 : decode cL_way 377 = .ok (.iadd, 1) := by decide +kernel
theorem dL_way_378 : decode cL_way 378 = .ok (.istore 11, 2) := by decide +kernel
theorem dL_way_380 : decode cL_way 380 = .ok (.iload 12, 2) := by decide +kernel
theorem dL_way_382 : decode cL_way 382 = .ok (.iload 18, 2) := by decide +kernel
theorem dL_way_384 : decode cL_way 384 = .ok (.ifCond .eq 7, 3) := by decide +kernel
theorem dL_way_387 : decode cL_way 387 = .ok (.iconst 1, 1) := by decide +kernel
theorem dL_way_388 : decode cL_way 388 = .ok (.goto 4, 3) := by decide +kernel
theorem dL_way_391 : decode cL_way 391 = .ok (.iconst 0, 1) := by decide +kernel
theorem dL_way_392 : decode cL_way 392 = .ok (.iadd, 1) := by decide +kernel
theorem dL_way_393 : decode cL_way 393 = .ok (.istore 12, 2) := by decide +kernel
theorem dL_way_395 : decode cL_way 395 = .ok (.iload 21, 2) := by decide +kernel
theorem dL_way_397 : decode cL_way 397 = .ok (.istore 5, 2) := by decide +kernel
theorem dL_way_399 : decode cL_way 399 = .ok (.aload_n 0, 1) := by decide +kernel
theorem dL_way_400 : decode cL_way 400 = .ok (.iload 15, 2) := by decide +kernel
theorem dL_way_402 : decode cL_way 402 = .ok (.iconst 0, 1) := by decide +kernel
theorem dL_way_403 : decode cL_way 403 = .ok (.invokevirtual 15, 3) := by decide +kernel
theorem dL_way_406 : decode cL_way 406 = .ok (.istore 8, 2) := by decide +kernel
theorem dL_way_408 : decode cL_way 408 = .ok (.aload_n 0, 1) := by decide +kernel
theorem dL_way_409 : decode cL_way 409 = .ok (.iload 15, 2) := by decide +kernel
theorem dL_way_411 : decode cL_way 411 = .ok (.iconst 1, 1) := by decide +kernel
theorem dL_way_412 : decode cL_way 412 = .ok (.invokevirtual 15, 3) := by decide +kernel
theorem dL_way_415 : decode cL_way 415 = .ok (.istore 9, 2) := by decide +kernel
theorem dL_way_417 : decode cL_way 417 = .ok (.iinc 6 1, 3) := by decide +kernel
theorem dL_way_420 : decode cL_way 420 = .ok (.iinc 14 1, 3) := by decide +kernel
theorem dL_way_423 : decode cL_way 423 = .ok (.goto (-387), 3) := by decide +kernel
theorem dL_way_426 : decode cL_way 426 = .ok (.aload_n 0, 1) := by decide +kernel
theorem dL_way_427 : decode cL_way 427 = .ok (.iconst 1, 1) := by decide +kernel
theorem dL_way_428 : decode cL_way 428 = .ok (.invokevirtual 24, 3) := by decide +kernel
theorem dL_way_431 : decode cL_way 431 = .ok (.iload 6, 2) := by decide +kernel
theorem dL_way_433 : decode cL_way 433 = .ok (.imul, 1) := by decide +kernel
theorem dL_way_434 : decode cL_way 434 = .ok (.aload_n 0, 1) := by decide +kernel
theorem dL_way_435 : decode cL_way 435 = .ok (.iconst 0, 1) := by decide +kernel
theorem dL_way_436 : decode cL_way 436 = .ok (.invokevirtual 24, 3) := by decide +kernel
theorem dL_way_439 : decode cL_way 439 = .ok (.iload 12, 2) := by decide +kernel
theorem dL_way_441 : decode cL_way 441 = .ok (.imul, 1) := by decide +kernel
theorem dL_way_442 : decode cL_way 442 = .ok (.isub, 1) := by decide +kernel
theorem dL_way_443 : decode cL_way 443 = .ok (.iload 5, 2) := by decide +kernel
theorem dL_way_445 : decode cL_way 445 = .ok (.isub, 1) := by decide +kernel
theorem dL_way_446 : decode cL_way 446 = .ok (.istore 14, 2) := by decide +kernel
theorem dL_way_448 : decode cL_way 448 = .ok (.aload_n 0, 1) := by decide +kernel
theorem dL_way_449 : decode cL_way 449 = .ok (.iload 4, 2) := by decide +kernel
theorem dL_way_451 : decode cL_way 451 = .ok (.iconst 1, 1) := by decide +kernel
theorem dL_way_452 : decode cL_way 452 = .ok (.invokevirtual 9, 3) := by decide +kernel
theorem dL_way_455 : decode cL_way 455 = .ok (.iload 5, 2) := by decide +kernel
theorem dL_way_457 : decode cL_way 457 = .ok (.if_icmp .ne 81, 3) := by decide +kernel
theorem dL_way_460 : decode cL_way 460 = .ok (.aload_n 0, 1) := by decide +kernel
theorem dL_way_461 : decode cL_way 461 = .ok (.iload 4, 2) := by decide +kernel
theorem dL_way_463 : decode cL_way 463 = .ok (.iconst 2, 1) := by decide +kernel
theorem dL_way_464 : decode cL_way 464 = .ok (.invokevirtual 9, 3) := by decide +kernel
theorem dL_way_467 : decode cL_way 467 = .ok (.iload 7, 2) := by decide +kernel
theorem dL_way_469 : decode cL_way 469 = .ok (.if_icmp .ne 69, 3) := by decide +kernel
theorem dL_way_472 : decode cL_way 472 = .ok (.aload_n 0, 1) := by decide +kernel
theorem dL_way_473 : decode cL_way 473 = .ok (.iload 4, 2) := by decide +kernel
theorem dL_way_475 : decode cL_way 475 = .ok (.iconst 3, 1) := by decide +kernel
theorem dL_way_476 : decode cL_way 476 = .ok (.invokevirtual 9, 3) := by decide +kernel
theorem dL_way_479 : decode cL_way 479 = .ok (.iload 6, 2) := by decide +kernel
theorem dL_way_481 : decode cL_way 481 = .ok (.if_icmp .ne 57, 3) := by decide +kernel
theorem dL_way_484 : decode cL_way 484 = .ok (.aload_n 0, 1) := by decide +kernel
theorem dL_way_485 : decode cL_way 485 = .ok (.iload 4, 2) := by decide +kernel
theorem dL_way_487 : decode cL_way 487 = .ok (.iconst 4, 1) := by decide +kernel
theorem dL_way_488 : decode cL_way 488 = .ok (.invokevirtual 9, 3) := by decide +kernel
theorem dL_way_491 : decode cL_way 491 = .ok (.iload 11, 2) := by decide +kernel
theorem dL_way_493 : decode cL_way 493 = .ok (.if_icmp .ne 45, 3) := by decide +kernel
theorem dL_way_496 : decode cL_way 496 = .ok (.aload_n 0, 1) := by decide +kernel
theorem dL_way_497 : decode cL_way 497 = .ok (.iload 4, 2) := by decide +kernel
theorem dL_way_499 : decode cL_way 499 = .ok (.iconst 5, 1) := by decide +kernel
theorem dL_way_500 : decode cL_way 500 = .ok (.invokevirtual 9, 3) := by decide +kernel
theorem dL_way_503 : decode cL_way 503 = .ok (.iload 10, 2) := by decide +kernel
theorem dL_way_505 : decode cL_way 505 = .ok (.if_icmp .ne 33, 3) := by decide +kernel
theorem dL_way_508 : decode cL_way 508 = .ok (.aload_n 0, 1) := by decide +kernel
theorem dL_way_509 : decode cL_way 509 = .ok (.iload 4, 2) := by decide +kernel
theorem dL_way_511 : decode cL_way 511 = .ok (.bipush 6, 2) := by decide +kernel
theorem dL_way_513 : decode cL_way 513 = .ok (.invokevirtual 9, 3) := by decide +kernel
theorem dL_way_516 : decode cL_way 516 = .ok (.iload 14, 2) := by decide +kernel
theorem dL_way_518 : decode cL_way 518 = .ok (.if_icmp .ne 20, 3) := by decide +kernel
theorem dL_way_521 : decode cL_way 521 = .ok (.aload_n 0, 1) := by decide +kernel
theorem dL_way_522 : decode cL_way 522 = .ok (.iload 4, 2) := by decide +kernel
theorem dL_way_524 : decode cL_way 524 = .ok (.bipush 8, 2) := by decide +kernel
theorem dL_way_526 : decode cL_way 526 = .ok (.invokevirtual 9, 3) := by decide +kernel
theorem dL_way_529 : decode cL_way 529 = .ok (.iload 12, 2) := by decide +kernel
theorem dL_way_531 : decode cL_way 531 = .ok (.if_icmp .ne 7, 3) := by decide +kernel
theorem dL_way_534 : decode cL_way 534 = .ok (.iconst 1, 1) := by decide +kernel
theorem dL_way_535 : decode cL_way 535 = .ok (.goto 4, 3) := by decide +kernel
theorem dL_way_538 : decode cL_way 538 = .ok (.iconst 0, 1) := by decide +kernel
theorem dL_way_539 : decode cL_way 539 = .ok (.istore 15, 2) := by decide +kernel
theorem dL_way_541 : decode cL_way 541 = .ok (.iload 15, 2) := by decide +kernel
theorem dL_way_543 : decode cL_way 543 = .ok (.ifCond .eq 60, 3) := by decide +kernel
theorem dL_way_546 : decode cL_way 546 = .ok (.aload_n 0, 1) := by decide +kernel
theorem dL_way_547 : decode cL_way 547 = .ok (.iload 4, 2) := by decide +kernel
theorem dL_way_549 : decode cL_way 549 = .ok (.iload 6, 2) := by decide +kernel
theorem dL_way_551 : decode cL_way 551 = .ok (.iconst 0, 1) := by decide +kernel
theorem dL_way_552 : decode cL_way 552 = .ok (.invokevirtual 27, 3) := by decide +kernel
theorem dL_way_555 : decode cL_way 555 = .ok (.ldc 37, 2) := by decide +kernel
theorem dL_way_557 : decode cL_way 557 = .ok (.if_icmp .ne 46, 3) := by decide +kernel
theorem dL_way_560 : decode cL_way 560 = .ok (.aload_n 0, 1) := by decide +kernel
theorem dL_way_561 : decode cL_way 561 = .ok (.iload 4, 2) := by decide +kernel
theorem dL_way_563 : decode cL_way 563 = .ok (.iconst (-1), 1) := by decide +kernel
theorem dL_way_564 : decode cL_way 564 = .ok (.iconst 0, 1) := by decide +kernel
theorem dL_way_565 : decode cL_way 565 = .ok (.invokevirtual 27, 3) := by decide +kernel
theorem dL_way_568 : decode cL_way 568 = .ok (.ldc 37, 2) := by decide +kernel
theorem dL_way_570 : decode cL_way 570 = .ok (.if_icmp .ne 33, 3) := by decide +kernel
theorem dL_way_573 : decode cL_way 573 = .ok (.aload_n 0, 1) := by decide +kernel
theorem dL_way_574 : decode cL_way 574 = .ok (.iload 4, 2) := by decide +kernel
theorem dL_way_576 : decode cL_way 576 = .ok (.iload 5, 2) := by decide +kernel
theorem dL_way_578 : decode cL_way 578 = .ok (.invokevirtual 31, 3) := by decide +kernel
theorem dL_way_581 : decode cL_way 581 = .ok (.ldc 37, 2) := by decide +kernel
theorem dL_way_583 : decode cL_way 583 = .ok (.if_icmp .ne 20, 3) := by decide +kernel
theorem dL_way_586 : decode cL_way 586 = .ok (.aload_n 0, 1) := by decide +kernel
theorem dL_way_587 : decode cL_way 587 = .ok (.iload 4, 2) := by decide +kernel
theorem dL_way_589 : decode cL_way 589 = .ok (.iload 5, 2) := by decide +kernel
theorem dL_way_591 : decode cL_way 591 = .ok (.invokevirtual 34, 3) := by decide +kernel
theorem dL_way_594 : decode cL_way 594 = .ok (.ldc 37, 2) := by decide +kernel
theorem dL_way_596 : decode cL_way 596 = .ok (.if_icmp .ne 7, 3) := by decide +kernel
theorem dL_way_599 : decode cL_way 599 = .ok (.iconst 1, 1) := by decide +kernel
theorem dL_way_600 : decode cL_way 600 = .ok (.goto 4, 3) := by decide +kernel
theorem dL_way_603 : decode cL_way 603 = .ok (.iconst 0, 1) := by decide +kernel
theorem dL_way_604 : decode cL_way 604 = .ok (.ireturn, 1) := by decide +kernel
theorem dL_visit_0 : decode cL_visit 0 = .ok (.iconst 0, 1) := by decide +kernel
theorem dL_visit_1 : decode cL_visit 1 = .ok (.istore_n 3, 1) := by decide +kernel
theorem dL_visit_2 : decode cL_visit 2 = .ok (.iload_n 3, 1) := by decide +kernel
theorem dL_visit_3 : decode cL_visit 3 = .ok (.aload_n 0, 1) := by decide +kernel
theorem dL_visit_4 : decode cL_visit 4 = .ok (.iload_n 1, 1) := by decide +kernel
theorem dL_visit_5 : decode cL_visit 5 = .ok (.iconst 3, 1) := by decide +kernel
theorem dL_visit_6 : decode cL_visit 6 = .ok (.invokevirtual 9, 3) := by decide +kernel
theorem dL_visit_9 : decode cL_visit 9 = .ok (.if_icmp .ge 22, 3) := by decide +kernel
theorem dL_visit_12 : decode cL_visit 12 = .ok (.aload_n 0, 1) := by decide +kernel
theorem dL_visit_13 : decode cL_visit 13 = .ok (.iload_n 1, 1) := by decide +kernel
theorem dL_visit_14 : decode cL_visit 14 = .ok (.iload_n 3, 1) := by decide +kernel
theorem dL_visit_15 : decode cL_visit 15 = .ok (.iconst 0, 1) := by decide +kernel
theorem dL_visit_16 : decode cL_visit 16 = .ok (.invokevirtual 27, 3) := by decide +kernel
theorem dL_visit_19 : decode cL_visit 19 = .ok (.iload_n 2, 1) := by decide +kernel
theorem dL_visit_20 : decode cL_visit 20 = .ok (.if_icmp .ne 5, 3) := by decide +kernel
theorem dL_visit_23 : decode cL_visit 23 = .ok (.iload_n 3, 1) := by decide +kernel
theorem dL_visit_24 : decode cL_visit 24 = .ok (.ireturn, 1) := by decide +kernel
theorem dL_visit_25 : decode cL_visit 25 = .ok (.iinc 3 1, 3) := by decide +kernel
theorem dL_visit_28 : decode cL_visit 28 = .ok (.goto (-26), 3) := by decide +kernel
theorem dL_visit_31 : decode cL_visit 31 = .ok (.iconst (-1), 1) := by decide +kernel
theorem dL_visit_32 : decode cL_visit 32 = .ok (.ireturn, 1) := by decide +kernel
theorem dL_place_0 : decode cL_place 0 = .ok (.aload_n 0, 1) := by decide +kernel
theorem dL_place_1 : decode cL_place 1 = .ok (.iconst 3, 1) := by decide +kernel
theorem dL_place_2 : decode cL_place 2 = .ok (.invokevirtual 24, 3) := by decide +kernel
theorem dL_place_5 : decode cL_place 5 = .ok (.istore_n 3, 1) := by decide +kernel
theorem dL_place_6 : decode cL_place 6 = .ok (.iconst 0, 1) := by decide +kernel
theorem dL_place_7 : decode cL_place 7 = .ok (.istore 4, 2) := by decide +kernel
theorem dL_place_9 : decode cL_place 9 = .ok (.iconst 0, 1) := by decide +kernel
theorem dL_place_10 : decode cL_place 10 = .ok (.istore 5, 2) := by decide +kernel
theorem dL_place_12 : decode cL_place 12 = .ok (.bipush 6, 2) := by decide +kernel
theorem dL_place_14 : decode cL_place 14 = .ok (.newarray .int, 2) := by decide +kernel
theorem dL_place_16 : decode cL_place 16 = .ok (.astore 6, 2) := by decide +kernel
theorem dL_place_18 : decode cL_place 18 = .ok (.bipush 6, 2) := by decide +kernel
theorem dL_place_20 : decode cL_place 20 = .ok (.newarray .int, 2) := by decide +kernel
theorem dL_place_22 : decode cL_place 22 = .ok (.astore 7, 2) := by decide +kernel
theorem dL_place_24 : decode cL_place 24 = .ok (.iconst 0, 1) := by decide +kernel
theorem dL_place_25 : decode cL_place 25 = .ok (.istore 8, 2) := by decide +kernel
theorem dL_place_27 : decode cL_place 27 = .ok (.iload 8, 2) := by decide +kernel
theorem dL_place_29 : decode cL_place 29 = .ok (.iload_n 3, 1) := by decide +kernel
theorem dL_place_30 : decode cL_place 30 = .ok (.if_icmp .ge 82, 3) := by decide +kernel
theorem dL_place_33 : decode cL_place 33 = .ok (.aload_n 0, 1) := by decide +kernel
theorem dL_place_34 : decode cL_place 34 = .ok (.iload 8, 2) := by decide +kernel
theorem dL_place_36 : decode cL_place 36 = .ok (.iload_n 2, 1) := by decide +kernel
theorem dL_place_37 : decode cL_place 37 = .ok (.invokestatic 38, 3) := by decide +kernel
theorem dL_place_40 : decode cL_place 40 = .ok (.istore 9, 2) := by decide +kernel
theorem dL_place_42 : decode cL_place 42 = .ok (.iload 4, 2) := by decide +kernel
theorem dL_place_44 : decode cL_place 44 = .ok (.iload 9, 2) := by decide +kernel
theorem dL_place_46 : decode cL_place 46 = .ok (.ifCond .lt 10, 3) := by decide +kernel
theorem dL_place_49 : decode cL_place 49 = .ok (.iconst 1, 1) := by decide +kernel
theorem dL_place_50 : decode cL_place 50 = .ok (.iload 8, 2) := by decide +kernel
theorem dL_place_52 : decode cL_place 52 = .ok (.ishl, 1) := by decide +kernel
theorem dL_place_53 : decode cL_place 53 = .ok (.goto 4, 3) := by decide +kernel
theorem dL_place_56 : decode cL_place 56 = .ok (.iconst 0, 1) := by decide +kernel
theorem dL_place_57 : decode cL_place 57 = .ok (.ior, 1) := by decide +kernel
theorem dL_place_58 : decode cL_place 58 = .ok (.istore 4, 2) := by decide +kernel
theorem dL_place_60 : decode cL_place 60 = .ok (.aload 6, 2) := by decide +kernel
theorem dL_place_62 : decode cL_place 62 = .ok (.iload 8, 2) := by decide +kernel
theorem dL_place_64 : decode cL_place 64 = .ok (.iload 9, 2) := by decide +kernel
theorem dL_place_66 : decode cL_place 66 = .ok (.ifCond .ge 7, 3) := by decide +kernel
theorem dL_place_69 : decode cL_place 69 = .ok (.iconst (-1), 1) := by decide +kernel
theorem dL_place_70 : decode cL_place 70 = .ok (.goto 12, 3) := by decide +kernel
theorem dL_place_73 : decode cL_place 73 = .ok (.aload_n 0, 1) := by decide +kernel
theorem dL_place_74 : decode cL_place 74 = .ok (.iload 8, 2) := by decide +kernel
theorem dL_place_76 : decode cL_place 76 = .ok (.iload 9, 2) := by decide +kernel
theorem dL_place_78 : decode cL_place 78 = .ok (.iconst 1, 1) := by decide +kernel
theorem dL_place_79 : decode cL_place 79 = .ok (.invokevirtual 27, 3) := by decide +kernel
theorem dL_place_82 : decode cL_place 82 = .ok (.iastore, 1) := by decide +kernel
theorem dL_place_83 : decode cL_place 83 = .ok (.aload 7, 2) := by decide +kernel
theorem dL_place_85 : decode cL_place 85 = .ok (.iload 8, 2) := by decide +kernel
theorem dL_place_87 : decode cL_place 87 = .ok (.iload 9, 2) := by decide +kernel
theorem dL_place_89 : decode cL_place 89 = .ok (.ifCond .ge 7, 3) := by decide +kernel
theorem dL_place_92 : decode cL_place 92 = .ok (.iconst (-1), 1) := by decide +kernel
theorem dL_place_93 : decode cL_place 93 = .ok (.goto 12, 3) := by decide +kernel
theorem dL_place_96 : decode cL_place 96 = .ok (.aload_n 0, 1) := by decide +kernel
theorem dL_place_97 : decode cL_place 97 = .ok (.iload 8, 2) := by decide +kernel
theorem dL_place_99 : decode cL_place 99 = .ok (.iload 9, 2) := by decide +kernel
theorem dL_place_101 : decode cL_place 101 = .ok (.iconst 3, 1) := by decide +kernel
theorem dL_place_102 : decode cL_place 102 = .ok (.invokevirtual 27, 3) := by decide +kernel
theorem dL_place_105 : decode cL_place 105 = .ok (.iastore, 1) := by decide +kernel
theorem dL_place_106 : decode cL_place 106 = .ok (.iinc 8 1, 3) := by decide +kernel
theorem dL_place_109 : decode cL_place 109 = .ok (.goto (-82), 3) := by decide +kernel
theorem dL_place_112 : decode cL_place 112 = .ok (.iconst 0, 1) := by decide +kernel
theorem dL_place_113 : decode cL_place 113 = .ok (.istore 8, 2) := by decide +kernel
theorem dL_place_115 : decode cL_place 115 = .ok (.iconst 0, 1) := by decide +kernel
theorem dL_place_116 : decode cL_place 116 = .ok (.istore 9, 2) := by decide +kernel
theorem dL_place_118 : decode cL_place 118 = .ok (.iload 4, 2) := by decide +kernel
theorem dL_place_120 : decode cL_place 120 = .ok (.istore 5, 2) := by decide +kernel
theorem dL_place_122 : decode cL_place 122 = .ok (.iload 5, 2) := by decide +kernel
theorem dL_place_124 : decode cL_place 124 = .ok (.ifCond .eq 137, 3) := by decide +kernel
theorem dL_place_127 : decode cL_place 127 = .ok (.iconst (-1), 1) := by decide +kernel
theorem dL_place_128 : decode cL_place 128 = .ok (.istore 10, 2) := by decide +kernel
theorem dL_place_130 : decode cL_place 130 = .ok (.iload_n 3, 1) := by decide +kernel
theorem dL_place_131 : decode cL_place 131 = .ok (.iconst 1, 1) := by decide +kernel
theorem dL_place_132 : decode cL_place 132 = .ok (.isub, 1) := by decide +kernel
theorem dL_place_133 : decode cL_place 133 = .ok (.istore 11, 2) := by decide +kernel
theorem dL_place_135 : decode cL_place 135 = .ok (.iload 11, 2) := by decide +kernel
theorem dL_place_137 : decode cL_place 137 = .ok (.ifCond .lt 47, 3) := by decide +kernel
theorem dL_place_140 : decode cL_place 140 = .ok (.iload 5, 2) := by decide +kernel
theorem dL_place_142 : decode cL_place 142 = .ok (.iload 11, 2) := by decide +kernel
theorem dL_place_144 : decode cL_place 144 = .ok (.ishr, 1) := by decide +kernel
theorem dL_place_145 : decode cL_place 145 = .ok (.iconst 1, 1) := by decide +kernel
theorem dL_place_146 : decode cL_place 146 = .ok (.iand, 1) := by decide +kernel
theorem dL_place_147 : decode cL_place 147 = .ok (.iconst 1, 1) := by decide +kernel
theorem dL_place_148 : decode cL_place 148 = .ok (.if_icmp .ne 26, 3) := by decide +kernel
theorem dL_place_151 : decode cL_place 151 = .ok (.iload 10, 2) := by decide +kernel
theorem dL_place_153 : decode cL_place 153 = .ok (.ifCond .lt 16, 3) := by decide +kernel
theorem dL_place_156 : decode cL_place 156 = .ok (.aload 6, 2) := by decide +kernel
theorem dL_place_158 : decode cL_place 158 = .ok (.iload 11, 2) := by decide +kernel
theorem dL_place_160 : decode cL_place 160 = .ok (.iaload, 1) := by decide +kernel
theorem dL_place_161 : decode cL_place 161 = .ok (.aload 6, 2) := by decide +kernel
theorem dL_place_163 : decode cL_place 163 = .ok (.iload 10, 2) := by decide +kernel
theorem dL_place_165 : decode cL_place 165 = .ok (.iaload, 1) := by decide +kernel
theorem dL_place_166 : decode cL_place 166 = .ok (.if_icmp .gt 8, 3) := by decide +kernel
theorem dL_place_169 : decode cL_place 169 = .ok (.iload 11, 2) := by decide +kernel
theorem dL_place_171 : decode cL_place 171 = .ok (.goto 5, 3) := by decide +kernel
theorem dL_place_174 : decode cL_place 174 = .ok (.iload 10, 2) := by decide +kernel
theorem dL_place_176 : decode cL_place 176 = .ok (.istore 10, 2) := by decide +kernel
theorem dL_place_178 : decode cL_place 178 = .ok (.iinc 11 (-1), 3) := by decide +kernel
theorem dL_place_181 : decode cL_place 181 = .ok (.goto (-46), 3) := by decide +kernel
theorem dL_place_184 : decode cL_place 184 = .ok (.iload 5, 2) := by decide +kernel
theorem dL_place_186 : decode cL_place 186 = .ok (.iconst 1, 1) := by decide +kernel
theorem dL_place_187 : decode cL_place 187 = .ok (.iload 10, 2) := by decide +kernel
theorem dL_place_189 : decode cL_place 189 = .ok (.ishl, 1) := by decide +kernel
theorem dL_place_190 : decode cL_place 190 = .ok (.iconst (-1), 1) := by decide +kernel
theorem dL_place_191 : decode cL_place 191 = .ok (.ixor, 1) := by decide +kernel
theorem dL_place_192 : decode cL_place 192 = .ok (.iand, 1) := by decide +kernel
theorem dL_place_193 : decode cL_place 193 = .ok (.istore 5, 2) := by decide +kernel
theorem dL_place_195 : decode cL_place 195 = .ok (.aload_n 0, 1) := by decide +kernel
theorem dL_place_196 : decode cL_place 196 = .ok (.iload 10, 2) := by decide +kernel
theorem dL_place_198 : decode cL_place 198 = .ok (.aload_n 0, 1) := by decide +kernel
theorem dL_place_199 : decode cL_place 199 = .ok (.iload 10, 2) := by decide +kernel
theorem dL_place_201 : decode cL_place 201 = .ok (.iload_n 2, 1) := by decide +kernel
theorem dL_place_202 : decode cL_place 202 = .ok (.invokestatic 38, 3) := by decide +kernel
theorem dL_place_205 : decode cL_place 205 = .ok (.iconst 2, 1) := by decide +kernel
theorem dL_place_206 : decode cL_place 206 = .ok (.invokevirtual 27, 3) := by decide +kernel
theorem dL_place_209 : decode cL_place 209 = .ok (.istore 11, 2) := by decide +kernel
theorem dL_place_211 : decode cL_place 211 = .ok (.iload 11, 2) := by decide +kernel
theorem dL_place_213 : decode cL_place 213 = .ok (.aload 6, 2) := by decide +kernel
theorem dL_place_215 : decode cL_place 215 = .ok (.iload 10, 2) := by decide +kernel
theorem dL_place_217 : decode cL_place 217 = .ok (.iaload, 1) := by decide +kernel
theorem dL_place_218 : decode cL_place 218 = .ok (.iload 8, 2) := by decide +kernel
theorem dL_place_220 : decode cL_place 220 = .ok (.if_icmp .le 11, 3) := by decide +kernel
theorem dL_place_223 : decode cL_place 223 = .ok (.aload 6, 2) := by decide +kernel
theorem dL_place_225 : decode cL_place 225 = .ok (.iload 10, 2) := by decide +kernel
theorem dL_place_227 : decode cL_place 227 = .ok (.iaload, 1) := by decide +kernel
theorem dL_place_228 : decode cL_place 228 = .ok (.goto 5, 3) := by decide +kernel
theorem dL_place_231 : decode cL_place 231 = .ok (.iload 8, 2) := by decide +kernel
theorem dL_place_233 : decode cL_place 233 = .ok (.if_icmp .eq 5, 3) := by decide +kernel
theorem dL_place_236 : decode cL_place 236 = .ok (.iconst 0, 1) := by decide +kernel
theorem dL_place_237 : decode cL_place 237 = .ok (.ireturn, 1) := by decide +kernel
theorem dL_place_238 : decode cL_place 238 = .ok (.iload 9, 2) := by decide +kernel
theorem dL_place_240 : decode cL_place 240 = .ok (.iload 11, 2) := by decide +kernel
theorem dL_place_242 : decode cL_place 242 = .ok (.aload 6, 2) := by decide +kernel
theorem dL_place_244 : decode cL_place 244 = .ok (.iload 10, 2) := by decide +kernel
theorem dL_place_246 : decode cL_place 246 = .ok (.iaload, 1) := by decide +kernel
theorem dL_place_247 : decode cL_place 247 = .ok (.isub, 1) := by decide +kernel
theorem dL_place_248 : decode cL_place 248 = .ok (.iadd, 1) := by decide +kernel
theorem dL_place_249 : decode cL_place 249 = .ok (.istore 9, 2) := by decide +kernel
theorem dL_place_251 : decode cL_place 251 = .ok (.aload 7, 2) := by decide +kernel
theorem dL_place_253 : decode cL_place 253 = .ok (.iload 10, 2) := by decide +kernel
theorem dL_place_255 : decode cL_place 255 = .ok (.iaload, 1) := by decide +kernel
theorem dL_place_256 : decode cL_place 256 = .ok (.istore 8, 2) := by decide +kernel
theorem dL_place_258 : decode cL_place 258 = .ok (.goto (-136), 3) := by decide +kernel
theorem dL_place_261 : decode cL_place 261 = .ok (.iconst 0, 1) := by decide +kernel
theorem dL_place_262 : decode cL_place 262 = .ok (.istore 10, 2) := by decide +kernel
theorem dL_place_264 : decode cL_place 264 = .ok (.iconst 0, 1) := by decide +kernel
theorem dL_place_265 : decode cL_place 265 = .ok (.istore 11, 2) := by decide +kernel
theorem dL_place_267 : decode cL_place 267 = .ok (.iconst 0, 1) := by decide +kernel
theorem dL_place_268 : decode cL_place 268 = .ok (.istore 12, 2) := by decide +kernel
theorem dL_place_270 : decode cL_place 270 = .ok (.iload 12, 2) := by decide +kernel
theorem dL_place_272 : decode cL_place 272 = .ok (.iload_n 3, 1) := by decide +kernel
theorem dL_place_273 : decode cL_place 273 = .ok (.if_icmp .ge 195, 3) := by decide +kernel
theorem dL_place_276 : decode cL_place 276 = .ok (.iconst 0, 1) := by decide +kernel
theorem dL_place_277 : decode cL_place 277 = .ok (.istore 13, 2) := by decide +kernel
theorem dL_place_279 : decode cL_place 279 = .ok (.iconst 0, 1) := by decide +kernel
theorem dL_place_280 : decode cL_place 280 = .ok (.istore 14, 2) := by decide +kernel
theorem dL_place_282 : decode cL_place 282 = .ok (.iload 14, 2) := by decide +kernel
theorem dL_place_284 : decode cL_place 284 = .ok (.iload_n 3, 1) := by decide +kernel
theorem dL_place_285 : decode cL_place 285 = .ok (.if_icmp .ge 161, 3) := by decide +kernel
theorem dL_place_288 : decode cL_place 288 = .ok (.iload 4, 2) := by decide +kernel
theorem dL_place_290 : decode cL_place 290 = .ok (.iload 12, 2) := by decide +kernel
theorem dL_place_292 : decode cL_place 292 = .ok (.ishr, 1) := by decide +kernel
theorem dL_place_293 : decode cL_place 293 = .ok (.iload 4, 2) := by decide +kernel
theorem dL_place_295 : decode cL_place 295 = .ok (.iload 14, 2) := by decide +kernel
theorem dL_place_297 : decode cL_place 297 = .ok (.ishr, 1) := by decide +kernel
theorem dL_place_298 : decode cL_place 298 = .ok (.iand, 1) := by decide +kernel
theorem dL_place_299 : decode cL_place 299 = .ok (.iconst 1, 1) := by decide +kernel
theorem dL_place_300 : decode cL_place 300 = .ok (.iand, 1) := by decide +kernel
theorem dL_place_301 : decode cL_place 301 = .ok (.iconst 1, 1) := by decide +kernel
theorem dL_place_302 : decode cL_place 302 = .ok (.if_icmp .ne 7, 3) := by decide +kernel
theorem dL_place_305 : decode cL_place 305 = .ok (.iconst 1, 1) := by decide +kernel
theorem dL_place_306 : decode cL_place 306 = .ok (.goto 4, 3) := by decide +kernel
theorem dL_place_309 : decode cL_place 309 = .ok (.iconst 0, 1) := by decide +kernel
theorem dL_place_310 : decode cL_place 310 = .ok (.istore 15, 2) := by decide +kernel
theorem dL_place_312 : decode cL_place 312 = .ok (.iload 15, 2) := by decide +kernel
theorem dL_place_314 : decode cL_place 314 = .ok (.ifCond .eq 40, 3) := by decide +kernel
theorem dL_place_317 : decode cL_place 317 = .ok (.iload 14, 2) := by decide +kernel
theorem dL_place_319 : decode cL_place 319 = .ok (.iload 12, 2) := by decide +kernel
theorem dL_place_321 : decode cL_place 321 = .ok (.if_icmp .eq 33, 3) := by decide +kernel
theorem dL_place_324 : decode cL_place 324 = .ok (.aload 6, 2) := by decide +kernel
theorem dL_place_326 : decode cL_place 326 = .ok (.iload 12, 2) := by decide +kernel
theorem dL_place_328 : decode cL_place 328 = .ok (.iaload, 1) := by decide +kernel
theorem dL_place_329 : decode cL_place 329 = .ok (.aload 7, 2) := by decide +kernel
theorem dL_place_331 : decode cL_place 331 = .ok (.iload 14, 2) := by decide +kernel
theorem dL_place_333 : decode cL_place 333 = .ok (.iaload, 1) := by decide +kernel
theorem dL_place_334 : decode cL_place 334 = .ok (.if_icmp .gt 20, 3) := by decide +kernel
theorem dL_place_337 : decode cL_place 337 = .ok (.aload 6, 2) := by decide +kernel
theorem dL_place_339 : decode cL_place 339 = .ok (.iload 14, 2) := by decide +kernel
theorem dL_place_341 : decode cL_place 341 = .ok (.iaload, 1) := by decide +kernel
theorem dL_place_342 : decode cL_place 342 = .ok (.aload 7, 2) := by decide +kernel
theorem dL_place_344 : decode cL_place 344 = .ok (.iload 12, 2) := by decide +kernel
theorem dL_place_346 : decode cL_place 346 = .ok (.iaload, 1) := by decide +kernel
theorem dL_place_347 : decode cL_place 347 = .ok (.if_icmp .gt 7, 3) := by decide +kernel
theorem dL_place_350 : decode cL_place 350 = .ok (.iconst 1, 1) := by decide +kernel
theorem dL_place_351 : decode cL_place 351 = .ok (.goto 4, 3) := by decide +kernel
theorem dL_place_354 : decode cL_place 354 = .ok (.iconst 0, 1) := by decide +kernel
theorem dL_place_355 : decode cL_place 355 = .ok (.istore 16, 2) := by decide +kernel
theorem dL_place_357 : decode cL_place 357 = .ok (.aload_n 1, 1) := by decide +kernel
theorem dL_place_358 : decode cL_place 358 = .ok (.iload 12, 2) := by decide +kernel
theorem dL_place_360 : decode cL_place 360 = .ok (.dup2, 1) := by decide +kernel
theorem dL_place_361 : decode cL_place 361 = .ok (.iaload, 1) := by decide +kernel
theorem dL_place_362 : decode cL_place 362 = .ok (.iload 16, 2) := by decide +kernel
theorem dL_place_364 : decode cL_place 364 = .ok (.ifCond .eq 10, 3) := by decide +kernel
theorem dL_place_367 : decode cL_place 367 = .ok (.iconst 1, 1) := by decide +kernel
theorem dL_place_368 : decode cL_place 368 = .ok (.iload 14, 2) := by decide +kernel
theorem dL_place_370 : decode cL_place 370 = .ok (.ishl, 1) := by decide +kernel
theorem dL_place_371 : decode cL_place 371 = .ok (.goto 4, 3) := by decide +kernel
theorem dL_place_374 : decode cL_place 374 = .ok (.iconst 0, 1) := by decide +kernel
theorem dL_place_375 : decode cL_place 375 = .ok (.ior, 1) := by decide +kernel
theorem dL_place_376 : decode cL_place 376 = .ok (.iastore, 1) := by decide +kernel
theorem dL_place_377 : decode cL_place 377 = .ok (.iload 10, 2) := by decide +kernel
theorem dL_place_379 : decode cL_place 379 = .ok (.iload 16, 2) := by decide +kernel
theorem dL_place_381 : decode cL_place 381 = .ok (.ifCond .eq 14, 3) := by decide +kernel
theorem dL_place_384 : decode cL_place 384 = .ok (.iload 14, 2) := by decide +kernel
theorem dL_place_386 : decode cL_place 386 = .ok (.iload 12, 2) := by decide +kernel
theorem dL_place_388 : decode cL_place 388 = .ok (.if_icmp .ge 7, 3) := by decide +kernel
theorem dL_place_391 : decode cL_place 391 = .ok (.iconst 1, 1) := by decide +kernel
theorem dL_place_392 : decode cL_place 392 = .ok (.goto 4, 3) := by decide +kernel
theorem dL_place_395 : decode cL_place 395 = .ok (.iconst 0, 1) := by decide +kernel
theorem dL_place_396 : decode cL_place 396 = .ok (.iadd, 1) := by decide +kernel
theorem dL_place_397 : decode cL_place 397 = .ok (.istore 10, 2) := by decide +kernel
theorem dL_place_399 : decode cL_place 399 = .ok (.iload 13, 2) := by decide +kernel
theorem dL_place_401 : decode cL_place 401 = .ok (.iload 15, 2) := by decide +kernel
theorem dL_place_403 : decode cL_place 403 = .ok (.ifCond .eq 33, 3) := by decide +kernel
theorem dL_place_406 : decode cL_place 406 = .ok (.aload 6, 2) := by decide +kernel
theorem dL_place_408 : decode cL_place 408 = .ok (.iload 14, 2) := by decide +kernel
theorem dL_place_410 : decode cL_place 410 = .ok (.iaload, 1) := by decide +kernel
theorem dL_place_411 : decode cL_place 411 = .ok (.aload 6, 2) := by decide +kernel
theorem dL_place_413 : decode cL_place 413 = .ok (.iload 12, 2) := by decide +kernel
theorem dL_place_415 : decode cL_place 415 = .ok (.iaload, 1) := by decide +kernel
theorem dL_place_416 : decode cL_place 416 = .ok (.if_icmp .gt 20, 3) := by decide +kernel
theorem dL_place_419 : decode cL_place 419 = .ok (.aload 6, 2) := by decide +kernel
theorem dL_place_421 : decode cL_place 421 = .ok (.iload 12, 2) := by decide +kernel
theorem dL_place_423 : decode cL_place 423 = .ok (.iaload, 1) := by decide +kernel
theorem dL_place_424 : decode cL_place 424 = .ok (.aload 7, 2) := by decide +kernel
theorem dL_place_426 : decode cL_place 426 = .ok (.iload 14, 2) := by decide +kernel
theorem dL_place_428 : decode cL_place 428 = .ok (.iaload, 1) := by decide +kernel
theorem dL_place_429 : decode cL_place 429 = .ok (.if_icmp .ge 7, 3) := by decide +kernel
theorem dL_place_432 : decode cL_place 432 = .ok (.iconst 1, 1) := by decide +kernel
theorem dL_place_433 : decode cL_place 433 = .ok (.goto 4, 3) := by decide +kernel
theorem dL_place_436 : decode cL_place 436 = .ok (.iconst 0, 1) := by decide +kernel
theorem dL_place_437 : decode cL_place 437 = .ok (.iadd, 1) := by decide +kernel
theorem dL_place_438 : decode cL_place 438 = .ok (.istore 13, 2) := by decide +kernel
theorem dL_place_440 : decode cL_place 440 = .ok (.iinc 14 1, 3) := by decide +kernel
theorem dL_place_443 : decode cL_place 443 = .ok (.goto (-161), 3) := by decide +kernel
theorem dL_place_446 : decode cL_place 446 = .ok (.iload 13, 2) := by decide +kernel
theorem dL_place_448 : decode cL_place 448 = .ok (.iload 11, 2) := by decide +kernel
theorem dL_place_450 : decode cL_place 450 = .ok (.if_icmp .le 8, 3) := by decide +kernel
theorem dL_place_453 : decode cL_place 453 = .ok (.iload 13, 2) := by decide +kernel
theorem dL_place_455 : decode cL_place 455 = .ok (.goto 5, 3) := by decide +kernel
theorem dL_place_458 : decode cL_place 458 = .ok (.iload 11, 2) := by decide +kernel
theorem dL_place_460 : decode cL_place 460 = .ok (.istore 11, 2) := by decide +kernel
theorem dL_place_462 : decode cL_place 462 = .ok (.iinc 12 1, 3) := by decide +kernel
theorem dL_place_465 : decode cL_place 465 = .ok (.goto (-195), 3) := by decide +kernel
theorem dL_place_468 : decode cL_place 468 = .ok (.aload_n 0, 1) := by decide +kernel
theorem dL_place_469 : decode cL_place 469 = .ok (.iload_n 2, 1) := by decide +kernel
theorem dL_place_470 : decode cL_place 470 = .ok (.iconst 4, 1) := by decide +kernel
theorem dL_place_471 : decode cL_place 471 = .ok (.invokevirtual 15, 3) := by decide +kernel
theorem dL_place_474 : decode cL_place 474 = .ok (.iload 4, 2) := by decide +kernel
theorem dL_place_476 : decode cL_place 476 = .ok (.if_icmp .ne 42, 3) := by decide +kernel
theorem dL_place_479 : decode cL_place 479 = .ok (.aload_n 0, 1) := by decide +kernel
theorem dL_place_480 : decode cL_place 480 = .ok (.iload_n 2, 1) := by decide +kernel
theorem dL_place_481 : decode cL_place 481 = .ok (.iconst 5, 1) := by decide +kernel
theorem dL_place_482 : decode cL_place 482 = .ok (.invokevirtual 15, 3) := by decide +kernel
theorem dL_place_485 : decode cL_place 485 = .ok (.iload 9, 2) := by decide +kernel
theorem dL_place_487 : decode cL_place 487 = .ok (.if_icmp .ne 31, 3) := by decide +kernel
theorem dL_place_490 : decode cL_place 490 = .ok (.aload_n 0, 1) := by decide +kernel
theorem dL_place_491 : decode cL_place 491 = .ok (.iload_n 2, 1) := by decide +kernel
theorem dL_place_492 : decode cL_place 492 = .ok (.bipush 6, 2) := by decide +kernel
theorem dL_place_494 : decode cL_place 494 = .ok (.invokevirtual 15, 3) := by decide +kernel
theorem dL_place_497 : decode cL_place 497 = .ok (.iload 11, 2) := by decide +kernel
theorem dL_place_499 : decode cL_place 499 = .ok (.if_icmp .ne 19, 3) := by decide +kernel
theorem dL_place_502 : decode cL_place 502 = .ok (.aload_n 0, 1) := by decide +kernel
theorem dL_place_503 : decode cL_place 503 = .ok (.iload_n 2, 1) := by decide +kernel
theorem dL_place_504 : decode cL_place 504 = .ok (.bipush 7, 2) := by decide +kernel
theorem dL_place_506 : decode cL_place 506 = .ok (.invokevirtual 15, 3) := by decide +kernel
theorem dL_place_509 : decode cL_place 509 = .ok (.iload 10, 2) := by decide +kernel
theorem dL_place_511 : decode cL_place 511 = .ok (.if_icmp .ne 7, 3) := by decide +kernel
theorem dL_place_514 : decode cL_place 514 = .ok (.iconst 1, 1) := by decide +kernel
theorem dL_place_515 : decode cL_place 515 = .ok (.goto 4, 3) := by decide +kernel
theorem dL_place_518 : decode cL_place 518 = .ok (.iconst 0, 1) := by decide +kernel
theorem dL_place_519 : decode cL_place 519 = .ok (.ireturn, 1) := by decide +kernel
theorem dL_game_0 : decode cL_game 0 = .ok (.aload_n 0, 1) := by decide +kernel
theorem dL_game_1 : decode cL_game 1 = .ok (.iconst 3, 1) := by decide +kernel
theorem dL_game_2 : decode cL_game 2 = .ok (.invokevirtual 24, 3) := by decide +kernel
theorem dL_game_5 : decode cL_game 5 = .ok (.istore 4, 2) := by decide +kernel
theorem dL_game_7 : decode cL_game 7 = .ok (.bipush 6, 2) := by decide +kernel
theorem dL_game_9 : decode cL_game 9 = .ok (.newarray .int, 2) := by decide +kernel
theorem dL_game_11 : decode cL_game 11 = .ok (.astore 5, 2) := by decide +kernel
theorem dL_game_13 : decode cL_game 13 = .ok (.iconst 0, 1) := by decide +kernel
theorem dL_game_14 : decode cL_game 14 = .ok (.istore 6, 2) := by decide +kernel
theorem dL_game_16 : decode cL_game 16 = .ok (.iconst 0, 1) := by decide +kernel
theorem dL_game_17 : decode cL_game 17 = .ok (.istore 7, 2) := by decide +kernel
theorem dL_game_19 : decode cL_game 19 = .ok (.iconst 0, 1) := by decide +kernel
theorem dL_game_20 : decode cL_game 20 = .ok (.istore 8, 2) := by decide +kernel
theorem dL_game_22 : decode cL_game 22 = .ok (.iload 8, 2) := by decide +kernel
theorem dL_game_24 : decode cL_game 24 = .ok (.iload 4, 2) := by decide +kernel
theorem dL_game_26 : decode cL_game 26 = .ok (.if_icmp .ge 35, 3) := by decide +kernel
theorem dL_game_29 : decode cL_game 29 = .ok (.aload_n 0, 1) := by decide +kernel
theorem dL_game_30 : decode cL_game 30 = .ok (.aload_n 1, 1) := by decide +kernel
theorem dL_game_31 : decode cL_game 31 = .ok (.aload_n 2, 1) := by decide +kernel
theorem dL_game_32 : decode cL_game 32 = .ok (.aload_n 3, 1) := by decide +kernel
theorem dL_game_33 : decode cL_game 33 = .ok (.iload 8, 2) := by decide +kernel
theorem dL_game_35 : decode cL_game 35 = .ok (.invokestatic 41, 3) := by decide +kernel
theorem dL_game_38 : decode cL_game 38 = .ok (.ifCond .ne 5, 3) := by decide +kernel
theorem dL_game_41 : decode cL_game 41 = .ok (.iconst 0, 1) := by decide +kernel
theorem dL_game_42 : decode cL_game 42 = .ok (.ireturn, 1) := by decide +kernel
theorem dL_game_43 : decode cL_game 43 = .ok (.iload 7, 2) := by decide +kernel
theorem dL_game_45 : decode cL_game 45 = .ok (.aload_n 0, 1) := by decide +kernel
theorem dL_game_46 : decode cL_game 46 = .ok (.iload 8, 2) := by decide +kernel
theorem dL_game_48 : decode cL_game 48 = .ok (.iconst 4, 1) := by decide +kernel
theorem dL_game_49 : decode cL_game 49 = .ok (.invokevirtual 9, 3) := by decide +kernel
theorem dL_game_52 : decode cL_game 52 = .ok (.iadd, 1) := by decide +kernel
theorem dL_game_53 : decode cL_game 53 = .ok (.istore 7, 2) := by decide +kernel
theorem dL_game_55 : decode cL_game 55 = .ok (.iinc 8 1, 3) := by decide +kernel
theorem dL_game_58 : decode cL_game 58 = .ok (.goto (-36), 3) := by decide +kernel
theorem dL_game_61 : decode cL_game 61 = .ok (.iconst 0, 1) := by decide +kernel
theorem dL_game_62 : decode cL_game 62 = .ok (.istore 8, 2) := by decide +kernel
theorem dL_game_64 : decode cL_game 64 = .ok (.iload 8, 2) := by decide +kernel
theorem dL_game_66 : decode cL_game 66 = .ok (.bipush 8, 2) := by decide +kernel
theorem dL_game_68 : decode cL_game 68 = .ok (.if_icmp .ge 34, 3) := by decide +kernel
theorem dL_game_71 : decode cL_game 71 = .ok (.iload 6, 2) := by decide +kernel
theorem dL_game_73 : decode cL_game 73 = .ok (.aload_n 0, 1) := by decide +kernel
theorem dL_game_74 : decode cL_game 74 = .ok (.iload 8, 2) := by decide +kernel
theorem dL_game_76 : decode cL_game 76 = .ok (.iconst 3, 1) := by decide +kernel
theorem dL_game_77 : decode cL_game 77 = .ok (.invokevirtual 15, 3) := by decide +kernel
theorem dL_game_80 : decode cL_game 80 = .ok (.iadd, 1) := by decide +kernel
theorem dL_game_81 : decode cL_game 81 = .ok (.istore 6, 2) := by decide +kernel
theorem dL_game_83 : decode cL_game 83 = .ok (.aload_n 0, 1) := by decide +kernel
theorem dL_game_84 : decode cL_game 84 = .ok (.aload 5, 2) := by decide +kernel
theorem dL_game_86 : decode cL_game 86 = .ok (.iload 8, 2) := by decide +kernel
theorem dL_game_88 : decode cL_game 88 = .ok (.invokestatic 45, 3) := by decide +kernel
theorem dL_game_91 : decode cL_game 91 = .ok (.ifCond .ne 5, 3) := by decide +kernel
theorem dL_game_94 : decode cL_game 94 = .ok (.iconst 0, 1) := by decide +kernel
theorem dL_game_95 : decode cL_game 95 = .ok (.ireturn, 1) := by decide +kernel
theorem dL_game_96 : decode cL_game 96 = .ok (.iinc 8 1, 3) := by decide +kernel
theorem dL_game_99 : decode cL_game 99 = .ok (.goto (-35), 3) := by decide +kernel
theorem dL_game_102 : decode cL_game 102 = .ok (.iconst 0, 1) := by decide +kernel
theorem dL_game_103 : decode cL_game 103 = .ok (.istore 8, 2) := by decide +kernel
theorem dL_game_105 : decode cL_game 105 = .ok (.iconst 0, 1) := by decide +kernel
theorem dL_game_106 : decode cL_game 106 = .ok (.istore 9, 2) := by decide +kernel
theorem dL_game_108 : decode cL_game 108 = .ok (.iconst 0, 1) := by decide +kernel
theorem dL_game_109 : decode cL_game 109 = .ok (.istore 10, 2) := by decide +kernel
theorem dL_game_111 : decode cL_game 111 = .ok (.iconst 0, 1) := by decide +kernel
theorem dL_game_112 : decode cL_game 112 = .ok (.istore 11, 2) := by decide +kernel
theorem dL_game_114 : decode cL_game 114 = .ok (.iconst 0, 1) := by decide +kernel
theorem dL_game_115 : decode cL_game 115 = .ok (.istore 12, 2) := by decide +kernel
theorem dL_game_117 : decode cL_game 117 = .ok (.iload 12, 2) := by decide +kernel
theorem dL_game_119 : decode cL_game 119 = .ok (.iload 4, 2) := by decide +kernel
theorem dL_game_121 : decode cL_game 121 = .ok (.if_icmp .ge 225, 3) := by decide +kernel
theorem dL_game_124 : decode cL_game 124 = .ok (.iconst 0, 1) := by decide +kernel
theorem dL_game_125 : decode cL_game 125 = .ok (.istore 13, 2) := by decide +kernel
theorem dL_game_127 : decode cL_game 127 = .ok (.iconst 0, 1) := by decide +kernel
theorem dL_game_128 : decode cL_game 128 = .ok (.istore 14, 2) := by decide +kernel
theorem dL_game_130 : decode cL_game 130 = .ok (.iload 14, 2) := by decide +kernel
theorem dL_game_132 : decode cL_game 132 = .ok (.iload 4, 2) := by decide +kernel
theorem dL_game_134 : decode cL_game 134 = .ok (.if_icmp .ge 108, 3) := by decide +kernel
theorem dL_game_137 : decode cL_game 137 = .ok (.iload 8, 2) := by decide +kernel
theorem dL_game_139 : decode cL_game 139 = .ok (.iload 14, 2) := by decide +kernel
theorem dL_game_141 : decode cL_game 141 = .ok (.iload 12, 2) := by decide +kernel
theorem dL_game_143 : decode cL_game 143 = .ok (.if_icmp .ge 16, 3) := by decide +kernel
theorem dL_game_146 : decode cL_game 146 = .ok (.aload 5, 2) := by decide +kernel
theorem dL_game_148 : decode cL_game 148 = .ok (.iload 12, 2) := by decide +kernel
theorem dL_game_150 : decode cL_game 150 = .ok (.iaload, 1) := by decide +kernel
theorem dL_game_151 : decode cL_game 151 = .ok (.iload 14, 2) := by decide +kernel
theorem dL_game_153 : decode cL_game 153 = .ok (.ishr, 1) := by decide +kernel
theorem dL_game_154 : decode cL_game 154 = .ok (.iconst 1, 1) := by decide +kernel
theorem dL_game_155 : decode cL_game 155 = .ok (.iand, 1) := by decide +kernel
theorem dL_game_156 : decode cL_game 156 = .ok (.goto 4, 3) := by decide +kernel
theorem dL_game_159 : decode cL_game 159 = .ok (.iconst 0, 1) := by decide +kernel
theorem dL_game_160 : decode cL_game 160 = .ok (.iadd, 1) := by decide +kernel
theorem dL_game_161 : decode cL_game 161 = .ok (.istore 8, 2) := by decide +kernel
theorem dL_game_163 : decode cL_game 163 = .ok (.aload_n 0, 1) := by decide +kernel
theorem dL_game_164 : decode cL_game 164 = .ok (.iload 14, 2) := by decide +kernel
theorem dL_game_166 : decode cL_game 166 = .ok (.bipush 6, 2) := by decide +kernel
theorem dL_game_168 : decode cL_game 168 = .ok (.invokevirtual 9, 3) := by decide +kernel
theorem dL_game_171 : decode cL_game 171 = .ok (.aload_n 0, 1) := by decide +kernel
theorem dL_game_172 : decode cL_game 172 = .ok (.iload 12, 2) := by decide +kernel
theorem dL_game_174 : decode cL_game 174 = .ok (.bipush 6, 2) := by decide +kernel
theorem dL_game_176 : decode cL_game 176 = .ok (.invokevirtual 9, 3) := by decide +kernel
theorem dL_game_179 : decode cL_game 179 = .ok (.isub, 1) := by decide +kernel
theorem dL_game_180 : decode cL_game 180 = .ok (.istore 15, 2) := by decide +kernel
theorem dL_game_182 : decode cL_game 182 = .ok (.aload_n 0, 1) := by decide +kernel
theorem dL_game_183 : decode cL_game 183 = .ok (.iload 12, 2) := by decide +kernel
theorem dL_game_185 : decode cL_game 185 = .ok (.iconst 1, 1) := by decide +kernel
theorem dL_game_186 : decode cL_game 186 = .ok (.invokevirtual 9, 3) := by decide +kernel
theorem dL_game_189 : decode cL_game 189 = .ok (.aload_n 0, 1) := by decide +kernel
theorem dL_game_190 : decode cL_game 190 = .ok (.iload 14, 2) := by decide +kernel
theorem dL_game_192 : decode cL_game 192 = .ok (.iconst 1, 1) := by decide +kernel
theorem dL_game_193 : decode cL_game 193 = .ok (.invokevirtual 9, 3) := by decide +kernel
theorem dL_game_196 : decode cL_game 196 = .ok (.isub, 1) := by decide +kernel
theorem dL_game_197 : decode cL_game 197 = .ok (.istore 16, 2) := by decide +kernel
theorem dL_game_199 : decode cL_game 199 = .ok (.iload 13, 2) := by decide +kernel
theorem dL_game_201 : decode cL_game 201 = .ok (.iload 15, 2) := by decide +kernel
theorem dL_game_203 : decode cL_game 203 = .ok (.ifCond .gt 25, 3) := by decide +kernel
theorem dL_game_206 : decode cL_game 206 = .ok (.iload 15, 2) := by decide +kernel
theorem dL_game_208 : decode cL_game 208 = .ok (.ifCond .ne 24, 3) := by decide +kernel
theorem dL_game_211 : decode cL_game 211 = .ok (.iload 16, 2) := by decide +kernel
theorem dL_game_213 : decode cL_game 213 = .ok (.ifCond .gt 15, 3) := by decide +kernel
theorem dL_game_216 : decode cL_game 216 = .ok (.iload 16, 2) := by decide +kernel
theorem dL_game_218 : decode cL_game 218 = .ok (.ifCond .ne 14, 3) := by decide +kernel
theorem dL_game_221 : decode cL_game 221 = .ok (.iload 14, 2) := by decide +kernel
theorem dL_game_223 : decode cL_game 223 = .ok (.iload 12, 2) := by decide +kernel
theorem dL_game_225 : decode cL_game 225 = .ok (.if_icmp .ge 7, 3) := by decide +kernel
theorem dL_game_228 : decode cL_game 228 = .ok (.iconst 1, 1) := by decide +kernel
theorem dL_game_229 : decode cL_game 229 = .ok (.goto 4, 3) := by decide +kernel
theorem dL_game_232 : decode cL_game 232 = .ok (.iconst 0, 1) := by decide +kernel
theorem dL_game_233 : decode cL_game 233 = .ok (.iadd, 1) := by decide +kernel
theorem dL_game_234 : decode cL_game 234 = .ok (.istore 13, 2) := by decide +kernel
theorem dL_game_236 : decode cL_game 236 = .ok (.iinc 14 1, 3) := by decide +kernel
theorem dL_game_239 : decode cL_game 239 = .ok (.goto (-109), 3) := by decide +kernel
theorem dL_game_242 : decode cL_game 242 = .ok (.aload_n 0, 1) := by decide +kernel
theorem dL_game_243 : decode cL_game 243 = .ok (.iload 12, 2) := by decide +kernel
theorem dL_game_245 : decode cL_game 245 = .ok (.iconst 1, 1) := by decide +kernel
theorem dL_game_246 : decode cL_game 246 = .ok (.invokevirtual 9, 3) := by decide +kernel
theorem dL_game_249 : decode cL_game 249 = .ok (.iload 9, 2) := by decide +kernel
theorem dL_game_251 : decode cL_game 251 = .ok (.if_icmp .le 13, 3) := by decide +kernel
theorem dL_game_254 : decode cL_game 254 = .ok (.aload_n 0, 1) := by decide +kernel
theorem dL_game_255 : decode cL_game 255 = .ok (.iload 12, 2) := by decide +kernel
theorem dL_game_257 : decode cL_game 257 = .ok (.iconst 1, 1) := by decide +kernel
theorem dL_game_258 : decode cL_game 258 = .ok (.invokevirtual 9, 3) := by decide +kernel
theorem dL_game_261 : decode cL_game 261 = .ok (.goto 5, 3) := by decide +kernel
theorem dL_game_264 : decode cL_game 264 = .ok (.iload 9, 2) := by decide +kernel
theorem dL_game_266 : decode cL_game 266 = .ok (.istore 9, 2) := by decide +kernel
theorem dL_game_268 : decode cL_game 268 = .ok (.iload 10, 2) := by decide +kernel
theorem dL_game_270 : decode cL_game 270 = .ok (.aload_n 0, 1) := by decide +kernel
theorem dL_game_271 : decode cL_game 271 = .ok (.iload 12, 2) := by decide +kernel
theorem dL_game_273 : decode cL_game 273 = .ok (.bipush 6, 2) := by decide +kernel
theorem dL_game_275 : decode cL_game 275 = .ok (.invokevirtual 9, 3) := by decide +kernel
theorem dL_game_278 : decode cL_game 278 = .ok (.iadd, 1) := by decide +kernel
theorem dL_game_279 : decode cL_game 279 = .ok (.istore 10, 2) := by decide +kernel
theorem dL_game_281 : decode cL_game 281 = .ok (.iload 11, 2) := by decide +kernel
theorem dL_game_283 : decode cL_game 283 = .ok (.aload_n 0, 1) := by decide +kernel
theorem dL_game_284 : decode cL_game 284 = .ok (.iload 12, 2) := by decide +kernel
theorem dL_game_286 : decode cL_game 286 = .ok (.iconst 3, 1) := by decide +kernel
theorem dL_game_287 : decode cL_game 287 = .ok (.invokevirtual 9, 3) := by decide +kernel
theorem dL_game_290 : decode cL_game 290 = .ok (.iadd, 1) := by decide +kernel
theorem dL_game_291 : decode cL_game 291 = .ok (.istore 11, 2) := by decide +kernel
theorem dL_game_293 : decode cL_game 293 = .ok (.aload_n 0, 1) := by decide +kernel
theorem dL_game_294 : decode cL_game 294 = .ok (.iload 12, 2) := by decide +kernel
theorem dL_game_296 : decode cL_game 296 = .ok (.bipush 9, 2) := by decide +kernel
theorem dL_game_298 : decode cL_game 298 = .ok (.invokevirtual 9, 3) := by decide +kernel
theorem dL_game_301 : decode cL_game 301 = .ok (.aload 5, 2) := by decide +kernel
theorem dL_game_303 : decode cL_game 303 = .ok (.iload 12, 2) := by decide +kernel
theorem dL_game_305 : decode cL_game 305 = .ok (.iaload, 1) := by decide +kernel
theorem dL_game_306 : decode cL_game 306 = .ok (.if_icmp .ne 32, 3) := by decide +kernel
theorem dL_game_309 : decode cL_game 309 = .ok (.aload_n 0, 1) := by decide +kernel
theorem dL_game_310 : decode cL_game 310 = .ok (.iload 12, 2) := by decide +kernel
theorem dL_game_312 : decode cL_game 312 = .ok (.bipush 7, 2) := by decide +kernel
theorem dL_game_314 : decode cL_game 314 = .ok (.invokevirtual 9, 3) := by decide +kernel
theorem dL_game_317 : decode cL_game 317 = .ok (.iload 13, 2) := by decide +kernel
theorem dL_game_319 : decode cL_game 319 = .ok (.if_icmp .ne 19, 3) := by decide +kernel
theorem dL_game_322 : decode cL_game 322 = .ok (.iload 13, 2) := by decide +kernel
theorem dL_game_324 : decode cL_game 324 = .ok (.ifCond .ne 16, 3) := by decide +kernel
theorem dL_game_327 : decode cL_game 327 = .ok (.aload_n 0, 1) := by decide +kernel
theorem dL_game_328 : decode cL_game 328 = .ok (.bipush 8, 2) := by decide +kernel
theorem dL_game_330 : decode cL_game 330 = .ok (.invokevirtual 24, 3) := by decide +kernel
theorem dL_game_333 : decode cL_game 333 = .ok (.iload 12, 2) := by decide +kernel
theorem dL_game_335 : decode cL_game 335 = .ok (.if_icmp .eq 5, 3) := by decide +kernel
theorem dL_game_338 : decode cL_game 338 = .ok (.iconst 0, 1) := by decide +kernel
theorem dL_game_339 : decode cL_game 339 = .ok (.ireturn, 1) := by decide +kernel
theorem dL_game_340 : decode cL_game 340 = .ok (.iinc 12 1, 3) := by decide +kernel
theorem dL_game_343 : decode cL_game 343 = .ok (.goto (-226), 3) := by decide +kernel
theorem dL_game_346 : decode cL_game 346 = .ok (.aload_n 0, 1) := by decide +kernel
theorem dL_game_347 : decode cL_game 347 = .ok (.iconst 4, 1) := by decide +kernel
theorem dL_game_348 : decode cL_game 348 = .ok (.invokevirtual 24, 3) := by decide +kernel
theorem dL_game_351 : decode cL_game 351 = .ok (.iload 6, 2) := by decide +kernel
theorem dL_game_353 : decode cL_game 353 = .ok (.if_icmp .ne 77, 3) := by decide +kernel
theorem dL_game_356 : decode cL_game 356 = .ok (.aload_n 0, 1) := by decide +kernel
theorem dL_game_357 : decode cL_game 357 = .ok (.iconst 5, 1) := by decide +kernel
theorem dL_game_358 : decode cL_game 358 = .ok (.invokevirtual 24, 3) := by decide +kernel
theorem dL_game_361 : decode cL_game 361 = .ok (.iload 8, 2) := by decide +kernel
theorem dL_game_363 : decode cL_game 363 = .ok (.if_icmp .ne 67, 3) := by decide +kernel
theorem dL_game_366 : decode cL_game 366 = .ok (.aload_n 0, 1) := by decide +kernel
theorem dL_game_367 : decode cL_game 367 = .ok (.bipush 6, 2) := by decide +kernel
theorem dL_game_369 : decode cL_game 369 = .ok (.invokevirtual 24, 3) := by decide +kernel
theorem dL_game_372 : decode cL_game 372 = .ok (.iload 9, 2) := by decide +kernel
theorem dL_game_374 : decode cL_game 374 = .ok (.if_icmp .ne 56, 3) := by decide +kernel
theorem dL_game_377 : decode cL_game 377 = .ok (.aload_n 0, 1) := by decide +kernel
theorem dL_game_378 : decode cL_game 378 = .ok (.bipush 7, 2) := by decide +kernel
theorem dL_game_380 : decode cL_game 380 = .ok (.invokevirtual 24, 3) := by decide +kernel
theorem dL_game_383 : decode cL_game 383 = .ok (.iload 7, 2) := by decide +kernel
theorem dL_game_385 : decode cL_game 385 = .ok (.if_icmp .ne 45, 3) := by decide +kernel
theorem dL_game_388 : decode cL_game 388 = .ok (.iload 4, 2) := by decide +kernel
theorem dL_game_390 : decode cL_game 390 = .ok (.ifCond .gt 14, 3) := by decide +kernel
theorem dL_game_393 : decode cL_game 393 = .ok (.aload_n 0, 1) := by decide +kernel
theorem dL_game_394 : decode cL_game 394 = .ok (.bipush 8, 2) := by decide +kernel
theorem dL_game_396 : decode cL_game 396 = .ok (.invokevirtual 24, 3) := by decide +kernel
theorem dL_game_399 : decode cL_game 399 = .ok (.ldc 37, 2) := by decide +kernel
theorem dL_game_401 : decode cL_game 401 = .ok (.if_icmp .ne 29, 3) := by decide +kernel
theorem dL_game_404 : decode cL_game 404 = .ok (.aload_n 0, 1) := by decide +kernel
theorem dL_game_405 : decode cL_game 405 = .ok (.bipush 9, 2) := by decide +kernel
theorem dL_game_407 : decode cL_game 407 = .ok (.invokevirtual 24, 3) := by decide +kernel
theorem dL_game_410 : decode cL_game 410 = .ok (.iload 10, 2) := by decide +kernel
theorem dL_game_412 : decode cL_game 412 = .ok (.if_icmp .ne 18, 3) := by decide +kernel
theorem dL_game_415 : decode cL_game 415 = .ok (.aload_n 0, 1) := by decide +kernel
theorem dL_game_416 : decode cL_game 416 = .ok (.bipush 10, 2) := by decide +kernel
theorem dL_game_418 : decode cL_game 418 = .ok (.invokevirtual 24, 3) := by decide +kernel
theorem dL_game_421 : decode cL_game 421 = .ok (.iload 11, 2) := by decide +kernel
theorem dL_game_423 : decode cL_game 423 = .ok (.if_icmp .ne 7, 3) := by decide +kernel
theorem dL_game_426 : decode cL_game 426 = .ok (.iconst 1, 1) := by decide +kernel
theorem dL_game_427 : decode cL_game 427 = .ok (.goto 4, 3) := by decide +kernel
theorem dL_game_430 : decode cL_game 430 = .ok (.iconst 0, 1) := by decide +kernel
theorem dL_game_431 : decode cL_game 431 = .ok (.ireturn, 1) := by decide +kernel
theorem dL_write_0 : decode cL_write 0 = .ok (.iconst 1, 1) := by decide +kernel
theorem dL_write_1 : decode cL_write 1 = .ok (.iload_n 3, 1) := by decide +kernel
theorem dL_write_2 : decode cL_write 2 = .ok (.bipush 8, 2) := by decide +kernel
theorem dL_write_4 : decode cL_write 4 = .ok (.invokestatic 49, 3) := by decide +kernel
theorem dL_write_7 : decode cL_write 7 = .ok (.iadd, 1) := by decide +kernel
theorem dL_write_8 : decode cL_write 8 = .ok (.istore 4, 2) := by decide +kernel
theorem dL_write_10 : decode cL_write 10 = .ok (.iconst 0, 1) := by decide +kernel
theorem dL_write_11 : decode cL_write 11 = .ok (.istore 5, 2) := by decide +kernel
theorem dL_write_13 : decode cL_write 13 = .ok (.aload_n 0, 1) := by decide +kernel
theorem dL_write_14 : decode cL_write 14 = .ok (.invokevirtual 52, 3) := by decide +kernel
theorem dL_write_17 : decode cL_write 17 = .ok (.pop, 1) := by decide +kernel
theorem dL_write_18 : decode cL_write 18 = .ok (.iconst 0, 1) := by decide +kernel
theorem dL_write_19 : decode cL_write 19 = .ok (.istore 6, 2) := by decide +kernel
theorem dL_write_21 : decode cL_write 21 = .ok (.iload 6, 2) := by decide +kernel
theorem dL_write_23 : decode cL_write 23 = .ok (.bipush 8, 2) := by decide +kernel
theorem dL_write_25 : decode cL_write 25 = .ok (.if_icmp .ge 16, 3) := by decide +kernel
theorem dL_write_28 : decode cL_write 28 = .ok (.aload_n 1, 1) := by decide +kernel
theorem dL_write_29 : decode cL_write 29 = .ok (.iload_n 2, 1) := by decide +kernel
theorem dL_write_30 : decode cL_write 30 = .ok (.iload 6, 2) := by decide +kernel
theorem dL_write_32 : decode cL_write 32 = .ok (.iadd, 1) := by decide +kernel
theorem dL_write_33 : decode cL_write 33 = .ok (.iconst (-1), 1) := by decide +kernel
theorem dL_write_34 : decode cL_write 34 = .ok (.iastore, 1) := by decide +kernel
theorem dL_write_35 : decode cL_write 35 = .ok (.iinc 6 1, 3) := by decide +kernel
theorem dL_write_38 : decode cL_write 38 = .ok (.goto (-17), 3) := by decide +kernel
theorem dL_write_41 : decode cL_write 41 = .ok (.iconst 0, 1) := by decide +kernel
theorem dL_write_42 : decode cL_write 42 = .ok (.istore 6, 2) := by decide +kernel
theorem dL_write_44 : decode cL_write 44 = .ok (.iload 6, 2) := by decide +kernel
theorem dL_write_46 : decode cL_write 46 = .ok (.iload 4, 2) := by decide +kernel
theorem dL_write_48 : decode cL_write 48 = .ok (.if_icmp .ge 88, 3) := by decide +kernel
theorem dL_write_51 : decode cL_write 51 = .ok (.iload_n 3, 1) := by decide +kernel
theorem dL_write_52 : decode cL_write 52 = .ok (.iconst 3, 1) := by decide +kernel
theorem dL_write_53 : decode cL_write 53 = .ok (.iconst 2, 1) := by decide +kernel
theorem dL_write_54 : decode cL_write 54 = .ok (.iload 6, 2) := by decide +kernel
theorem dL_write_56 : decode cL_write 56 = .ok (.imul, 1) := by decide +kernel
theorem dL_write_57 : decode cL_write 57 = .ok (.iadd, 1) := by decide +kernel
theorem dL_write_58 : decode cL_write 58 = .ok (.ishr, 1) := by decide +kernel
theorem dL_write_59 : decode cL_write 59 = .ok (.bipush 8, 2) := by decide +kernel
theorem dL_write_61 : decode cL_write 61 = .ok (.invokestatic 49, 3) := by decide +kernel
theorem dL_write_64 : decode cL_write 64 = .ok (.istore 7, 2) := by decide +kernel
theorem dL_write_66 : decode cL_write 66 = .ok (.iload 5, 2) := by decide +kernel
theorem dL_write_68 : decode cL_write 68 = .ok (.iload 7, 2) := by decide +kernel
theorem dL_write_70 : decode cL_write 70 = .ok (.ishr, 1) := by decide +kernel
theorem dL_write_71 : decode cL_write 71 = .ok (.iconst 1, 1) := by decide +kernel
theorem dL_write_72 : decode cL_write 72 = .ok (.iand, 1) := by decide +kernel
theorem dL_write_73 : decode cL_write 73 = .ok (.iconst 1, 1) := by decide +kernel
theorem dL_write_74 : decode cL_write 74 = .ok (.if_icmp .ne 15, 3) := by decide +kernel
theorem dL_write_77 : decode cL_write 77 = .ok (.iload 7, 2) := by decide +kernel
theorem dL_write_79 : decode cL_write 79 = .ok (.iconst 1, 1) := by decide +kernel
theorem dL_write_80 : decode cL_write 80 = .ok (.iadd, 1) := by decide +kernel
theorem dL_write_81 : decode cL_write 81 = .ok (.bipush 8, 2) := by decide +kernel
theorem dL_write_83 : decode cL_write 83 = .ok (.irem, 1) := by decide +kernel
theorem dL_write_84 : decode cL_write 84 = .ok (.istore 7, 2) := by decide +kernel
theorem dL_write_86 : decode cL_write 86 = .ok (.goto (-20), 3) := by decide +kernel
theorem dL_write_89 : decode cL_write 89 = .ok (.iload 5, 2) := by decide +kernel
theorem dL_write_91 : decode cL_write 91 = .ok (.iconst 1, 1) := by decide +kernel
theorem dL_write_92 : decode cL_write 92 = .ok (.iload 7, 2) := by decide +kernel
theorem dL_write_94 : decode cL_write 94 = .ok (.ishl, 1) := by decide +kernel
theorem dL_write_95 : decode cL_write 95 = .ok (.ior, 1) := by decide +kernel
theorem dL_write_96 : decode cL_write 96 = .ok (.istore 5, 2) := by decide +kernel
theorem dL_write_98 : decode cL_write 98 = .ok (.aload_n 1, 1) := by decide +kernel
theorem dL_write_99 : decode cL_write 99 = .ok (.iload_n 2, 1) := by decide +kernel
theorem dL_write_100 : decode cL_write 100 = .ok (.iload 6, 2) := by decide +kernel
theorem dL_write_102 : decode cL_write 102 = .ok (.iadd, 1) := by decide +kernel
theorem dL_write_103 : decode cL_write 103 = .ok (.iload 7, 2) := by decide +kernel
theorem dL_write_105 : decode cL_write 105 = .ok (.iastore, 1) := by decide +kernel
theorem dL_write_106 : decode cL_write 106 = .ok (.iload 6, 2) := by decide +kernel
theorem dL_write_108 : decode cL_write 108 = .ok (.ifCond .le 11, 3) := by decide +kernel
theorem dL_write_111 : decode cL_write 111 = .ok (.aload_n 0, 1) := by decide +kernel
theorem dL_write_112 : decode cL_write 112 = .ok (.ldc2_w 56, 3) := by decide +kernel
theorem dL_write_115 : decode cL_write 115 = .ok (.invokevirtual 58, 3) := by decide +kernel
theorem dL_write_118 : decode cL_write 118 = .ok (.pop, 1) := by decide +kernel
theorem dL_write_119 : decode cL_write 119 = .ok (.aload_n 0, 1) := by decide +kernel
theorem dL_write_120 : decode cL_write 120 = .ok (.bipush 97, 2) := by decide +kernel
theorem dL_write_122 : decode cL_write 122 = .ok (.iload 7, 2) := by decide +kernel
theorem dL_write_124 : decode cL_write 124 = .ok (.iadd, 1) := by decide +kernel
theorem dL_write_125 : decode cL_write 125 = .ok (.i2l, 1) := by decide +kernel
theorem dL_write_126 : decode cL_write 126 = .ok (.invokevirtual 58, 3) := by decide +kernel
theorem dL_write_129 : decode cL_write 129 = .ok (.pop, 1) := by decide +kernel
theorem dL_write_130 : decode cL_write 130 = .ok (.iinc 6 1, 3) := by decide +kernel
theorem dL_write_133 : decode cL_write 133 = .ok (.goto (-89), 3) := by decide +kernel
theorem dL_write_136 : decode cL_write 136 = .ok (.return_, 1) := by decide +kernel
theorem dL_act_0 : decode cL_act 0 = .ok (.aload_n 0, 1) := by decide +kernel
theorem dL_act_1 : decode cL_act 1 = .ok (.iconst 3, 1) := by decide +kernel
theorem dL_act_2 : decode cL_act 2 = .ok (.invokevirtual 24, 3) := by decide +kernel
theorem dL_act_5 : decode cL_act 5 = .ok (.istore 6, 2) := by decide +kernel
theorem dL_act_7 : decode cL_act 7 = .ok (.iload 4, 2) := by decide +kernel
theorem dL_act_9 : decode cL_act 9 = .ok (.bipush 12, 2) := by decide +kernel
theorem dL_act_11 : decode cL_act 11 = .ok (.invokestatic 49, 3) := by decide +kernel
theorem dL_act_14 : decode cL_act 14 = .ok (.istore 7, 2) := by decide +kernel
theorem dL_act_16 : decode cL_act 16 = .ok (.iload 7, 2) := by decide +kernel
theorem dL_act_18 : decode cL_act 18 = .ok (.iconst 2, 1) := by decide +kernel
theorem dL_act_19 : decode cL_act 19 = .ok (.if_icmp .lt 8, 3) := by decide +kernel
theorem dL_act_22 : decode cL_act 22 = .ok (.iload 6, 2) := by decide +kernel
theorem dL_act_24 : decode cL_act 24 = .ok (.ifCond .ne 131, 3) := by decide +kernel
theorem dL_act_27 : decode cL_act 27 = .ok (.iload 4, 2) := by decide +kernel
theorem dL_act_29 : decode cL_act 29 = .ok (.iconst 4, 1) := by decide +kernel
theorem dL_act_30 : decode cL_act 30 = .ok (.ishr, 1) := by decide +kernel
theorem dL_act_31 : decode cL_act 31 = .ok (.bipush 60, 2) := by decide +kernel
theorem dL_act_33 : decode cL_act 33 = .ok (.invokestatic 49, 3) := by decide +kernel
theorem dL_act_36 : decode cL_act 36 = .ok (.istore 8, 2) := by decide +kernel
theorem dL_act_38 : decode cL_act 38 = .ok (.iload 6, 2) := by decide +kernel
theorem dL_act_40 : decode cL_act 40 = .ok (.bipush 6, 2) := by decide +kernel
theorem dL_act_42 : decode cL_act 42 = .ok (.if_icmp .ne 53, 3) := by decide +kernel
theorem dL_act_45 : decode cL_act 45 = .ok (.aload_n 0, 1) := by decide +kernel
theorem dL_act_46 : decode cL_act 46 = .ok (.invokevirtual 52, 3) := by decide +kernel
theorem dL_act_49 : decode cL_act 49 = .ok (.pop, 1) := by decide +kernel
theorem dL_act_50 : decode cL_act 50 = .ok (.aload_n 0, 1) := by decide +kernel
theorem dL_act_51 : decode cL_act 51 = .ok (.ldc2_w 62, 3) := by decide +kernel
theorem dL_act_54 : decode cL_act 54 = .ok (.invokevirtual 58, 3) := by decide +kernel
theorem dL_act_57 : decode cL_act 57 = .ok (.pop, 1) := by decide +kernel
theorem dL_act_58 : decode cL_act 58 = .ok (.aload_n 0, 1) := by decide +kernel
theorem dL_act_59 : decode cL_act 59 = .ok (.iload 8, 2) := by decide +kernel
theorem dL_act_61 : decode cL_act 61 = .ok (.invokevirtual 64, 3) := by decide +kernel
theorem dL_act_64 : decode cL_act 64 = .ok (.ldc 67, 2) := by decide +kernel
theorem dL_act_66 : decode cL_act 66 = .ok (.if_icmp .ne 27, 3) := by decide +kernel
theorem dL_act_69 : decode cL_act 69 = .ok (.aload_n 0, 1) := by decide +kernel
theorem dL_act_70 : decode cL_act 70 = .ok (.sipush 201, 3) := by decide +kernel
theorem dL_act_73 : decode cL_act 73 = .ok (.invokevirtual 64, 3) := by decide +kernel
theorem dL_act_76 : decode cL_act 76 = .ok (.ldc 68, 2) := by decide +kernel
theorem dL_act_78 : decode cL_act 78 = .ok (.if_icmp .ne 15, 3) := by decide +kernel
theorem dL_act_81 : decode cL_act 81 = .ok (.aload_n 0, 1) := by decide +kernel
theorem dL_act_82 : decode cL_act 82 = .ok (.invokevirtual 52, 3) := by decide +kernel
theorem dL_act_85 : decode cL_act 85 = .ok (.iconst 1, 1) := by decide +kernel
theorem dL_act_86 : decode cL_act 86 = .ok (.if_icmp .ne 7, 3) := by decide +kernel
theorem dL_act_89 : decode cL_act 89 = .ok (.iconst 1, 1) := by decide +kernel
theorem dL_act_90 : decode cL_act 90 = .ok (.goto 4, 3) := by decide +kernel
theorem dL_act_93 : decode cL_act 93 = .ok (.iconst 0, 1) := by decide +kernel
theorem dL_act_94 : decode cL_act 94 = .ok (.ireturn, 1) := by decide +kernel
theorem dL_act_95 : decode cL_act 95 = .ok (.aload_n 0, 1) := by decide +kernel
theorem dL_act_96 : decode cL_act 96 = .ok (.aload_n 1, 1) := by decide +kernel
theorem dL_act_97 : decode cL_act 97 = .ok (.bipush 8, 2) := by decide +kernel
theorem dL_act_99 : decode cL_act 99 = .ok (.iload 6, 2) := by decide +kernel
theorem dL_act_101 : decode cL_act 101 = .ok (.imul, 1) := by decide +kernel
theorem dL_act_102 : decode cL_act 102 = .ok (.iload 5, 2) := by decide +kernel
theorem dL_act_104 : decode cL_act 104 = .ok (.invokestatic 69, 3) := by decide +kernel
theorem dL_act_107 : decode cL_act 107 = .ok (.aload_n 2, 1) := by decide +kernel
theorem dL_act_108 : decode cL_act 108 = .ok (.iload 6, 2) := by decide +kernel
theorem dL_act_110 : decode cL_act 110 = .ok (.iconst 0, 1) := by decide +kernel
theorem dL_act_111 : decode cL_act 111 = .ok (.iastore, 1) := by decide +kernel
theorem dL_act_112 : decode cL_act 112 = .ok (.aload_n 3, 1) := by decide +kernel
theorem dL_act_113 : decode cL_act 113 = .ok (.iload 6, 2) := by decide +kernel
theorem dL_act_115 : decode cL_act 115 = .ok (.iconst (-1), 1) := by decide +kernel
theorem dL_act_116 : decode cL_act 116 = .ok (.iastore, 1) := by decide +kernel
theorem dL_act_117 : decode cL_act 117 = .ok (.aload_n 0, 1) := by decide +kernel
theorem dL_act_118 : decode cL_act 118 = .ok (.iload 8, 2) := by decide +kernel
theorem dL_act_120 : decode cL_act 120 = .ok (.invokevirtual 64, 3) := by decide +kernel
theorem dL_act_123 : decode cL_act 123 = .ok (.iload 6, 2) := by decide +kernel
theorem dL_act_125 : decode cL_act 125 = .ok (.if_icmp .ne 28, 3) := by decide +kernel
theorem dL_act_128 : decode cL_act 128 = .ok (.aload_n 0, 1) := by decide +kernel
theorem dL_act_129 : decode cL_act 129 = .ok (.bipush 11, 2) := by decide +kernel
theorem dL_act_131 : decode cL_act 131 = .ok (.invokevirtual 24, 3) := by decide +kernel
theorem dL_act_134 : decode cL_act 134 = .ok (.ifCond .ne 19, 3) := by decide +kernel
theorem dL_act_137 : decode cL_act 137 = .ok (.aload_n 0, 1) := by decide +kernel
theorem dL_act_138 : decode cL_act 138 = .ok (.iload 6, 2) := by decide +kernel
theorem dL_act_140 : decode cL_act 140 = .ok (.iconst 0, 1) := by decide +kernel
theorem dL_act_141 : decode cL_act 141 = .ok (.invokevirtual 9, 3) := by decide +kernel
theorem dL_act_144 : decode cL_act 144 = .ok (.iload 8, 2) := by decide +kernel
theorem dL_act_146 : decode cL_act 146 = .ok (.if_icmp .ne 7, 3) := by decide +kernel
theorem dL_act_149 : decode cL_act 149 = .ok (.iconst 1, 1) := by decide +kernel
theorem dL_act_150 : decode cL_act 150 = .ok (.goto 4, 3) := by decide +kernel
theorem dL_act_153 : decode cL_act 153 = .ok (.iconst 0, 1) := by decide +kernel
theorem dL_act_154 : decode cL_act 154 = .ok (.ireturn, 1) := by decide +kernel
theorem dL_act_155 : decode cL_act 155 = .ok (.iload 4, 2) := by decide +kernel
theorem dL_act_157 : decode cL_act 157 = .ok (.iconst 4, 1) := by decide +kernel
theorem dL_act_158 : decode cL_act 158 = .ok (.ishr, 1) := by decide +kernel
theorem dL_act_159 : decode cL_act 159 = .ok (.iload 6, 2) := by decide +kernel
theorem dL_act_161 : decode cL_act 161 = .ok (.invokestatic 49, 3) := by decide +kernel
theorem dL_act_164 : decode cL_act 164 = .ok (.istore 8, 2) := by decide +kernel
theorem dL_act_166 : decode cL_act 166 = .ok (.iload 7, 2) := by decide +kernel
theorem dL_act_168 : decode cL_act 168 = .ok (.iconst 2, 1) := by decide +kernel
theorem dL_act_169 : decode cL_act 169 = .ok (.if_icmp .ne 46, 3) := by decide +kernel
theorem dL_act_172 : decode cL_act 172 = .ok (.aload_n 0, 1) := by decide +kernel
theorem dL_act_173 : decode cL_act 173 = .ok (.aload_n 1, 1) := by decide +kernel
theorem dL_act_174 : decode cL_act 174 = .ok (.bipush 8, 2) := by decide +kernel
theorem dL_act_176 : decode cL_act 176 = .ok (.iload 8, 2) := by decide +kernel
theorem dL_act_178 : decode cL_act 178 = .ok (.imul, 1) := by decide +kernel
theorem dL_act_179 : decode cL_act 179 = .ok (.iload 5, 2) := by decide +kernel
theorem dL_act_181 : decode cL_act 181 = .ok (.invokestatic 69, 3) := by decide +kernel
theorem dL_act_184 : decode cL_act 184 = .ok (.aload_n 0, 1) := by decide +kernel
theorem dL_act_185 : decode cL_act 185 = .ok (.iload 8, 2) := by decide +kernel
theorem dL_act_187 : decode cL_act 187 = .ok (.invokevirtual 73, 3) := by decide +kernel
theorem dL_act_190 : decode cL_act 190 = .ok (.aload_n 0, 1) := by decide +kernel
theorem dL_act_191 : decode cL_act 191 = .ok (.iload 8, 2) := by decide +kernel
theorem dL_act_193 : decode cL_act 193 = .ok (.iconst 3, 1) := by decide +kernel
theorem dL_act_194 : decode cL_act 194 = .ok (.invokevirtual 9, 3) := by decide +kernel
theorem dL_act_197 : decode cL_act 197 = .ok (.if_icmp .ne 16, 3) := by decide +kernel
theorem dL_act_200 : decode cL_act 200 = .ok (.aload_n 0, 1) := by decide +kernel
theorem dL_act_201 : decode cL_act 201 = .ok (.bipush 11, 2) := by decide +kernel
theorem dL_act_203 : decode cL_act 203 = .ok (.invokevirtual 24, 3) := by decide +kernel
theorem dL_act_206 : decode cL_act 206 = .ok (.ifCond .ne 7, 3) := by decide +kernel
theorem dL_act_209 : decode cL_act 209 = .ok (.iconst 1, 1) := by decide +kernel
theorem dL_act_210 : decode cL_act 210 = .ok (.goto 4, 3) := by decide +kernel
theorem dL_act_213 : decode cL_act 213 = .ok (.iconst 0, 1) := by decide +kernel
theorem dL_act_214 : decode cL_act 214 = .ok (.ireturn, 1) := by decide +kernel
theorem dL_act_215 : decode cL_act 215 = .ok (.iload 7, 2) := by decide +kernel
theorem dL_act_217 : decode cL_act 217 = .ok (.iconst 3, 1) := by decide +kernel
theorem dL_act_218 : decode cL_act 218 = .ok (.if_icmp .ne 111, 3) := by decide +kernel
theorem dL_act_221 : decode cL_act 221 = .ok (.iload 5, 2) := by decide +kernel
theorem dL_act_223 : decode cL_act 223 = .ok (.iconst 3, 1) := by decide +kernel
theorem dL_act_224 : decode cL_act 224 = .ok (.invokestatic 49, 3) := by decide +kernel
theorem dL_act_227 : decode cL_act 227 = .ok (.ifCond .ne 102, 3) := by decide +kernel
theorem dL_act_230 : decode cL_act 230 = .ok (.bipush 8, 2) := by decide +kernel
theorem dL_act_232 : decode cL_act 232 = .ok (.iload 8, 2) := by decide +kernel
theorem dL_act_234 : decode cL_act 234 = .ok (.imul, 1) := by decide +kernel
theorem dL_act_235 : decode cL_act 235 = .ok (.istore 9, 2) := by decide +kernel
theorem dL_act_237 : decode cL_act 237 = .ok (.iload 9, 2) := by decide +kernel
theorem dL_act_239 : decode cL_act 239 = .ok (.bipush 40, 2) := by decide +kernel
theorem dL_act_241 : decode cL_act 241 = .ok (.if_icmp .ge 20, 3) := by decide +kernel
theorem dL_act_244 : decode cL_act 244 = .ok (.aload_n 1, 1) := by decide +kernel
theorem dL_act_245 : decode cL_act 245 = .ok (.iload 9, 2) := by decide +kernel
theorem dL_act_247 : decode cL_act 247 = .ok (.aload_n 1, 1) := by decide +kernel
theorem dL_act_248 : decode cL_act 248 = .ok (.iload 9, 2) := by decide +kernel
theorem dL_act_250 : decode cL_act 250 = .ok (.bipush 8, 2) := by decide +kernel
theorem dL_act_252 : decode cL_act 252 = .ok (.iadd, 1) := by decide +kernel
theorem dL_act_253 : decode cL_act 253 = .ok (.iaload, 1) := by decide +kernel
theorem dL_act_254 : decode cL_act 254 = .ok (.iastore, 1) := by decide +kernel
theorem dL_act_255 : decode cL_act 255 = .ok (.iinc 9 1, 3) := by decide +kernel
theorem dL_act_258 : decode cL_act 258 = .ok (.goto (-21), 3) := by decide +kernel
theorem dL_act_261 : decode cL_act 261 = .ok (.iload 8, 2) := by decide +kernel
theorem dL_act_263 : decode cL_act 263 = .ok (.istore 9, 2) := by decide +kernel
theorem dL_act_265 : decode cL_act 265 = .ok (.iload 9, 2) := by decide +kernel
theorem dL_act_267 : decode cL_act 267 = .ok (.iconst 5, 1) := by decide +kernel
theorem dL_act_268 : decode cL_act 268 = .ok (.if_icmp .ge 29, 3) := by decide +kernel
theorem dL_act_271 : decode cL_act 271 = .ok (.aload_n 2, 1) := by decide +kernel
theorem dL_act_272 : decode cL_act 272 = .ok (.iload 9, 2) := by decide +kernel
theorem dL_act_274 : decode cL_act 274 = .ok (.aload_n 2, 1) := by decide +kernel
theorem dL_act_275 : decode cL_act 275 = .ok (.iload 9, 2) := by decide +kernel
theorem dL_act_277 : decode cL_act 277 = .ok (.iconst 1, 1) := by decide +kernel
theorem dL_act_278 : decode cL_act 278 = .ok (.iadd, 1) := by decide +kernel
theorem dL_act_279 : decode cL_act 279 = .ok (.iaload, 1) := by decide +kernel
theorem dL_act_280 : decode cL_act 280 = .ok (.iastore, 1) := by decide +kernel
theorem dL_act_281 : decode cL_act 281 = .ok (.aload_n 3, 1) := by decide +kernel
theorem dL_act_282 : decode cL_act 282 = .ok (.iload 9, 2) := by decide +kernel
theorem dL_act_284 : decode cL_act 284 = .ok (.aload_n 3, 1) := by decide +kernel
theorem dL_act_285 : decode cL_act 285 = .ok (.iload 9, 2) := by decide +kernel
theorem dL_act_287 : decode cL_act 287 = .ok (.iconst 1, 1) := by decide +kernel
theorem dL_act_288 : decode cL_act 288 = .ok (.iadd, 1) := by decide +kernel
theorem dL_act_289 : decode cL_act 289 = .ok (.iaload, 1) := by decide +kernel
theorem dL_act_290 : decode cL_act 290 = .ok (.iastore, 1) := by decide +kernel
theorem dL_act_291 : decode cL_act 291 = .ok (.iinc 9 1, 3) := by decide +kernel
theorem dL_act_294 : decode cL_act 294 = .ok (.goto (-29), 3) := by decide +kernel
theorem dL_act_297 : decode cL_act 297 = .ok (.aload_n 0, 1) := by decide +kernel
theorem dL_act_298 : decode cL_act 298 = .ok (.iload 8, 2) := by decide +kernel
theorem dL_act_300 : decode cL_act 300 = .ok (.invokevirtual 76, 3) := by decide +kernel
theorem dL_act_303 : decode cL_act 303 = .ok (.iload 6, 2) := by decide +kernel
theorem dL_act_305 : decode cL_act 305 = .ok (.iconst 1, 1) := by decide +kernel
theorem dL_act_306 : decode cL_act 306 = .ok (.isub, 1) := by decide +kernel
theorem dL_act_307 : decode cL_act 307 = .ok (.if_icmp .ne 20, 3) := by decide +kernel
theorem dL_act_310 : decode cL_act 310 = .ok (.aload_n 0, 1) := by decide +kernel
theorem dL_act_311 : decode cL_act 311 = .ok (.iload 6, 2) := by decide +kernel
theorem dL_act_313 : decode cL_act 313 = .ok (.iconst 1, 1) := by decide +kernel
theorem dL_act_314 : decode cL_act 314 = .ok (.isub, 1) := by decide +kernel
theorem dL_act_315 : decode cL_act 315 = .ok (.invokevirtual 76, 3) := by decide +kernel
theorem dL_act_318 : decode cL_act 318 = .ok (.ldc 79, 2) := by decide +kernel
theorem dL_act_320 : decode cL_act 320 = .ok (.if_icmp .ne 7, 3) := by decide +kernel
theorem dL_act_323 : decode cL_act 323 = .ok (.iconst 1, 1) := by decide +kernel
theorem dL_act_324 : decode cL_act 324 = .ok (.goto 4, 3) := by decide +kernel
theorem dL_act_327 : decode cL_act 327 = .ok (.iconst 0, 1) := by decide +kernel
theorem dL_act_328 : decode cL_act 328 = .ok (.ireturn, 1) := by decide +kernel
theorem dL_act_329 : decode cL_act 329 = .ok (.iload 7, 2) := by decide +kernel
theorem dL_act_331 : decode cL_act 331 = .ok (.iconst 4, 1) := by decide +kernel
theorem dL_act_332 : decode cL_act 332 = .ok (.if_icmp .ne 53, 3) := by decide +kernel
theorem dL_act_335 : decode cL_act 335 = .ok (.aload_n 0, 1) := by decide +kernel
theorem dL_act_336 : decode cL_act 336 = .ok (.iload 8, 2) := by decide +kernel
theorem dL_act_338 : decode cL_act 338 = .ok (.iconst 0, 1) := by decide +kernel
theorem dL_act_339 : decode cL_act 339 = .ok (.invokevirtual 9, 3) := by decide +kernel
theorem dL_act_342 : decode cL_act 342 = .ok (.istore 9, 2) := by decide +kernel
theorem dL_act_344 : decode cL_act 344 = .ok (.aload_n 0, 1) := by decide +kernel
theorem dL_act_345 : decode cL_act 345 = .ok (.iload 8, 2) := by decide +kernel
theorem dL_act_347 : decode cL_act 347 = .ok (.iload 5, 2) := by decide +kernel
theorem dL_act_349 : decode cL_act 349 = .ok (.bipush 80, 2) := by decide +kernel
theorem dL_act_351 : decode cL_act 351 = .ok (.invokestatic 49, 3) := by decide +kernel
theorem dL_act_354 : decode cL_act 354 = .ok (.invokevirtual 80, 3) := by decide +kernel
theorem dL_act_357 : decode cL_act 357 = .ok (.iload 9, 2) := by decide +kernel
theorem dL_act_359 : decode cL_act 359 = .ok (.if_icmp .ne 24, 3) := by decide +kernel
theorem dL_act_362 : decode cL_act 362 = .ok (.aload_n 0, 1) := by decide +kernel
theorem dL_act_363 : decode cL_act 363 = .ok (.iload 8, 2) := by decide +kernel
theorem dL_act_365 : decode cL_act 365 = .ok (.iconst 0, 1) := by decide +kernel
theorem dL_act_366 : decode cL_act 366 = .ok (.invokevirtual 9, 3) := by decide +kernel
theorem dL_act_369 : decode cL_act 369 = .ok (.iload 5, 2) := by decide +kernel
theorem dL_act_371 : decode cL_act 371 = .ok (.bipush 80, 2) := by decide +kernel
theorem dL_act_373 : decode cL_act 373 = .ok (.invokestatic 49, 3) := by decide +kernel
theorem dL_act_376 : decode cL_act 376 = .ok (.if_icmp .ne 7, 3) := by decide +kernel
theorem dL_act_379 : decode cL_act 379 = .ok (.iconst 1, 1) := by decide +kernel
theorem dL_act_380 : decode cL_act 380 = .ok (.goto 4, 3) := by decide +kernel
theorem dL_act_383 : decode cL_act 383 = .ok (.iconst 0, 1) := by decide +kernel
theorem dL_act_384 : decode cL_act 384 = .ok (.ireturn, 1) := by decide +kernel
theorem dL_act_385 : decode cL_act 385 = .ok (.iload 7, 2) := by decide +kernel
theorem dL_act_387 : decode cL_act 387 = .ok (.bipush 7, 2) := by decide +kernel
theorem dL_act_389 : decode cL_act 389 = .ok (.if_icmp .ge 91, 3) := by decide +kernel
theorem dL_act_392 : decode cL_act 392 = .ok (.iload 5, 2) := by decide +kernel
theorem dL_act_394 : decode cL_act 394 = .ok (.bipush 8, 2) := by decide +kernel
theorem dL_act_396 : decode cL_act 396 = .ok (.invokestatic 49, 3) := by decide +kernel
theorem dL_act_399 : decode cL_act 399 = .ok (.istore 9, 2) := by decide +kernel
theorem dL_act_401 : decode cL_act 401 = .ok (.aload_n 2, 1) := by decide +kernel
theorem dL_act_402 : decode cL_act 402 = .ok (.iload 8, 2) := by decide +kernel
theorem dL_act_404 : decode cL_act 404 = .ok (.iaload, 1) := by decide +kernel
theorem dL_act_405 : decode cL_act 405 = .ok (.iload 9, 2) := by decide +kernel
theorem dL_act_407 : decode cL_act 407 = .ok (.ishr, 1) := by decide +kernel
theorem dL_act_408 : decode cL_act 408 = .ok (.iconst 1, 1) := by decide +kernel
theorem dL_act_409 : decode cL_act 409 = .ok (.iand, 1) := by decide +kernel
theorem dL_act_410 : decode cL_act 410 = .ok (.ifCond .ne 7, 3) := by decide +kernel
theorem dL_act_413 : decode cL_act 413 = .ok (.iconst 1, 1) := by decide +kernel
theorem dL_act_414 : decode cL_act 414 = .ok (.goto 4, 3) := by decide +kernel
theorem dL_act_417 : decode cL_act 417 = .ok (.iconst 0, 1) := by decide +kernel
theorem dL_act_418 : decode cL_act 418 = .ok (.istore 10, 2) := by decide +kernel
theorem dL_act_420 : decode cL_act 420 = .ok (.aload_n 2, 1) := by decide +kernel
theorem dL_act_421 : decode cL_act 421 = .ok (.iload 8, 2) := by decide +kernel
theorem dL_act_423 : decode cL_act 423 = .ok (.dup2, 1) := by decide +kernel
theorem dL_act_424 : decode cL_act 424 = .ok (.iaload, 1) := by decide +kernel
theorem dL_act_425 : decode cL_act 425 = .ok (.iconst 1, 1) := by decide +kernel
theorem dL_act_426 : decode cL_act 426 = .ok (.iload 9, 2) := by decide +kernel
theorem dL_act_428 : decode cL_act 428 = .ok (.ishl, 1) := by decide +kernel
theorem dL_act_429 : decode cL_act 429 = .ok (.ixor, 1) := by decide +kernel
theorem dL_act_430 : decode cL_act 430 = .ok (.iastore, 1) := by decide +kernel
theorem dL_act_431 : decode cL_act 431 = .ok (.aload_n 0, 1) := by decide +kernel
theorem dL_act_432 : decode cL_act 432 = .ok (.iload 8, 2) := by decide +kernel
theorem dL_act_434 : decode cL_act 434 = .ok (.iload 9, 2) := by decide +kernel
theorem dL_act_436 : decode cL_act 436 = .ok (.iload 10, 2) := by decide +kernel
theorem dL_act_438 : decode cL_act 438 = .ok (.ifCond .ne 7, 3) := by decide +kernel
theorem dL_act_441 : decode cL_act 441 = .ok (.iconst 1, 1) := by decide +kernel
theorem dL_act_442 : decode cL_act 442 = .ok (.goto 4, 3) := by decide +kernel
theorem dL_act_445 : decode cL_act 445 = .ok (.iconst 0, 1) := by decide +kernel
theorem dL_act_446 : decode cL_act 446 = .ok (.invokevirtual 83, 3) := by decide +kernel
theorem dL_act_449 : decode cL_act 449 = .ok (.ldc 87, 2) := by decide +kernel
theorem dL_act_451 : decode cL_act 451 = .ok (.if_icmp .ne 27, 3) := by decide +kernel
theorem dL_act_454 : decode cL_act 454 = .ok (.aload_n 0, 1) := by decide +kernel
theorem dL_act_455 : decode cL_act 455 = .ok (.iload 8, 2) := by decide +kernel
theorem dL_act_457 : decode cL_act 457 = .ok (.iload 9, 2) := by decide +kernel
theorem dL_act_459 : decode cL_act 459 = .ok (.iload 10, 2) := by decide +kernel
theorem dL_act_461 : decode cL_act 461 = .ok (.invokevirtual 83, 3) := by decide +kernel
theorem dL_act_464 : decode cL_act 464 = .ok (.aload_n 0, 1) := by decide +kernel
theorem dL_act_465 : decode cL_act 465 = .ok (.iload 8, 2) := by decide +kernel
theorem dL_act_467 : decode cL_act 467 = .ok (.iconst 1, 1) := by decide +kernel
theorem dL_act_468 : decode cL_act 468 = .ok (.invokevirtual 9, 3) := by decide +kernel
theorem dL_act_471 : decode cL_act 471 = .ok (.if_icmp .ne 7, 3) := by decide +kernel
theorem dL_act_474 : decode cL_act 474 = .ok (.iconst 1, 1) := by decide +kernel
theorem dL_act_475 : decode cL_act 475 = .ok (.goto 4, 3) := by decide +kernel
theorem dL_act_478 : decode cL_act 478 = .ok (.iconst 0, 1) := by decide +kernel
theorem dL_act_479 : decode cL_act 479 = .ok (.ireturn, 1) := by decide +kernel
theorem dL_act_480 : decode cL_act 480 = .ok (.iload 7, 2) := by decide +kernel
theorem dL_act_482 : decode cL_act 482 = .ok (.bipush 7, 2) := by decide +kernel
theorem dL_act_484 : decode cL_act 484 = .ok (.if_icmp .ne 42, 3) := by decide +kernel
theorem dL_act_487 : decode cL_act 487 = .ok (.aload_n 3, 1) := by decide +kernel
theorem dL_act_488 : decode cL_act 488 = .ok (.iload 8, 2) := by decide +kernel
theorem dL_act_490 : decode cL_act 490 = .ok (.iload 5, 2) := by decide +kernel
theorem dL_act_492 : decode cL_act 492 = .ok (.bipush 9, 2) := by decide +kernel
theorem dL_act_494 : decode cL_act 494 = .ok (.invokestatic 49, 3) := by decide +kernel
theorem dL_act_497 : decode cL_act 497 = .ok (.iconst 1, 1) := by decide +kernel
theorem dL_act_498 : decode cL_act 498 = .ok (.isub, 1) := by decide +kernel
theorem dL_act_499 : decode cL_act 499 = .ok (.iastore, 1) := by decide +kernel
theorem dL_act_500 : decode cL_act 500 = .ok (.aload_n 0, 1) := by decide +kernel
theorem dL_act_501 : decode cL_act 501 = .ok (.iload 8, 2) := by decide +kernel
theorem dL_act_503 : decode cL_act 503 = .ok (.aload_n 3, 1) := by decide +kernel
theorem dL_act_504 : decode cL_act 504 = .ok (.iload 8, 2) := by decide +kernel
theorem dL_act_506 : decode cL_act 506 = .ok (.iaload, 1) := by decide +kernel
theorem dL_act_507 : decode cL_act 507 = .ok (.invokevirtual 88, 3) := by decide +kernel
theorem dL_act_510 : decode cL_act 510 = .ok (.aload_n 0, 1) := by decide +kernel
theorem dL_act_511 : decode cL_act 511 = .ok (.iload 8, 2) := by decide +kernel
theorem dL_act_513 : decode cL_act 513 = .ok (.iconst 1, 1) := by decide +kernel
theorem dL_act_514 : decode cL_act 514 = .ok (.invokevirtual 9, 3) := by decide +kernel
theorem dL_act_517 : decode cL_act 517 = .ok (.if_icmp .ne 7, 3) := by decide +kernel
theorem dL_act_520 : decode cL_act 520 = .ok (.iconst 1, 1) := by decide +kernel
theorem dL_act_521 : decode cL_act 521 = .ok (.goto 4, 3) := by decide +kernel
theorem dL_act_524 : decode cL_act 524 = .ok (.iconst 0, 1) := by decide +kernel
theorem dL_act_525 : decode cL_act 525 = .ok (.ireturn, 1) := by decide +kernel
theorem dL_act_526 : decode cL_act 526 = .ok (.aload_n 0, 1) := by decide +kernel
theorem dL_act_527 : decode cL_act 527 = .ok (.iload 8, 2) := by decide +kernel
theorem dL_act_529 : decode cL_act 529 = .ok (.iconst 2, 1) := by decide +kernel
theorem dL_act_530 : decode cL_act 530 = .ok (.invokevirtual 9, 3) := by decide +kernel
theorem dL_act_533 : decode cL_act 533 = .ok (.istore 9, 2) := by decide +kernel
theorem dL_act_535 : decode cL_act 535 = .ok (.iload 7, 2) := by decide +kernel
theorem dL_act_537 : decode cL_act 537 = .ok (.bipush 8, 2) := by decide +kernel
theorem dL_act_539 : decode cL_act 539 = .ok (.if_icmp .ne 142, 3) := by decide +kernel
theorem dL_act_542 : decode cL_act 542 = .ok (.iload 9, 2) := by decide +kernel
theorem dL_act_544 : decode cL_act 544 = .ok (.iconst 1, 1) := by decide +kernel
theorem dL_act_545 : decode cL_act 545 = .ok (.if_icmp .le 136, 3) := by decide +kernel
theorem dL_act_548 : decode cL_act 548 = .ok (.iload 5, 2) := by decide +kernel
theorem dL_act_550 : decode cL_act 550 = .ok (.iload 9, 2) := by decide +kernel
theorem dL_act_552 : decode cL_act 552 = .ok (.invokestatic 49, 3) := by decide +kernel
theorem dL_act_555 : decode cL_act 555 = .ok (.istore 10, 2) := by decide +kernel
theorem dL_act_557 : decode cL_act 557 = .ok (.iload 5, 2) := by decide +kernel
theorem dL_act_559 : decode cL_act 559 = .ok (.iconst 4, 1) := by decide +kernel
theorem dL_act_560 : decode cL_act 560 = .ok (.ishr, 1) := by decide +kernel
theorem dL_act_561 : decode cL_act 561 = .ok (.iload 9, 2) := by decide +kernel
theorem dL_act_563 : decode cL_act 563 = .ok (.invokestatic 49, 3) := by decide +kernel
theorem dL_act_566 : decode cL_act 566 = .ok (.istore 11, 2) := by decide +kernel
theorem dL_act_568 : decode cL_act 568 = .ok (.iload 10, 2) := by decide +kernel
theorem dL_act_570 : decode cL_act 570 = .ok (.iload 11, 2) := by decide +kernel
theorem dL_act_572 : decode cL_act 572 = .ok (.if_icmp .ne 24, 3) := by decide +kernel
theorem dL_act_575 : decode cL_act 575 = .ok (.aload_n 0, 1) := by decide +kernel
theorem dL_act_576 : decode cL_act 576 = .ok (.iload 8, 2) := by decide +kernel
theorem dL_act_578 : decode cL_act 578 = .ok (.iload 10, 2) := by decide +kernel
theorem dL_act_580 : decode cL_act 580 = .ok (.iload 11, 2) := by decide +kernel
theorem dL_act_582 : decode cL_act 582 = .ok (.invokevirtual 91, 3) := by decide +kernel
theorem dL_act_585 : decode cL_act 585 = .ok (.ldc 68, 2) := by decide +kernel
theorem dL_act_587 : decode cL_act 587 = .ok (.if_icmp .ne 7, 3) := by decide +kernel
theorem dL_act_590 : decode cL_act 590 = .ok (.iconst 1, 1) := by decide +kernel
theorem dL_act_591 : decode cL_act 591 = .ok (.goto 4, 3) := by decide +kernel
theorem dL_act_594 : decode cL_act 594 = .ok (.iconst 0, 1) := by decide +kernel
theorem dL_act_595 : decode cL_act 595 = .ok (.ireturn, 1) := by decide +kernel
theorem dL_act_596 : decode cL_act 596 = .ok (.aload_n 1, 1) := by decide +kernel
theorem dL_act_597 : decode cL_act 597 = .ok (.bipush 8, 2) := by decide +kernel
theorem dL_act_599 : decode cL_act 599 = .ok (.iload 8, 2) := by decide +kernel
theorem dL_act_601 : decode cL_act 601 = .ok (.imul, 1) := by decide +kernel
theorem dL_act_602 : decode cL_act 602 = .ok (.iload 10, 2) := by decide +kernel
theorem dL_act_604 : decode cL_act 604 = .ok (.iadd, 1) := by decide +kernel
theorem dL_act_605 : decode cL_act 605 = .ok (.iaload, 1) := by decide +kernel
theorem dL_act_606 : decode cL_act 606 = .ok (.istore 12, 2) := by decide +kernel
theorem dL_act_608 : decode cL_act 608 = .ok (.aload_n 1, 1) := by decide +kernel
theorem dL_act_609 : decode cL_act 609 = .ok (.bipush 8, 2) := by decide +kernel
theorem dL_act_611 : decode cL_act 611 = .ok (.iload 8, 2) := by decide +kernel
theorem dL_act_613 : decode cL_act 613 = .ok (.imul, 1) := by decide +kernel
theorem dL_act_614 : decode cL_act 614 = .ok (.iload 10, 2) := by decide +kernel
theorem dL_act_616 : decode cL_act 616 = .ok (.iadd, 1) := by decide +kernel
theorem dL_act_617 : decode cL_act 617 = .ok (.aload_n 1, 1) := by decide +kernel
theorem dL_act_618 : decode cL_act 618 = .ok (.bipush 8, 2) := by decide +kernel
theorem dL_act_620 : decode cL_act 620 = .ok (.iload 8, 2) := by decide +kernel
theorem dL_act_622 : decode cL_act 622 = .ok (.imul, 1) := by decide +kernel
theorem dL_act_623 : decode cL_act 623 = .ok (.iload 11, 2) := by decide +kernel
theorem dL_act_625 : decode cL_act 625 = .ok (.iadd, 1) := by decide +kernel
theorem dL_act_626 : decode cL_act 626 = .ok (.iaload, 1) := by decide +kernel
theorem dL_act_627 : decode cL_act 627 = .ok (.iastore, 1) := by decide +kernel
theorem dL_act_628 : decode cL_act 628 = .ok (.aload_n 1, 1) := by decide +kernel
theorem dL_act_629 : decode cL_act 629 = .ok (.bipush 8, 2) := by decide +kernel
theorem dL_act_631 : decode cL_act 631 = .ok (.iload 8, 2) := by decide +kernel
theorem dL_act_633 : decode cL_act 633 = .ok (.imul, 1) := by decide +kernel
theorem dL_act_634 : decode cL_act 634 = .ok (.iload 11, 2) := by decide +kernel
theorem dL_act_636 : decode cL_act 636 = .ok (.iadd, 1) := by decide +kernel
theorem dL_act_637 : decode cL_act 637 = .ok (.iload 12, 2) := by decide +kernel
theorem dL_act_639 : decode cL_act 639 = .ok (.iastore, 1) := by decide +kernel
theorem dL_act_640 : decode cL_act 640 = .ok (.aload_n 0, 1) := by decide +kernel
theorem dL_act_641 : decode cL_act 641 = .ok (.iload 8, 2) := by decide +kernel
theorem dL_act_643 : decode cL_act 643 = .ok (.iload 10, 2) := by decide +kernel
theorem dL_act_645 : decode cL_act 645 = .ok (.iload 11, 2) := by decide +kernel
theorem dL_act_647 : decode cL_act 647 = .ok (.invokevirtual 91, 3) := by decide +kernel
theorem dL_act_650 : decode cL_act 650 = .ok (.aload_n 0, 1) := by decide +kernel
theorem dL_act_651 : decode cL_act 651 = .ok (.iload 8, 2) := by decide +kernel
theorem dL_act_653 : decode cL_act 653 = .ok (.iconst 1, 1) := by decide +kernel
theorem dL_act_654 : decode cL_act 654 = .ok (.invokevirtual 9, 3) := by decide +kernel
theorem dL_act_657 : decode cL_act 657 = .ok (.if_icmp .ne 22, 3) := by decide +kernel
theorem dL_act_660 : decode cL_act 660 = .ok (.aload_n 0, 1) := by decide +kernel
theorem dL_act_661 : decode cL_act 661 = .ok (.iload 8, 2) := by decide +kernel
theorem dL_act_663 : decode cL_act 663 = .ok (.iload 10, 2) := by decide +kernel
theorem dL_act_665 : decode cL_act 665 = .ok (.iload 9, 2) := by decide +kernel
theorem dL_act_667 : decode cL_act 667 = .ok (.invokevirtual 91, 3) := by decide +kernel
theorem dL_act_670 : decode cL_act 670 = .ok (.ldc 79, 2) := by decide +kernel
theorem dL_act_672 : decode cL_act 672 = .ok (.if_icmp .ne 7, 3) := by decide +kernel
theorem dL_act_675 : decode cL_act 675 = .ok (.iconst 1, 1) := by decide +kernel
theorem dL_act_676 : decode cL_act 676 = .ok (.goto 4, 3) := by decide +kernel
theorem dL_act_679 : decode cL_act 679 = .ok (.iconst 0, 1) := by decide +kernel
theorem dL_act_680 : decode cL_act 680 = .ok (.ireturn, 1) := by decide +kernel
theorem dL_act_681 : decode cL_act 681 = .ok (.iload 7, 2) := by decide +kernel
theorem dL_act_683 : decode cL_act 683 = .ok (.bipush 9, 2) := by decide +kernel
theorem dL_act_685 : decode cL_act 685 = .ok (.if_icmp .ne 111, 3) := by decide +kernel
theorem dL_act_688 : decode cL_act 688 = .ok (.iload 5, 2) := by decide +kernel
theorem dL_act_690 : decode cL_act 690 = .ok (.bipush 8, 2) := by decide +kernel
theorem dL_act_692 : decode cL_act 692 = .ok (.invokestatic 49, 3) := by decide +kernel
theorem dL_act_695 : decode cL_act 695 = .ok (.istore 10, 2) := by decide +kernel
theorem dL_act_697 : decode cL_act 697 = .ok (.aload_n 0, 1) := by decide +kernel
theorem dL_act_698 : decode cL_act 698 = .ok (.iload 10, 2) := by decide +kernel
theorem dL_act_700 : decode cL_act 700 = .ok (.iconst 3, 1) := by decide +kernel
theorem dL_act_701 : decode cL_act 701 = .ok (.invokevirtual 15, 3) := by decide +kernel
theorem dL_act_704 : decode cL_act 704 = .ok (.iconst 1, 1) := by decide +kernel
theorem dL_act_705 : decode cL_act 705 = .ok (.if_icmp .ne 7, 3) := by decide +kernel
theorem dL_act_708 : decode cL_act 708 = .ok (.iconst 1, 1) := by decide +kernel
theorem dL_act_709 : decode cL_act 709 = .ok (.goto 4, 3) := by decide +kernel
theorem dL_act_712 : decode cL_act 712 = .ok (.iconst 0, 1) := by decide +kernel
theorem dL_act_713 : decode cL_act 713 = .ok (.istore 11, 2) := by decide +kernel
theorem dL_act_715 : decode cL_act 715 = .ok (.aload_n 0, 1) := by decide +kernel
theorem dL_act_716 : decode cL_act 716 = .ok (.iconst 4, 1) := by decide +kernel
theorem dL_act_717 : decode cL_act 717 = .ok (.invokevirtual 24, 3) := by decide +kernel
theorem dL_act_720 : decode cL_act 720 = .ok (.istore 12, 2) := by decide +kernel
theorem dL_act_722 : decode cL_act 722 = .ok (.aload_n 0, 1) := by decide +kernel
theorem dL_act_723 : decode cL_act 723 = .ok (.iload 10, 2) := by decide +kernel
theorem dL_act_725 : decode cL_act 725 = .ok (.iload 11, 2) := by decide +kernel
theorem dL_act_727 : decode cL_act 727 = .ok (.ifCond .ne 7, 3) := by decide +kernel
theorem dL_act_730 : decode cL_act 730 = .ok (.iconst 1, 1) := by decide +kernel
theorem dL_act_731 : decode cL_act 731 = .ok (.goto 4, 3) := by decide +kernel
theorem dL_act_734 : decode cL_act 734 = .ok (.iconst 0, 1) := by decide +kernel
theorem dL_act_735 : decode cL_act 735 = .ok (.invokevirtual 94, 3) := by decide +kernel
theorem dL_act_738 : decode cL_act 738 = .ok (.ldc 87, 2) := by decide +kernel
theorem dL_act_740 : decode cL_act 740 = .ok (.if_icmp .ne 54, 3) := by decide +kernel
theorem dL_act_743 : decode cL_act 743 = .ok (.aload_n 0, 1) := by decide +kernel
theorem dL_act_744 : decode cL_act 744 = .ok (.iload 10, 2) := by decide +kernel
theorem dL_act_746 : decode cL_act 746 = .ok (.iload 11, 2) := by decide +kernel
theorem dL_act_748 : decode cL_act 748 = .ok (.invokevirtual 94, 3) := by decide +kernel
theorem dL_act_751 : decode cL_act 751 = .ok (.iload 11, 2) := by decide +kernel
theorem dL_act_753 : decode cL_act 753 = .ok (.ifCond .eq 10, 3) := by decide +kernel
theorem dL_act_756 : decode cL_act 756 = .ok (.iload 12, 2) := by decide +kernel
theorem dL_act_758 : decode cL_act 758 = .ok (.iconst 1, 1) := by decide +kernel
theorem dL_act_759 : decode cL_act 759 = .ok (.isub, 1) := by decide +kernel
theorem dL_act_760 : decode cL_act 760 = .ok (.goto 7, 3) := by decide +kernel
theorem dL_act_763 : decode cL_act 763 = .ok (.iload 12, 2) := by decide +kernel
theorem dL_act_765 : decode cL_act 765 = .ok (.iconst 1, 1) := by decide +kernel
theorem dL_act_766 : decode cL_act 766 = .ok (.iadd, 1) := by decide +kernel
theorem dL_act_767 : decode cL_act 767 = .ok (.if_icmp .ne 27, 3) := by decide +kernel
theorem dL_act_770 : decode cL_act 770 = .ok (.aload_n 0, 1) := by decide +kernel
theorem dL_act_771 : decode cL_act 771 = .ok (.iload 10, 2) := by decide +kernel
theorem dL_act_773 : decode cL_act 773 = .ok (.iconst 3, 1) := by decide +kernel
theorem dL_act_774 : decode cL_act 774 = .ok (.invokevirtual 15, 3) := by decide +kernel
theorem dL_act_777 : decode cL_act 777 = .ok (.iload 11, 2) := by decide +kernel
theorem dL_act_779 : decode cL_act 779 = .ok (.ifCond .eq 7, 3) := by decide +kernel
theorem dL_act_782 : decode cL_act 782 = .ok (.iconst 0, 1) := by decide +kernel
theorem dL_act_783 : decode cL_act 783 = .ok (.goto 4, 3) := by decide +kernel
theorem dL_act_786 : decode cL_act 786 = .ok (.iconst 1, 1) := by decide +kernel
theorem dL_act_787 : decode cL_act 787 = .ok (.if_icmp .ne 7, 3) := by decide +kernel
theorem dL_act_790 : decode cL_act 790 = .ok (.iconst 1, 1) := by decide +kernel
theorem dL_act_791 : decode cL_act 791 = .ok (.goto 4, 3) := by decide +kernel
theorem dL_act_794 : decode cL_act 794 = .ok (.iconst 0, 1) := by decide +kernel
theorem dL_act_795 : decode cL_act 795 = .ok (.ireturn, 1) := by decide +kernel
theorem dL_act_796 : decode cL_act 796 = .ok (.iload 7, 2) := by decide +kernel
theorem dL_act_798 : decode cL_act 798 = .ok (.bipush 10, 2) := by decide +kernel
theorem dL_act_800 : decode cL_act 800 = .ok (.if_icmp .ne 90, 3) := by decide +kernel
theorem dL_act_803 : decode cL_act 803 = .ok (.iload 5, 2) := by decide +kernel
theorem dL_act_805 : decode cL_act 805 = .ok (.iconst 3, 1) := by decide +kernel
theorem dL_act_806 : decode cL_act 806 = .ok (.invokestatic 49, 3) := by decide +kernel
theorem dL_act_809 : decode cL_act 809 = .ok (.istore 10, 2) := by decide +kernel
theorem dL_act_811 : decode cL_act 811 = .ok (.iload 10, 2) := by decide +kernel
theorem dL_act_813 : decode cL_act 813 = .ok (.iconst 2, 1) := by decide +kernel
theorem dL_act_814 : decode cL_act 814 = .ok (.if_icmp .ne 16, 3) := by decide +kernel
theorem dL_act_817 : decode cL_act 817 = .ok (.iconst 1, 1) := by decide +kernel
theorem dL_act_818 : decode cL_act 818 = .ok (.iload 5, 2) := by decide +kernel
theorem dL_act_820 : decode cL_act 820 = .ok (.iconst 2, 1) := by decide +kernel
theorem dL_act_821 : decode cL_act 821 = .ok (.ishr, 1) := by decide +kernel
theorem dL_act_822 : decode cL_act 822 = .ok (.iconst 5, 1) := by decide +kernel
theorem dL_act_823 : decode cL_act 823 = .ok (.invokestatic 49, 3) := by decide +kernel
theorem dL_act_826 : decode cL_act 826 = .ok (.iadd, 1) := by decide +kernel
theorem dL_act_827 : decode cL_act 827 = .ok (.goto 23, 3) := by decide +kernel
theorem dL_act_830 : decode cL_act 830 = .ok (.iload 5, 2) := by decide +kernel
theorem dL_act_832 : decode cL_act 832 = .ok (.iconst 2, 1) := by decide +kernel
theorem dL_act_833 : decode cL_act 833 = .ok (.ishr, 1) := by decide +kernel
theorem dL_act_834 : decode cL_act 834 = .ok (.iload 10, 2) := by decide +kernel
theorem dL_act_836 : decode cL_act 836 = .ok (.ifCond .ne 8, 3) := by decide +kernel
theorem dL_act_839 : decode cL_act 839 = .ok (.bipush 51, 2) := by decide +kernel
theorem dL_act_841 : decode cL_act 841 = .ok (.goto 6, 3) := by decide +kernel
theorem dL_act_844 : decode cL_act 844 = .ok (.sipush 501, 3) := by decide +kernel
theorem dL_act_847 : decode cL_act 847 = .ok (.invokestatic 49, 3) := by decide +kernel
theorem dL_act_850 : decode cL_act 850 = .ok (.istore 11, 2) := by decide +kernel
theorem dL_act_852 : decode cL_act 852 = .ok (.aload_n 0, 1) := by decide +kernel
theorem dL_act_853 : decode cL_act 853 = .ok (.iload 10, 2) := by decide +kernel
theorem dL_act_855 : decode cL_act 855 = .ok (.invokevirtual 24, 3) := by decide +kernel
theorem dL_act_858 : decode cL_act 858 = .ok (.istore 12, 2) := by decide +kernel
theorem dL_act_860 : decode cL_act 860 = .ok (.aload_n 0, 1) := by decide +kernel
theorem dL_act_861 : decode cL_act 861 = .ok (.iload 10, 2) := by decide +kernel
theorem dL_act_863 : decode cL_act 863 = .ok (.iload 11, 2) := by decide +kernel
theorem dL_act_865 : decode cL_act 865 = .ok (.invokevirtual 98, 3) := by decide +kernel
theorem dL_act_868 : decode cL_act 868 = .ok (.iload 12, 2) := by decide +kernel
theorem dL_act_870 : decode cL_act 870 = .ok (.if_icmp .ne 18, 3) := by decide +kernel
theorem dL_act_873 : decode cL_act 873 = .ok (.aload_n 0, 1) := by decide +kernel
theorem dL_act_874 : decode cL_act 874 = .ok (.iload 10, 2) := by decide +kernel
theorem dL_act_876 : decode cL_act 876 = .ok (.invokevirtual 24, 3) := by decide +kernel
theorem dL_act_879 : decode cL_act 879 = .ok (.iload 11, 2) := by decide +kernel
theorem dL_act_881 : decode cL_act 881 = .ok (.if_icmp .ne 7, 3) := by decide +kernel
theorem dL_act_884 : decode cL_act 884 = .ok (.iconst 1, 1) := by decide +kernel
theorem dL_act_885 : decode cL_act 885 = .ok (.goto 4, 3) := by decide +kernel
theorem dL_act_888 : decode cL_act 888 = .ok (.iconst 0, 1) := by decide +kernel
theorem dL_act_889 : decode cL_act 889 = .ok (.ireturn, 1) := by decide +kernel
theorem dL_act_890 : decode cL_act 890 = .ok (.iload 5, 2) := by decide +kernel
theorem dL_act_892 : decode cL_act 892 = .ok (.bipush 8, 2) := by decide +kernel
theorem dL_act_894 : decode cL_act 894 = .ok (.invokestatic 49, 3) := by decide +kernel
theorem dL_act_897 : decode cL_act 897 = .ok (.istore 10, 2) := by decide +kernel
theorem dL_act_899 : decode cL_act 899 = .ok (.aload_n 0, 1) := by decide +kernel
theorem dL_act_900 : decode cL_act 900 = .ok (.iload 10, 2) := by decide +kernel
theorem dL_act_902 : decode cL_act 902 = .ok (.iconst 2, 1) := by decide +kernel
theorem dL_act_903 : decode cL_act 903 = .ok (.invokevirtual 15, 3) := by decide +kernel
theorem dL_act_906 : decode cL_act 906 = .ok (.istore 11, 2) := by decide +kernel
theorem dL_act_908 : decode cL_act 908 = .ok (.iconst 1, 1) := by decide +kernel
theorem dL_act_909 : decode cL_act 909 = .ok (.iload 5, 2) := by decide +kernel
theorem dL_act_911 : decode cL_act 911 = .ok (.bipush 13, 2) := by decide +kernel
theorem dL_act_913 : decode cL_act 913 = .ok (.ishr, 1) := by decide +kernel
theorem dL_act_914 : decode cL_act 914 = .ok (.bipush 15, 2) := by decide +kernel
theorem dL_act_916 : decode cL_act 916 = .ok (.invokestatic 49, 3) := by decide +kernel
theorem dL_act_919 : decode cL_act 919 = .ok (.iadd, 1) := by decide +kernel
theorem dL_act_920 : decode cL_act 920 = .ok (.istore 12, 2) := by decide +kernel
theorem dL_act_922 : decode cL_act 922 = .ok (.aload_n 0, 1) := by decide +kernel
theorem dL_act_923 : decode cL_act 923 = .ok (.iload 10, 2) := by decide +kernel
theorem dL_act_925 : decode cL_act 925 = .ok (.iload 5, 2) := by decide +kernel
theorem dL_act_927 : decode cL_act 927 = .ok (.iconst 3, 1) := by decide +kernel
theorem dL_act_928 : decode cL_act 928 = .ok (.ishr, 1) := by decide +kernel
theorem dL_act_929 : decode cL_act 929 = .ok (.bipush 21, 2) := by decide +kernel
theorem dL_act_931 : decode cL_act 931 = .ok (.invokestatic 49, 3) := by decide +kernel
theorem dL_act_934 : decode cL_act 934 = .ok (.iload 5, 2) := by decide +kernel
theorem dL_act_936 : decode cL_act 936 = .ok (.bipush 8, 2) := by decide +kernel
theorem dL_act_938 : decode cL_act 938 = .ok (.ishr, 1) := by decide +kernel
theorem dL_act_939 : decode cL_act 939 = .ok (.bipush 21, 2) := by decide +kernel
theorem dL_act_941 : decode cL_act 941 = .ok (.invokestatic 49, 3) := by decide +kernel
theorem dL_act_944 : decode cL_act 944 = .ok (.iload 12, 2) := by decide +kernel
theorem dL_act_946 : decode cL_act 946 = .ok (.invokevirtual 101, 3) := by decide +kernel
theorem dL_act_949 : decode cL_act 949 = .ok (.iload 11, 2) := by decide +kernel
theorem dL_act_951 : decode cL_act 951 = .ok (.if_icmp .ne 19, 3) := by decide +kernel
theorem dL_act_954 : decode cL_act 954 = .ok (.aload_n 0, 1) := by decide +kernel
theorem dL_act_955 : decode cL_act 955 = .ok (.iload 10, 2) := by decide +kernel
theorem dL_act_957 : decode cL_act 957 = .ok (.iconst 2, 1) := by decide +kernel
theorem dL_act_958 : decode cL_act 958 = .ok (.invokevirtual 15, 3) := by decide +kernel
theorem dL_act_961 : decode cL_act 961 = .ok (.iload 12, 2) := by decide +kernel
theorem dL_act_963 : decode cL_act 963 = .ok (.if_icmp .ne 7, 3) := by decide +kernel
theorem dL_act_966 : decode cL_act 966 = .ok (.iconst 1, 1) := by decide +kernel
theorem dL_act_967 : decode cL_act 967 = .ok (.goto 4, 3) := by decide +kernel
theorem dL_act_970 : decode cL_act 970 = .ok (.iconst 0, 1) := by decide +kernel
theorem dL_act_971 : decode cL_act 971 = .ok (.ireturn, 1) := by decide +kernel
theorem dL_law_0 : decode cL_law 0 = .ok (.new 10, 3) := by decide +kernel
theorem dL_law_3 : decode cL_law 3 = .ok (.dup, 1) := by decide +kernel
theorem dL_law_4 : decode cL_law 4 = .ok (.invokespecial 104, 3) := by decide +kernel
theorem dL_law_7 : decode cL_law 7 = .ok (.astore_n 1, 1) := by decide +kernel
theorem dL_law_8 : decode cL_law 8 = .ok (.bipush 48, 2) := by decide +kernel
theorem dL_law_10 : decode cL_law 10 = .ok (.newarray .int, 2) := by decide +kernel
theorem dL_law_12 : decode cL_law 12 = .ok (.astore_n 2, 1) := by decide +kernel
theorem dL_law_13 : decode cL_law 13 = .ok (.bipush 6, 2) := by decide +kernel
theorem dL_law_15 : decode cL_law 15 = .ok (.newarray .int, 2) := by decide +kernel
theorem dL_law_17 : decode cL_law 17 = .ok (.astore_n 3, 1) := by decide +kernel
theorem dL_law_18 : decode cL_law 18 = .ok (.bipush 6, 2) := by decide +kernel
theorem dL_law_20 : decode cL_law 20 = .ok (.newarray .int, 2) := by decide +kernel
theorem dL_law_22 : decode cL_law 22 = .ok (.astore 4, 2) := by decide +kernel
theorem dL_law_24 : decode cL_law 24 = .ok (.iconst 0, 1) := by decide +kernel
theorem dL_law_25 : decode cL_law 25 = .ok (.istore 5, 2) := by decide +kernel
theorem dL_law_27 : decode cL_law 27 = .ok (.iload 5, 2) := by decide +kernel
theorem dL_law_29 : decode cL_law 29 = .ok (.bipush 32, 2) := by decide +kernel
theorem dL_law_31 : decode cL_law 31 = .ok (.if_icmp .ge 69, 3) := by decide +kernel
theorem dL_law_34 : decode cL_law 34 = .ok (.aload_n 1, 1) := by decide +kernel
theorem dL_law_35 : decode cL_law 35 = .ok (.aload_n 2, 1) := by decide +kernel
theorem dL_law_36 : decode cL_law 36 = .ok (.aload_n 3, 1) := by decide +kernel
theorem dL_law_37 : decode cL_law 37 = .ok (.aload 4, 2) := by decide +kernel
theorem dL_law_39 : decode cL_law 39 = .ok (.iload 5, 2) := by decide +kernel
theorem dL_law_41 : decode cL_law 41 = .ok (.iconst 2, 1) := by decide +kernel
theorem dL_law_42 : decode cL_law 42 = .ok (.if_icmp .ge 7, 3) := by decide +kernel
theorem dL_law_45 : decode cL_law 45 = .ok (.iconst 0, 1) := by decide +kernel
theorem dL_law_46 : decode cL_law 46 = .ok (.goto 11, 3) := by decide +kernel
theorem dL_law_49 : decode cL_law 49 = .ok (.aload_n 0, 1) := by decide +kernel
theorem dL_law_50 : decode cL_law 50 = .ok (.iconst 2, 1) := by decide +kernel
theorem dL_law_51 : decode cL_law 51 = .ok (.iload 5, 2) := by decide +kernel
theorem dL_law_53 : decode cL_law 53 = .ok (.imul, 1) := by decide +kernel
theorem dL_law_54 : decode cL_law 54 = .ok (.invokestatic 105, 3) := by decide +kernel
theorem dL_law_57 : decode cL_law 57 = .ok (.aload_n 0, 1) := by decide +kernel
theorem dL_law_58 : decode cL_law 58 = .ok (.iconst 2, 1) := by decide +kernel
theorem dL_law_59 : decode cL_law 59 = .ok (.iload 5, 2) := by decide +kernel
theorem dL_law_61 : decode cL_law 61 = .ok (.imul, 1) := by decide +kernel
theorem dL_law_62 : decode cL_law 62 = .ok (.iconst 1, 1) := by decide +kernel
theorem dL_law_63 : decode cL_law 63 = .ok (.iadd, 1) := by decide +kernel
theorem dL_law_64 : decode cL_law 64 = .ok (.invokestatic 105, 3) := by decide +kernel
theorem dL_law_67 : decode cL_law 67 = .ok (.invokestatic 109, 3) := by decide +kernel
theorem dL_law_70 : decode cL_law 70 = .ok (.ifCond .eq 22, 3) := by decide +kernel
theorem dL_law_73 : decode cL_law 73 = .ok (.iload 5, 2) := by decide +kernel
theorem dL_law_75 : decode cL_law 75 = .ok (.iconst 4, 1) := by decide +kernel
theorem dL_law_76 : decode cL_law 76 = .ok (.irem, 1) := by decide +kernel
theorem dL_law_77 : decode cL_law 77 = .ok (.iconst 3, 1) := by decide +kernel
theorem dL_law_78 : decode cL_law 78 = .ok (.if_icmp .ne 16, 3) := by decide +kernel
theorem dL_law_81 : decode cL_law 81 = .ok (.aload_n 1, 1) := by decide +kernel
theorem dL_law_82 : decode cL_law 82 = .ok (.aload_n 2, 1) := by decide +kernel
theorem dL_law_83 : decode cL_law 83 = .ok (.aload_n 3, 1) := by decide +kernel
theorem dL_law_84 : decode cL_law 84 = .ok (.aload 4, 2) := by decide +kernel
theorem dL_law_86 : decode cL_law 86 = .ok (.invokestatic 113, 3) := by decide +kernel
theorem dL_law_89 : decode cL_law 89 = .ok (.ifCond .ne 5, 3) := by decide +kernel
theorem dL_law_92 : decode cL_law 92 = .ok (.iconst 0, 1) := by decide +kernel
theorem dL_law_93 : decode cL_law 93 = .ok (.ireturn, 1) := by decide +kernel
theorem dL_law_94 : decode cL_law 94 = .ok (.iinc 5 1, 3) := by decide +kernel
theorem dL_law_97 : decode cL_law 97 = .ok (.goto (-70), 3) := by decide +kernel
theorem dL_law_100 : decode cL_law 100 = .ok (.aload_n 1, 1) := by decide +kernel
theorem dL_law_101 : decode cL_law 101 = .ok (.iconst 3, 1) := by decide +kernel
theorem dL_law_102 : decode cL_law 102 = .ok (.iconst 0, 1) := by decide +kernel
theorem dL_law_103 : decode cL_law 103 = .ok (.invokevirtual 98, 3) := by decide +kernel
theorem dL_law_106 : decode cL_law 106 = .ok (.ldc 68, 2) := by decide +kernel
theorem dL_law_108 : decode cL_law 108 = .ok (.if_icmp .ne 203, 3) := by decide +kernel
theorem dL_law_111 : decode cL_law 111 = .ok (.aload_n 1, 1) := by decide +kernel
theorem dL_law_112 : decode cL_law 112 = .ok (.iconst 2, 1) := by decide +kernel
theorem dL_law_113 : decode cL_law 113 = .ok (.iconst 0, 1) := by decide +kernel
theorem dL_law_114 : decode cL_law 114 = .ok (.invokevirtual 98, 3) := by decide +kernel
theorem dL_law_117 : decode cL_law 117 = .ok (.ldc 68, 2) := by decide +kernel
theorem dL_law_119 : decode cL_law 119 = .ok (.if_icmp .ne 192, 3) := by decide +kernel
theorem dL_law_122 : decode cL_law 122 = .ok (.aload_n 1, 1) := by decide +kernel
theorem dL_law_123 : decode cL_law 123 = .ok (.bipush 8, 2) := by decide +kernel
theorem dL_law_125 : decode cL_law 125 = .ok (.iconst 0, 1) := by decide +kernel
theorem dL_law_126 : decode cL_law 126 = .ok (.iconst 0, 1) := by decide +kernel
theorem dL_law_127 : decode cL_law 127 = .ok (.iconst 1, 1) := by decide +kernel
theorem dL_law_128 : decode cL_law 128 = .ok (.invokevirtual 101, 3) := by decide +kernel
theorem dL_law_131 : decode cL_law 131 = .ok (.ldc 79, 2) := by decide +kernel
theorem dL_law_133 : decode cL_law 133 = .ok (.if_icmp .ne 178, 3) := by decide +kernel
theorem dL_law_136 : decode cL_law 136 = .ok (.aload_n 1, 1) := by decide +kernel
theorem dL_law_137 : decode cL_law 137 = .ok (.iconst 0, 1) := by decide +kernel
theorem dL_law_138 : decode cL_law 138 = .ok (.bipush 21, 2) := by decide +kernel
theorem dL_law_140 : decode cL_law 140 = .ok (.iconst 0, 1) := by decide +kernel
theorem dL_law_141 : decode cL_law 141 = .ok (.iconst 1, 1) := by decide +kernel
theorem dL_law_142 : decode cL_law 142 = .ok (.invokevirtual 101, 3) := by decide +kernel
theorem dL_law_145 : decode cL_law 145 = .ok (.ldc 68, 2) := by decide +kernel
theorem dL_law_147 : decode cL_law 147 = .ok (.if_icmp .ne 164, 3) := by decide +kernel
theorem dL_law_150 : decode cL_law 150 = .ok (.aload_n 1, 1) := by decide +kernel
theorem dL_law_151 : decode cL_law 151 = .ok (.iconst 0, 1) := by decide +kernel
theorem dL_law_152 : decode cL_law 152 = .ok (.iconst 0, 1) := by decide +kernel
theorem dL_law_153 : decode cL_law 153 = .ok (.iconst 0, 1) := by decide +kernel
theorem dL_law_154 : decode cL_law 154 = .ok (.bipush 16, 2) := by decide +kernel
theorem dL_law_156 : decode cL_law 156 = .ok (.invokevirtual 101, 3) := by decide +kernel
theorem dL_law_159 : decode cL_law 159 = .ok (.ldc 68, 2) := by decide +kernel
theorem dL_law_161 : decode cL_law 161 = .ok (.if_icmp .ne 150, 3) := by decide +kernel
theorem dL_law_164 : decode cL_law 164 = .ok (.aload_n 1, 1) := by decide +kernel
theorem dL_law_165 : decode cL_law 165 = .ok (.iconst (-1), 1) := by decide +kernel
theorem dL_law_166 : decode cL_law 166 = .ok (.iconst 1, 1) := by decide +kernel
theorem dL_law_167 : decode cL_law 167 = .ok (.invokevirtual 94, 3) := by decide +kernel
theorem dL_law_170 : decode cL_law 170 = .ok (.ldc 79, 2) := by decide +kernel
theorem dL_law_172 : decode cL_law 172 = .ok (.if_icmp .ne 139, 3) := by decide +kernel
theorem dL_law_175 : decode cL_law 175 = .ok (.aload_n 1, 1) := by decide +kernel
theorem dL_law_176 : decode cL_law 176 = .ok (.bipush 6, 2) := by decide +kernel
theorem dL_law_178 : decode cL_law 178 = .ok (.iconst 0, 1) := by decide +kernel
theorem dL_law_179 : decode cL_law 179 = .ok (.invokevirtual 80, 3) := by decide +kernel
theorem dL_law_182 : decode cL_law 182 = .ok (.ldc 79, 2) := by decide +kernel
theorem dL_law_184 : decode cL_law 184 = .ok (.if_icmp .ne 127, 3) := by decide +kernel
theorem dL_law_187 : decode cL_law 187 = .ok (.aload_n 1, 1) := by decide +kernel
theorem dL_law_188 : decode cL_law 188 = .ok (.iconst 0, 1) := by decide +kernel
theorem dL_law_189 : decode cL_law 189 = .ok (.sipush 201, 3) := by decide +kernel
theorem dL_law_192 : decode cL_law 192 = .ok (.invokevirtual 80, 3) := by decide +kernel
theorem dL_law_195 : decode cL_law 195 = .ok (.ldc 68, 2) := by decide +kernel
theorem dL_law_197 : decode cL_law 197 = .ok (.if_icmp .ne 114, 3) := by decide +kernel
theorem dL_law_200 : decode cL_law 200 = .ok (.aload_n 1, 1) := by decide +kernel
theorem dL_law_201 : decode cL_law 201 = .ok (.iconst 0, 1) := by decide +kernel
theorem dL_law_202 : decode cL_law 202 = .ok (.bipush 8, 2) := by decide +kernel
theorem dL_law_204 : decode cL_law 204 = .ok (.iconst 1, 1) := by decide +kernel
theorem dL_law_205 : decode cL_law 205 = .ok (.invokevirtual 83, 3) := by decide +kernel
theorem dL_law_208 : decode cL_law 208 = .ok (.ldc 79, 2) := by decide +kernel
theorem dL_law_210 : decode cL_law 210 = .ok (.if_icmp .ne 101, 3) := by decide +kernel
theorem dL_law_213 : decode cL_law 213 = .ok (.aload_n 1, 1) := by decide +kernel
theorem dL_law_214 : decode cL_law 214 = .ok (.iconst 0, 1) := by decide +kernel
theorem dL_law_215 : decode cL_law 215 = .ok (.bipush (-2), 2) := by decide +kernel
theorem dL_law_217 : decode cL_law 217 = .ok (.invokevirtual 88, 3) := by decide +kernel
theorem dL_law_220 : decode cL_law 220 = .ok (.ldc 79, 2) := by decide +kernel
theorem dL_law_222 : decode cL_law 222 = .ok (.if_icmp .ne 89, 3) := by decide +kernel
theorem dL_law_225 : decode cL_law 225 = .ok (.aload_n 1, 1) := by decide +kernel
theorem dL_law_226 : decode cL_law 226 = .ok (.iconst 0, 1) := by decide +kernel
theorem dL_law_227 : decode cL_law 227 = .ok (.bipush 8, 2) := by decide +kernel
theorem dL_law_229 : decode cL_law 229 = .ok (.invokevirtual 88, 3) := by decide +kernel
theorem dL_law_232 : decode cL_law 232 = .ok (.ldc 79, 2) := by decide +kernel
theorem dL_law_234 : decode cL_law 234 = .ok (.if_icmp .ne 77, 3) := by decide +kernel
theorem dL_law_237 : decode cL_law 237 = .ok (.aload_n 1, 1) := by decide +kernel
theorem dL_law_238 : decode cL_law 238 = .ok (.iconst 0, 1) := by decide +kernel
theorem dL_law_239 : decode cL_law 239 = .ok (.iconst 0, 1) := by decide +kernel
theorem dL_law_240 : decode cL_law 240 = .ok (.iconst 5, 1) := by decide +kernel
theorem dL_law_241 : decode cL_law 241 = .ok (.invokevirtual 27, 3) := by decide +kernel
theorem dL_law_244 : decode cL_law 244 = .ok (.ldc 68, 2) := by decide +kernel
theorem dL_law_246 : decode cL_law 246 = .ok (.if_icmp .ne 65, 3) := by decide +kernel
theorem dL_law_249 : decode cL_law 249 = .ok (.aload_n 1, 1) := by decide +kernel
theorem dL_law_250 : decode cL_law 250 = .ok (.iconst 0, 1) := by decide +kernel
theorem dL_law_251 : decode cL_law 251 = .ok (.bipush 10, 2) := by decide +kernel
theorem dL_law_253 : decode cL_law 253 = .ok (.invokevirtual 9, 3) := by decide +kernel
theorem dL_law_256 : decode cL_law 256 = .ok (.ldc 68, 2) := by decide +kernel
theorem dL_law_258 : decode cL_law 258 = .ok (.if_icmp .ne 53, 3) := by decide +kernel
theorem dL_law_261 : decode cL_law 261 = .ok (.aload_n 1, 1) := by decide +kernel
theorem dL_law_262 : decode cL_law 262 = .ok (.iconst 0, 1) := by decide +kernel
theorem dL_law_263 : decode cL_law 263 = .ok (.bipush 8, 2) := by decide +kernel
theorem dL_law_265 : decode cL_law 265 = .ok (.invokevirtual 15, 3) := by decide +kernel
theorem dL_law_268 : decode cL_law 268 = .ok (.ldc 68, 2) := by decide +kernel
theorem dL_law_270 : decode cL_law 270 = .ok (.if_icmp .ne 41, 3) := by decide +kernel
theorem dL_law_273 : decode cL_law 273 = .ok (.aload_n 1, 1) := by decide +kernel
theorem dL_law_274 : decode cL_law 274 = .ok (.iconst 0, 1) := by decide +kernel
theorem dL_law_275 : decode cL_law 275 = .ok (.iconst (-1), 1) := by decide +kernel
theorem dL_law_276 : decode cL_law 276 = .ok (.invokevirtual 34, 3) := by decide +kernel
theorem dL_law_279 : decode cL_law 279 = .ok (.ldc 68, 2) := by decide +kernel
theorem dL_law_281 : decode cL_law 281 = .ok (.if_icmp .ne 30, 3) := by decide +kernel
theorem dL_law_284 : decode cL_law 284 = .ok (.aload_n 1, 1) := by decide +kernel
theorem dL_law_285 : decode cL_law 285 = .ok (.bipush 6, 2) := by decide +kernel
theorem dL_law_287 : decode cL_law 287 = .ok (.iconst 0, 1) := by decide +kernel
theorem dL_law_288 : decode cL_law 288 = .ok (.invokevirtual 31, 3) := by decide +kernel
theorem dL_law_291 : decode cL_law 291 = .ok (.ldc 79, 2) := by decide +kernel
theorem dL_law_293 : decode cL_law 293 = .ok (.if_icmp .ne 18, 3) := by decide +kernel
theorem dL_law_296 : decode cL_law 296 = .ok (.aload_n 1, 1) := by decide +kernel
theorem dL_law_297 : decode cL_law 297 = .ok (.bipush 13, 2) := by decide +kernel
theorem dL_law_299 : decode cL_law 299 = .ok (.invokevirtual 24, 3) := by decide +kernel
theorem dL_law_302 : decode cL_law 302 = .ok (.ldc 68, 2) := by decide +kernel
theorem dL_law_304 : decode cL_law 304 = .ok (.if_icmp .ne 7, 3) := by decide +kernel
theorem dL_law_307 : decode cL_law 307 = .ok (.iconst 1, 1) := by decide +kernel
theorem dL_law_308 : decode cL_law 308 = .ok (.goto 4, 3) := by decide +kernel
theorem dL_law_311 : decode cL_law 311 = .ok (.iconst 0, 1) := by decide +kernel
theorem dL_law_312 : decode cL_law 312 = .ok (.ireturn, 1) := by decide +kernel
