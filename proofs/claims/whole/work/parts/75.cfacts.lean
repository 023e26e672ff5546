theorem sy_0 : sp_y 0 = ⟨"SandPiano", "<init>", "()V"⟩ := by decide +kernel
theorem sl_0 : sp_l 0 = 2 := by decide +kernel
theorem sr_0 : sp_r 0 = none := by decide +kernel
theorem si_0_0 : decode (sp_b 0) 0 = .ok (.aload_n 0, 1) := by decide +kernel
theorem si_0_1 : decode (sp_b 0) 1 = .ok (.invokespecial 1, 3) := by decide +kernel
theorem si_0_4 : decode (sp_b 0) 4 = .ok (.aload_n 0, 1) := by decide +kernel
theorem si_0_5 : decode (sp_b 0) 5 = .ok (.new 7, 3) := by decide +kernel
theorem si_0_8 : decode (sp_b 0) 8 = .ok (.dup, 1) := by decide +kernel
theorem si_0_9 : decode (sp_b 0) 9 = .ok (.bipush 6, 2) := by decide +kernel
theorem si_0_11 : decode (sp_b 0) 11 = .ok (.bipush 40, 2) := by decide +kernel
theorem si_0_13 : decode (sp_b 0) 13 = .ok (.invokespecial 11, 3) := by decide +kernel
theorem si_0_16 : decode (sp_b 0) 16 = .ok (.putfield 14, 3) := by decide +kernel
theorem si_0_19 : decode (sp_b 0) 19 = .ok (.aload_n 0, 1) := by decide +kernel
theorem si_0_20 : decode (sp_b 0) 20 = .ok (.new 7, 3) := by decide +kernel
theorem si_0_23 : decode (sp_b 0) 23 = .ok (.dup, 1) := by decide +kernel
theorem si_0_24 : decode (sp_b 0) 24 = .ok (.iconst 4, 1) := by decide +kernel
theorem si_0_25 : decode (sp_b 0) 25 = .ok (.bipush 60, 2) := by decide +kernel
theorem si_0_27 : decode (sp_b 0) 27 = .ok (.invokespecial 11, 3) := by decide +kernel
theorem si_0_30 : decode (sp_b 0) 30 = .ok (.putfield 18, 3) := by decide +kernel
theorem si_0_33 : decode (sp_b 0) 33 = .ok (.aload_n 0, 1) := by decide +kernel
theorem si_0_34 : decode (sp_b 0) 34 = .ok (.new 21, 3) := by decide +kernel
theorem si_0_37 : decode (sp_b 0) 37 = .ok (.dup, 1) := by decide +kernel
theorem si_0_38 : decode (sp_b 0) 38 = .ok (.invokespecial 23, 3) := by decide +kernel
theorem si_0_41 : decode (sp_b 0) 41 = .ok (.putfield 24, 3) := by decide +kernel
theorem si_0_44 : decode (sp_b 0) 44 = .ok (.aload_n 0, 1) := by decide +kernel
theorem si_0_45 : decode (sp_b 0) 45 = .ok (.aload_n 0, 1) := by decide +kernel
theorem si_0_46 : decode (sp_b 0) 46 = .ok (.getfield 24, 3) := by decide +kernel
theorem si_0_49 : decode (sp_b 0) 49 = .ok (.getfield 28, 3) := by decide +kernel
theorem si_0_52 : decode (sp_b 0) 52 = .ok (.putfield 32, 3) := by decide +kernel
theorem si_0_55 : decode (sp_b 0) 55 = .ok (.aload_n 0, 1) := by decide +kernel
theorem si_0_56 : decode (sp_b 0) 56 = .ok (.new 33, 3) := by decide +kernel
theorem si_0_59 : decode (sp_b 0) 59 = .ok (.dup, 1) := by decide +kernel
theorem si_0_60 : decode (sp_b 0) 60 = .ok (.invokespecial 35, 3) := by decide +kernel
theorem si_0_63 : decode (sp_b 0) 63 = .ok (.putfield 36, 3) := by decide +kernel
theorem si_0_66 : decode (sp_b 0) 66 = .ok (.aload_n 0, 1) := by decide +kernel
theorem si_0_67 : decode (sp_b 0) 67 = .ok (.new 33, 3) := by decide +kernel
theorem si_0_70 : decode (sp_b 0) 70 = .ok (.dup, 1) := by decide +kernel
theorem si_0_71 : decode (sp_b 0) 71 = .ok (.invokespecial 35, 3) := by decide +kernel
theorem si_0_74 : decode (sp_b 0) 74 = .ok (.putfield 40, 3) := by decide +kernel
theorem si_0_77 : decode (sp_b 0) 77 = .ok (.aload_n 0, 1) := by decide +kernel
theorem si_0_78 : decode (sp_b 0) 78 = .ok (.new 33, 3) := by decide +kernel
theorem si_0_81 : decode (sp_b 0) 81 = .ok (.dup, 1) := by decide +kernel
theorem si_0_82 : decode (sp_b 0) 82 = .ok (.invokespecial 35, 3) := by decide +kernel
theorem si_0_85 : decode (sp_b 0) 85 = .ok (.putfield 43, 3) := by decide +kernel
theorem si_0_88 : decode (sp_b 0) 88 = .ok (.aload_n 0, 1) := by decide +kernel
theorem si_0_89 : decode (sp_b 0) 89 = .ok (.new 46, 3) := by decide +kernel
theorem si_0_92 : decode (sp_b 0) 92 = .ok (.dup, 1) := by decide +kernel
theorem si_0_93 : decode (sp_b 0) 93 = .ok (.invokespecial 48, 3) := by decide +kernel
theorem si_0_96 : decode (sp_b 0) 96 = .ok (.putfield 49, 3) := by decide +kernel
theorem si_0_99 : decode (sp_b 0) 99 = .ok (.aload_n 0, 1) := by decide +kernel
theorem si_0_100 : decode (sp_b 0) 100 = .ok (.iconst 3, 1) := by decide +kernel
theorem si_0_101 : decode (sp_b 0) 101 = .ok (.anewarray 46, 3) := by decide +kernel
theorem si_0_104 : decode (sp_b 0) 104 = .ok (.putfield 53, 3) := by decide +kernel
theorem si_0_107 : decode (sp_b 0) 107 = .ok (.aload_n 0, 1) := by decide +kernel
theorem si_0_108 : decode (sp_b 0) 108 = .ok (.new 57, 3) := by decide +kernel
theorem si_0_111 : decode (sp_b 0) 111 = .ok (.dup, 1) := by decide +kernel
theorem si_0_112 : decode (sp_b 0) 112 = .ok (.invokespecial 59, 3) := by decide +kernel
theorem si_0_115 : decode (sp_b 0) 115 = .ok (.putfield 60, 3) := by decide +kernel
theorem si_0_118 : decode (sp_b 0) 118 = .ok (.aload_n 0, 1) := by decide +kernel
theorem si_0_119 : decode (sp_b 0) 119 = .ok (.bipush 6, 2) := by decide +kernel
theorem si_0_121 : decode (sp_b 0) 121 = .ok (.newarray .int, 2) := by decide +kernel
theorem si_0_123 : decode (sp_b 0) 123 = .ok (.putfield 64, 3) := by decide +kernel
theorem si_0_126 : decode (sp_b 0) 126 = .ok (.aload_n 0, 1) := by decide +kernel
theorem si_0_127 : decode (sp_b 0) 127 = .ok (.lconst 1, 1) := by decide +kernel
theorem si_0_128 : decode (sp_b 0) 128 = .ok (.putfield 68, 3) := by decide +kernel
theorem si_0_131 : decode (sp_b 0) 131 = .ok (.iconst 0, 1) := by decide +kernel
theorem si_0_132 : decode (sp_b 0) 132 = .ok (.istore_n 1, 1) := by decide +kernel
theorem si_0_133 : decode (sp_b 0) 133 = .ok (.iload_n 1, 1) := by decide +kernel
theorem si_0_134 : decode (sp_b 0) 134 = .ok (.iconst 3, 1) := by decide +kernel
theorem si_0_135 : decode (sp_b 0) 135 = .ok (.if_icmp .ge 22, 3) := by decide +kernel
theorem si_0_138 : decode (sp_b 0) 138 = .ok (.aload_n 0, 1) := by decide +kernel
theorem si_0_139 : decode (sp_b 0) 139 = .ok (.getfield 53, 3) := by decide +kernel
theorem si_0_142 : decode (sp_b 0) 142 = .ok (.iload_n 1, 1) := by decide +kernel
theorem si_0_143 : decode (sp_b 0) 143 = .ok (.new 46, 3) := by decide +kernel
theorem si_0_146 : decode (sp_b 0) 146 = .ok (.dup, 1) := by decide +kernel
theorem si_0_147 : decode (sp_b 0) 147 = .ok (.invokespecial 48, 3) := by decide +kernel
theorem si_0_150 : decode (sp_b 0) 150 = .ok (.aastore, 1) := by decide +kernel
theorem si_0_151 : decode (sp_b 0) 151 = .ok (.iinc 1 1, 3) := by decide +kernel
theorem si_0_154 : decode (sp_b 0) 154 = .ok (.goto (-21), 3) := by decide +kernel
theorem si_0_157 : decode (sp_b 0) 157 = .ok (.return_, 1) := by decide +kernel
theorem sy_2 : sp_y 2 = ⟨"SandPiano$Shelf", "<init>", "(II)V"⟩ := by decide +kernel
theorem sl_2 : sp_l 2 = 3 := by decide +kernel
theorem sr_2 : sp_r 2 = none := by decide +kernel
theorem si_2_0 : decode (sp_b 2) 0 = .ok (.aload_n 0, 1) := by decide +kernel
theorem si_2_1 : decode (sp_b 2) 1 = .ok (.invokespecial 1, 3) := by decide +kernel
theorem si_2_4 : decode (sp_b 2) 4 = .ok (.aload_n 0, 1) := by decide +kernel
theorem si_2_5 : decode (sp_b 2) 5 = .ok (.iload_n 1, 1) := by decide +kernel
theorem si_2_6 : decode (sp_b 2) 6 = .ok (.iload_n 2, 1) := by decide +kernel
theorem si_2_7 : decode (sp_b 2) 7 = .ok (.multianewarray 7 2, 4) := by decide +kernel
theorem si_2_11 : decode (sp_b 2) 11 = .ok (.putfield 9, 3) := by decide +kernel
theorem si_2_14 : decode (sp_b 2) 14 = .ok (.aload_n 0, 1) := by decide +kernel
theorem si_2_15 : decode (sp_b 2) 15 = .ok (.iload_n 1, 1) := by decide +kernel
theorem si_2_16 : decode (sp_b 2) 16 = .ok (.newarray .int, 2) := by decide +kernel
theorem si_2_18 : decode (sp_b 2) 18 = .ok (.putfield 14, 3) := by decide +kernel
theorem si_2_21 : decode (sp_b 2) 21 = .ok (.aload_n 0, 1) := by decide +kernel
theorem si_2_22 : decode (sp_b 2) 22 = .ok (.getfield 14, 3) := by decide +kernel
theorem si_2_25 : decode (sp_b 2) 25 = .ok (.iconst (-1), 1) := by decide +kernel
theorem si_2_26 : decode (sp_b 2) 26 = .ok (.invokestatic 18, 3) := by decide +kernel
theorem si_2_29 : decode (sp_b 2) 29 = .ok (.return_, 1) := by decide +kernel
theorem sy_4 : sp_y 4 = ⟨"SandPiano$Search", "<init>", "()V"⟩ := by decide +kernel
theorem sl_4 : sp_l 4 = 2 := by decide +kernel
theorem sr_4 : sp_r 4 = none := by decide +kernel
theorem si_4_0 : decode (sp_b 4) 0 = .ok (.aload_n 0, 1) := by decide +kernel
theorem si_4_1 : decode (sp_b 4) 1 = .ok (.invokespecial 3, 3) := by decide +kernel
theorem si_4_4 : decode (sp_b 4) 4 = .ok (.aload_n 0, 1) := by decide +kernel
theorem si_4_5 : decode (sp_b 4) 5 = .ok (.new 9, 3) := by decide +kernel
theorem si_4_8 : decode (sp_b 4) 8 = .ok (.dup, 1) := by decide +kernel
theorem si_4_9 : decode (sp_b 4) 9 = .ok (.invokespecial 11, 3) := by decide +kernel
theorem si_4_12 : decode (sp_b 4) 12 = .ok (.putfield 12, 3) := by decide +kernel
theorem si_4_15 : decode (sp_b 4) 15 = .ok (.aload_n 0, 1) := by decide +kernel
theorem si_4_16 : decode (sp_b 4) 16 = .ok (.bipush 7, 2) := by decide +kernel
theorem si_4_18 : decode (sp_b 4) 18 = .ok (.anewarray 18, 3) := by decide +kernel
theorem si_4_21 : decode (sp_b 4) 21 = .ok (.putfield 20, 3) := by decide +kernel
theorem si_4_24 : decode (sp_b 4) 24 = .ok (.aload_n 0, 1) := by decide +kernel
theorem si_4_25 : decode (sp_b 4) 25 = .ok (.bipush 6, 2) := by decide +kernel
theorem si_4_27 : decode (sp_b 4) 27 = .ok (.newarray .int, 2) := by decide +kernel
theorem si_4_29 : decode (sp_b 4) 29 = .ok (.putfield 24, 3) := by decide +kernel
theorem si_4_32 : decode (sp_b 4) 32 = .ok (.aload_n 0, 1) := by decide +kernel
theorem si_4_33 : decode (sp_b 4) 33 = .ok (.bipush 6, 2) := by decide +kernel
theorem si_4_35 : decode (sp_b 4) 35 = .ok (.newarray .int, 2) := by decide +kernel
theorem si_4_37 : decode (sp_b 4) 37 = .ok (.putfield 28, 3) := by decide +kernel
theorem si_4_40 : decode (sp_b 4) 40 = .ok (.aload_n 0, 1) := by decide +kernel
theorem si_4_41 : decode (sp_b 4) 41 = .ok (.new 31, 3) := by decide +kernel
theorem si_4_44 : decode (sp_b 4) 44 = .ok (.dup, 1) := by decide +kernel
theorem si_4_45 : decode (sp_b 4) 45 = .ok (.invokespecial 33, 3) := by decide +kernel
theorem si_4_48 : decode (sp_b 4) 48 = .ok (.putfield 34, 3) := by decide +kernel
theorem si_4_51 : decode (sp_b 4) 51 = .ok (.aload_n 0, 1) := by decide +kernel
theorem si_4_52 : decode (sp_b 4) 52 = .ok (.iconst (-1), 1) := by decide +kernel
theorem si_4_53 : decode (sp_b 4) 53 = .ok (.putfield 38, 3) := by decide +kernel
theorem si_4_56 : decode (sp_b 4) 56 = .ok (.iconst 0, 1) := by decide +kernel
theorem si_4_57 : decode (sp_b 4) 57 = .ok (.istore_n 1, 1) := by decide +kernel
theorem si_4_58 : decode (sp_b 4) 58 = .ok (.iload_n 1, 1) := by decide +kernel
theorem si_4_59 : decode (sp_b 4) 59 = .ok (.bipush 6, 2) := by decide +kernel
theorem si_4_61 : decode (sp_b 4) 61 = .ok (.if_icmp .gt 22, 3) := by decide +kernel
theorem si_4_64 : decode (sp_b 4) 64 = .ok (.aload_n 0, 1) := by decide +kernel
theorem si_4_65 : decode (sp_b 4) 65 = .ok (.getfield 20, 3) := by decide +kernel
theorem si_4_68 : decode (sp_b 4) 68 = .ok (.iload_n 1, 1) := by decide +kernel
theorem si_4_69 : decode (sp_b 4) 69 = .ok (.new 18, 3) := by decide +kernel
theorem si_4_72 : decode (sp_b 4) 72 = .ok (.dup, 1) := by decide +kernel
theorem si_4_73 : decode (sp_b 4) 73 = .ok (.invokespecial 42, 3) := by decide +kernel
theorem si_4_76 : decode (sp_b 4) 76 = .ok (.aastore, 1) := by decide +kernel
theorem si_4_77 : decode (sp_b 4) 77 = .ok (.iinc 1 1, 3) := by decide +kernel
theorem si_4_80 : decode (sp_b 4) 80 = .ok (.goto (-22), 3) := by decide +kernel
theorem si_4_83 : decode (sp_b 4) 83 = .ok (.return_, 1) := by decide +kernel
theorem sy_5 : sp_y 5 = ⟨"SandPiano$Keys", "<init>", "()V"⟩ := by decide +kernel
theorem sl_5 : sp_l 5 = 1 := by decide +kernel
theorem sr_5 : sp_r 5 = none := by decide +kernel
theorem si_5_0 : decode (sp_b 5) 0 = .ok (.aload_n 0, 1) := by decide +kernel
theorem si_5_1 : decode (sp_b 5) 1 = .ok (.invokespecial 3, 3) := by decide +kernel
theorem si_5_4 : decode (sp_b 5) 4 = .ok (.aload_n 0, 1) := by decide +kernel
theorem si_5_5 : decode (sp_b 5) 5 = .ok (.bipush 6, 2) := by decide +kernel
theorem si_5_7 : decode (sp_b 5) 7 = .ok (.newarray .int, 2) := by decide +kernel
theorem si_5_9 : decode (sp_b 5) 9 = .ok (.putfield 9, 3) := by decide +kernel
theorem si_5_12 : decode (sp_b 5) 12 = .ok (.aload_n 0, 1) := by decide +kernel
theorem si_5_13 : decode (sp_b 5) 13 = .ok (.bipush 6, 2) := by decide +kernel
theorem si_5_15 : decode (sp_b 5) 15 = .ok (.newarray .int, 2) := by decide +kernel
theorem si_5_17 : decode (sp_b 5) 17 = .ok (.putfield 15, 3) := by decide +kernel
theorem si_5_20 : decode (sp_b 5) 20 = .ok (.aload_n 0, 1) := by decide +kernel
theorem si_5_21 : decode (sp_b 5) 21 = .ok (.bipush 6, 2) := by decide +kernel
theorem si_5_23 : decode (sp_b 5) 23 = .ok (.newarray .int, 2) := by decide +kernel
theorem si_5_25 : decode (sp_b 5) 25 = .ok (.putfield 18, 3) := by decide +kernel
theorem si_5_28 : decode (sp_b 5) 28 = .ok (.return_, 1) := by decide +kernel
theorem sy_6 : sp_y 6 = ⟨"SandPiano$SandSet", "<init>", "()V"⟩ := by decide +kernel
theorem sl_6 : sp_l 6 = 1 := by decide +kernel
theorem sr_6 : sp_r 6 = none := by decide +kernel
theorem si_6_0 : decode (sp_b 6) 0 = .ok (.aload_n 0, 1) := by decide +kernel
theorem si_6_1 : decode (sp_b 6) 1 = .ok (.invokespecial 3, 3) := by decide +kernel
theorem si_6_4 : decode (sp_b 6) 4 = .ok (.aload_n 0, 1) := by decide +kernel
theorem si_6_5 : decode (sp_b 6) 5 = .ok (.sipush 2048, 3) := by decide +kernel
theorem si_6_8 : decode (sp_b 6) 8 = .ok (.newarray .long, 2) := by decide +kernel
theorem si_6_10 : decode (sp_b 6) 10 = .ok (.putfield 11, 3) := by decide +kernel
theorem si_6_13 : decode (sp_b 6) 13 = .ok (.return_, 1) := by decide +kernel
theorem sy_7 : sp_y 7 = ⟨"SandPiano$Sand", "<init>", "()V"⟩ := by decide +kernel
theorem sl_7 : sp_l 7 = 1 := by decide +kernel
theorem sr_7 : sp_r 7 = none := by decide +kernel
theorem si_7_0 : decode (sp_b 7) 0 = .ok (.aload_n 0, 1) := by decide +kernel
theorem si_7_1 : decode (sp_b 7) 1 = .ok (.invokespecial 3, 3) := by decide +kernel
theorem si_7_4 : decode (sp_b 7) 4 = .ok (.aload_n 0, 1) := by decide +kernel
theorem si_7_5 : decode (sp_b 7) 5 = .ok (.bipush 6, 2) := by decide +kernel
theorem si_7_7 : decode (sp_b 7) 7 = .ok (.newarray .int, 2) := by decide +kernel
theorem si_7_9 : decode (sp_b 7) 9 = .ok (.putfield 9, 3) := by decide +kernel
theorem si_7_12 : decode (sp_b 7) 12 = .ok (.return_, 1) := by decide +kernel
theorem sy_8 : sp_y 8 = ⟨"SandPiano$Story", "<init>", "()V"⟩ := by decide +kernel
theorem sl_8 : sp_l 8 = 1 := by decide +kernel
theorem sr_8 : sp_r 8 = none := by decide +kernel
theorem si_8_0 : decode (sp_b 8) 0 = .ok (.aload_n 0, 1) := by decide +kernel
theorem si_8_1 : decode (sp_b 8) 1 = .ok (.invokespecial 3, 3) := by decide +kernel
theorem si_8_4 : decode (sp_b 8) 4 = .ok (.aload_n 0, 1) := by decide +kernel
theorem si_8_5 : decode (sp_b 8) 5 = .ok (.sipush 549, 3) := by decide +kernel
theorem si_8_8 : decode (sp_b 8) 8 = .ok (.newarray .int, 2) := by decide +kernel
theorem si_8_10 : decode (sp_b 8) 10 = .ok (.putfield 11, 3) := by decide +kernel
theorem si_8_13 : decode (sp_b 8) 13 = .ok (.aload_n 0, 1) := by decide +kernel
theorem si_8_14 : decode (sp_b 8) 14 = .ok (.iconst 1, 1) := by decide +kernel
theorem si_8_15 : decode (sp_b 8) 15 = .ok (.putfield 17, 3) := by decide +kernel
theorem si_8_18 : decode (sp_b 8) 18 = .ok (.return_, 1) := by decide +kernel
theorem sy_9 : sp_y 9 = ⟨"SandPiano$Reader", "<init>", "()V"⟩ := by decide +kernel
theorem sl_9 : sp_l 9 = 1 := by decide +kernel
theorem sr_9 : sp_r 9 = none := by decide +kernel
theorem si_9_0 : decode (sp_b 9) 0 = .ok (.aload_n 0, 1) := by decide +kernel
theorem si_9_1 : decode (sp_b 9) 1 = .ok (.invokespecial 3, 3) := by decide +kernel
theorem si_9_4 : decode (sp_b 9) 4 = .ok (.aload_n 0, 1) := by decide +kernel
theorem si_9_5 : decode (sp_b 9) 5 = .ok (.new 9, 3) := by decide +kernel
theorem si_9_8 : decode (sp_b 9) 8 = .ok (.dup, 1) := by decide +kernel
theorem si_9_9 : decode (sp_b 9) 9 = .ok (.invokespecial 11, 3) := by decide +kernel
theorem si_9_12 : decode (sp_b 9) 12 = .ok (.putfield 12, 3) := by decide +kernel
theorem si_9_15 : decode (sp_b 9) 15 = .ok (.aload_n 0, 1) := by decide +kernel
theorem si_9_16 : decode (sp_b 9) 16 = .ok (.new 18, 3) := by decide +kernel
theorem si_9_19 : decode (sp_b 9) 19 = .ok (.dup, 1) := by decide +kernel
theorem si_9_20 : decode (sp_b 9) 20 = .ok (.invokespecial 20, 3) := by decide +kernel
theorem si_9_23 : decode (sp_b 9) 23 = .ok (.putfield 21, 3) := by decide +kernel
theorem si_9_26 : decode (sp_b 9) 26 = .ok (.aload_n 0, 1) := by decide +kernel
theorem si_9_27 : decode (sp_b 9) 27 = .ok (.iconst 1, 1) := by decide +kernel
theorem si_9_28 : decode (sp_b 9) 28 = .ok (.putfield 25, 3) := by decide +kernel
theorem si_9_31 : decode (sp_b 9) 31 = .ok (.return_, 1) := by decide +kernel
theorem sy_132 : sp_y 132 = ⟨"SandPianoModel", "<init>", "()V"⟩ := by decide +kernel
theorem sl_132 : sp_l 132 = 2 := by decide +kernel
theorem sr_132 : sp_r 132 = none := by decide +kernel
theorem si_132_0 : decode (sp_b 132) 0 = .ok (.aload_n 0, 1) := by decide +kernel
theorem si_132_1 : decode (sp_b 132) 1 = .ok (.invokespecial 1, 3) := by decide +kernel
theorem si_132_4 : decode (sp_b 132) 4 = .ok (.aload_n 0, 1) := by decide +kernel
theorem si_132_5 : decode (sp_b 132) 5 = .ok (.bipush 6, 2) := by decide +kernel
theorem si_132_7 : decode (sp_b 132) 7 = .ok (.newarray .int, 2) := by decide +kernel
theorem si_132_9 : decode (sp_b 132) 9 = .ok (.putfield 7, 3) := by decide +kernel
theorem si_132_12 : decode (sp_b 132) 12 = .ok (.aload_n 0, 1) := by decide +kernel
theorem si_132_13 : decode (sp_b 132) 13 = .ok (.lconst 1, 1) := by decide +kernel
theorem si_132_14 : decode (sp_b 132) 14 = .ok (.putfield 13, 3) := by decide +kernel
theorem si_132_17 : decode (sp_b 132) 17 = .ok (.aload_n 0, 1) := by decide +kernel
theorem si_132_18 : decode (sp_b 132) 18 = .ok (.bipush 6, 2) := by decide +kernel
theorem si_132_20 : decode (sp_b 132) 20 = .ok (.newarray .int, 2) := by decide +kernel
theorem si_132_22 : decode (sp_b 132) 22 = .ok (.putfield 17, 3) := by decide +kernel
theorem si_132_25 : decode (sp_b 132) 25 = .ok (.aload_n 0, 1) := by decide +kernel
theorem si_132_26 : decode (sp_b 132) 26 = .ok (.sipush 240, 3) := by decide +kernel
theorem si_132_29 : decode (sp_b 132) 29 = .ok (.newarray .int, 2) := by decide +kernel
theorem si_132_31 : decode (sp_b 132) 31 = .ok (.putfield 20, 3) := by decide +kernel
theorem si_132_34 : decode (sp_b 132) 34 = .ok (.aload_n 0, 1) := by decide +kernel
theorem si_132_35 : decode (sp_b 132) 35 = .ok (.bipush 40, 2) := by decide +kernel
theorem si_132_37 : decode (sp_b 132) 37 = .ok (.newarray .int, 2) := by decide +kernel
theorem si_132_39 : decode (sp_b 132) 39 = .ok (.putfield 23, 3) := by decide +kernel
theorem si_132_42 : decode (sp_b 132) 42 = .ok (.aload_n 0, 1) := by decide +kernel
theorem si_132_43 : decode (sp_b 132) 43 = .ok (.iconst 4, 1) := by decide +kernel
theorem si_132_44 : decode (sp_b 132) 44 = .ok (.newarray .int, 2) := by decide +kernel
theorem si_132_46 : decode (sp_b 132) 46 = .ok (.putfield 26, 3) := by decide +kernel
theorem si_132_49 : decode (sp_b 132) 49 = .ok (.aload_n 0, 1) := by decide +kernel
theorem si_132_50 : decode (sp_b 132) 50 = .ok (.sipush 240, 3) := by decide +kernel
theorem si_132_53 : decode (sp_b 132) 53 = .ok (.newarray .byte, 2) := by decide +kernel
theorem si_132_55 : decode (sp_b 132) 55 = .ok (.putfield 29, 3) := by decide +kernel
theorem si_132_58 : decode (sp_b 132) 58 = .ok (.aload_n 0, 1) := by decide +kernel
theorem si_132_59 : decode (sp_b 132) 59 = .ok (.bipush 6, 2) := by decide +kernel
theorem si_132_61 : decode (sp_b 132) 61 = .ok (.newarray .int, 2) := by decide +kernel
theorem si_132_63 : decode (sp_b 132) 63 = .ok (.putfield 33, 3) := by decide +kernel
theorem si_132_66 : decode (sp_b 132) 66 = .ok (.aload_n 0, 1) := by decide +kernel
theorem si_132_67 : decode (sp_b 132) 67 = .ok (.bipush 6, 2) := by decide +kernel
theorem si_132_69 : decode (sp_b 132) 69 = .ok (.newarray .int, 2) := by decide +kernel
theorem si_132_71 : decode (sp_b 132) 71 = .ok (.putfield 36, 3) := by decide +kernel
theorem si_132_74 : decode (sp_b 132) 74 = .ok (.aload_n 0, 1) := by decide +kernel
theorem si_132_75 : decode (sp_b 132) 75 = .ok (.bipush 6, 2) := by decide +kernel
theorem si_132_77 : decode (sp_b 132) 77 = .ok (.newarray .int, 2) := by decide +kernel
theorem si_132_79 : decode (sp_b 132) 79 = .ok (.putfield 39, 3) := by decide +kernel
theorem si_132_82 : decode (sp_b 132) 82 = .ok (.aload_n 0, 1) := by decide +kernel
theorem si_132_83 : decode (sp_b 132) 83 = .ok (.bipush 24, 2) := by decide +kernel
theorem si_132_85 : decode (sp_b 132) 85 = .ok (.newarray .int, 2) := by decide +kernel
theorem si_132_87 : decode (sp_b 132) 87 = .ok (.putfield 42, 3) := by decide +kernel
theorem si_132_90 : decode (sp_b 132) 90 = .ok (.aload_n 0, 1) := by decide +kernel
theorem si_132_91 : decode (sp_b 132) 91 = .ok (.sipush 135, 3) := by decide +kernel
theorem si_132_94 : decode (sp_b 132) 94 = .ok (.newarray .int, 2) := by decide +kernel
theorem si_132_96 : decode (sp_b 132) 96 = .ok (.putfield 45, 3) := by decide +kernel
theorem si_132_99 : decode (sp_b 132) 99 = .ok (.aload_n 0, 1) := by decide +kernel
theorem si_132_100 : decode (sp_b 132) 100 = .ok (.sipush 540, 3) := by decide +kernel
theorem si_132_103 : decode (sp_b 132) 103 = .ok (.newarray .int, 2) := by decide +kernel
theorem si_132_105 : decode (sp_b 132) 105 = .ok (.putfield 48, 3) := by decide +kernel
theorem si_132_108 : decode (sp_b 132) 108 = .ok (.aload_n 0, 1) := by decide +kernel
theorem si_132_109 : decode (sp_b 132) 109 = .ok (.iconst 3, 1) := by decide +kernel
theorem si_132_110 : decode (sp_b 132) 110 = .ok (.newarray .boolean, 2) := by decide +kernel
theorem si_132_112 : decode (sp_b 132) 112 = .ok (.putfield 51, 3) := by decide +kernel
theorem si_132_115 : decode (sp_b 132) 115 = .ok (.aload_n 0, 1) := by decide +kernel
theorem si_132_116 : decode (sp_b 132) 116 = .ok (.iconst 3, 1) := by decide +kernel
theorem si_132_117 : decode (sp_b 132) 117 = .ok (.newarray .int, 2) := by decide +kernel
theorem si_132_119 : decode (sp_b 132) 119 = .ok (.putfield 55, 3) := by decide +kernel
theorem si_132_122 : decode (sp_b 132) 122 = .ok (.aload_n 0, 1) := by decide +kernel
theorem si_132_123 : decode (sp_b 132) 123 = .ok (.iconst 3, 1) := by decide +kernel
theorem si_132_124 : decode (sp_b 132) 124 = .ok (.newarray .int, 2) := by decide +kernel
theorem si_132_126 : decode (sp_b 132) 126 = .ok (.putfield 58, 3) := by decide +kernel
theorem si_132_129 : decode (sp_b 132) 129 = .ok (.aload_n 0, 1) := by decide +kernel
theorem si_132_130 : decode (sp_b 132) 130 = .ok (.bipush 27, 2) := by decide +kernel
theorem si_132_132 : decode (sp_b 132) 132 = .ok (.newarray .int, 2) := by decide +kernel
theorem si_132_134 : decode (sp_b 132) 134 = .ok (.putfield 61, 3) := by decide +kernel
theorem si_132_137 : decode (sp_b 132) 137 = .ok (.aload_n 0, 1) := by decide +kernel
theorem si_132_138 : decode (sp_b 132) 138 = .ok (.sipush 1620, 3) := by decide +kernel
theorem si_132_141 : decode (sp_b 132) 141 = .ok (.newarray .int, 2) := by decide +kernel
theorem si_132_143 : decode (sp_b 132) 143 = .ok (.putfield 64, 3) := by decide +kernel
theorem si_132_146 : decode (sp_b 132) 146 = .ok (.aload_n 0, 1) := by decide +kernel
theorem si_132_147 : decode (sp_b 132) 147 = .ok (.bipush 12, 2) := by decide +kernel
theorem si_132_149 : decode (sp_b 132) 149 = .ok (.newarray .int, 2) := by decide +kernel
theorem si_132_151 : decode (sp_b 132) 151 = .ok (.putfield 67, 3) := by decide +kernel
theorem si_132_154 : decode (sp_b 132) 154 = .ok (.aload_n 0, 1) := by decide +kernel
theorem si_132_155 : decode (sp_b 132) 155 = .ok (.bipush 12, 2) := by decide +kernel
theorem si_132_157 : decode (sp_b 132) 157 = .ok (.newarray .int, 2) := by decide +kernel
theorem si_132_159 : decode (sp_b 132) 159 = .ok (.putfield 70, 3) := by decide +kernel
theorem si_132_162 : decode (sp_b 132) 162 = .ok (.aload_n 0, 1) := by decide +kernel
theorem si_132_163 : decode (sp_b 132) 163 = .ok (.sipush 7776, 3) := by decide +kernel
theorem si_132_166 : decode (sp_b 132) 166 = .ok (.newarray .int, 2) := by decide +kernel
theorem si_132_168 : decode (sp_b 132) 168 = .ok (.putfield 73, 3) := by decide +kernel
theorem si_132_171 : decode (sp_b 132) 171 = .ok (.aload_n 0, 1) := by decide +kernel
theorem si_132_172 : decode (sp_b 132) 172 = .ok (.iconst 1, 1) := by decide +kernel
theorem si_132_173 : decode (sp_b 132) 173 = .ok (.putfield 76, 3) := by decide +kernel
theorem si_132_176 : decode (sp_b 132) 176 = .ok (.iconst 0, 1) := by decide +kernel
theorem si_132_177 : decode (sp_b 132) 177 = .ok (.istore_n 1, 1) := by decide +kernel
theorem si_132_178 : decode (sp_b 132) 178 = .ok (.iload_n 1, 1) := by decide +kernel
theorem si_132_179 : decode (sp_b 132) 179 = .ok (.bipush 6, 2) := by decide +kernel
theorem si_132_181 : decode (sp_b 132) 181 = .ok (.if_icmp .ge 16, 3) := by decide +kernel
theorem si_132_184 : decode (sp_b 132) 184 = .ok (.aload_n 0, 1) := by decide +kernel
theorem si_132_185 : decode (sp_b 132) 185 = .ok (.getfield 17, 3) := by decide +kernel
theorem si_132_188 : decode (sp_b 132) 188 = .ok (.iload_n 1, 1) := by decide +kernel
theorem si_132_189 : decode (sp_b 132) 189 = .ok (.iconst (-1), 1) := by decide +kernel
theorem si_132_190 : decode (sp_b 132) 190 = .ok (.iastore, 1) := by decide +kernel
theorem si_132_191 : decode (sp_b 132) 191 = .ok (.iinc 1 1, 3) := by decide +kernel
theorem si_132_194 : decode (sp_b 132) 194 = .ok (.goto (-16), 3) := by decide +kernel
theorem si_132_197 : decode (sp_b 132) 197 = .ok (.iconst 0, 1) := by decide +kernel
theorem si_132_198 : decode (sp_b 132) 198 = .ok (.istore_n 1, 1) := by decide +kernel
theorem si_132_199 : decode (sp_b 132) 199 = .ok (.iload_n 1, 1) := by decide +kernel
theorem si_132_200 : decode (sp_b 132) 200 = .ok (.iconst 4, 1) := by decide +kernel
theorem si_132_201 : decode (sp_b 132) 201 = .ok (.if_icmp .ge 16, 3) := by decide +kernel
theorem si_132_204 : decode (sp_b 132) 204 = .ok (.aload_n 0, 1) := by decide +kernel
theorem si_132_205 : decode (sp_b 132) 205 = .ok (.getfield 26, 3) := by decide +kernel
theorem si_132_208 : decode (sp_b 132) 208 = .ok (.iload_n 1, 1) := by decide +kernel
theorem si_132_209 : decode (sp_b 132) 209 = .ok (.iconst (-1), 1) := by decide +kernel
theorem si_132_210 : decode (sp_b 132) 210 = .ok (.iastore, 1) := by decide +kernel
theorem si_132_211 : decode (sp_b 132) 211 = .ok (.iinc 1 1, 3) := by decide +kernel
theorem si_132_214 : decode (sp_b 132) 214 = .ok (.goto (-15), 3) := by decide +kernel
theorem si_132_217 : decode (sp_b 132) 217 = .ok (.return_, 1) := by decide +kernel
