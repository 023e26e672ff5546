theorem si_164_0 : decode (sp_b 164) 0 = .ok (.aload_n 0, 1) := by decide +kernel
theorem si_164_1 : decode (sp_b 164) 1 = .ok (.getfield 45, 3) := by decide +kernel
theorem sf_164_45 : sp_okF 164 45 8 20 856 = true := by decide +kernel
theorem si_164_4 : decode (sp_b 164) 4 = .ok (.bipush 9, 2) := by decide +kernel
theorem si_164_6 : decode (sp_b 164) 6 = .ok (.iload_n 1, 1) := by decide +kernel
theorem si_164_7 : decode (sp_b 164) 7 = .ok (.imul, 1) := by decide +kernel
theorem si_164_8 : decode (sp_b 164) 8 = .ok (.iload_n 2, 1) := by decide +kernel
theorem si_164_9 : decode (sp_b 164) 9 = .ok (.iadd, 1) := by decide +kernel
theorem si_164_10 : decode (sp_b 164) 10 = .ok (.iaload, 1) := by decide +kernel
theorem si_164_11 : decode (sp_b 164) 11 = .ok (.ireturn, 1) := by decide +kernel
theorem si_165_0 : decode (sp_b 165) 0 = .ok (.aload_n 0, 1) := by decide +kernel
theorem si_165_1 : decode (sp_b 165) 1 = .ok (.getfield 33, 3) := by decide +kernel
theorem sf_165_33 : sp_okF 165 33 8 12 848 = true := by decide +kernel
theorem si_165_4 : decode (sp_b 165) 4 = .ok (.iload_n 2, 1) := by decide +kernel
theorem si_165_5 : decode (sp_b 165) 5 = .ok (.iaload, 1) := by decide +kernel
theorem si_165_6 : decode (sp_b 165) 6 = .ok (.istore_n 3, 1) := by decide +kernel
theorem si_165_7 : decode (sp_b 165) 7 = .ok (.iload_n 3, 1) := by decide +kernel
theorem si_165_8 : decode (sp_b 165) 8 = .ok (.iconst 5, 1) := by decide +kernel
theorem si_165_9 : decode (sp_b 165) 9 = .ok (.if_icmp .eq 29, 3) := by decide +kernel
theorem si_165_12 : decode (sp_b 165) 12 = .ok (.aload_n 0, 1) := by decide +kernel
theorem si_165_13 : decode (sp_b 165) 13 = .ok (.iload_n 1, 1) := by decide +kernel
theorem si_165_14 : decode (sp_b 165) 14 = .ok (.iload_n 2, 1) := by decide +kernel
theorem si_165_15 : decode (sp_b 165) 15 = .ok (.invokevirtual 152, 3) := by decide +kernel
theorem sk_165_152 : sp_okL 165 152 164 1067 = true := by decide +kernel
theorem si_165_18 : decode (sp_b 165) 18 = .ok (.aload_n 0, 1) := by decide +kernel
theorem si_165_19 : decode (sp_b 165) 19 = .ok (.getfield 36, 3) := by decide +kernel
theorem sf_165_36 : sp_okF 165 36 8 13 849 = true := by decide +kernel
theorem si_165_22 : decode (sp_b 165) 22 = .ok (.iload_n 2, 1) := by decide +kernel
theorem si_165_23 : decode (sp_b 165) 23 = .ok (.iaload, 1) := by decide +kernel
theorem si_165_24 : decode (sp_b 165) 24 = .ok (.iload_n 3, 1) := by decide +kernel
theorem si_165_25 : decode (sp_b 165) 25 = .ok (.iconst 2, 1) := by decide +kernel
theorem si_165_26 : decode (sp_b 165) 26 = .ok (.if_icmp .ne 7, 3) := by decide +kernel
theorem si_165_29 : decode (sp_b 165) 29 = .ok (.iconst 2, 1) := by decide +kernel
theorem si_165_30 : decode (sp_b 165) 30 = .ok (.goto 4, 3) := by decide +kernel
theorem si_165_33 : decode (sp_b 165) 33 = .ok (.iconst 0, 1) := by decide +kernel
theorem si_165_34 : decode (sp_b 165) 34 = .ok (.iadd, 1) := by decide +kernel
theorem si_165_35 : decode (sp_b 165) 35 = .ok (.if_icmp .gt 7, 3) := by decide +kernel
theorem si_165_38 : decode (sp_b 165) 38 = .ok (.iconst 1, 1) := by decide +kernel
theorem si_165_39 : decode (sp_b 165) 39 = .ok (.goto 4, 3) := by decide +kernel
theorem si_165_42 : decode (sp_b 165) 42 = .ok (.iconst 0, 1) := by decide +kernel
theorem si_165_43 : decode (sp_b 165) 43 = .ok (.ireturn, 1) := by decide +kernel
theorem si_166_0 : decode (sp_b 166) 0 = .ok (.aload_n 0, 1) := by decide +kernel
theorem si_166_1 : decode (sp_b 166) 1 = .ok (.iload_n 1, 1) := by decide +kernel
theorem si_166_2 : decode (sp_b 166) 2 = .ok (.invokevirtual 174, 3) := by decide +kernel
theorem sk_166_174 : sp_okL 166 174 162 1059 = true := by decide +kernel
theorem si_166_5 : decode (sp_b 166) 5 = .ok (.ifCond .eq 12, 3) := by decide +kernel
theorem si_166_8 : decode (sp_b 166) 8 = .ok (.iload_n 2, 1) := by decide +kernel
theorem si_166_9 : decode (sp_b 166) 9 = .ok (.iconst 1, 1) := by decide +kernel
theorem si_166_10 : decode (sp_b 166) 10 = .ok (.iconst 5, 1) := by decide +kernel
theorem si_166_11 : decode (sp_b 166) 11 = .ok (.invokestatic 83, 3) := by decide +kernel
theorem sk_166_83 : sp_okL 166 83 135 955 = true := by decide +kernel
theorem si_166_14 : decode (sp_b 166) 14 = .ok (.ifCond .ne 5, 3) := by decide +kernel
theorem si_166_17 : decode (sp_b 166) 17 = .ok (.iconst (-1), 1) := by decide +kernel
theorem si_166_18 : decode (sp_b 166) 18 = .ok (.ireturn, 1) := by decide +kernel
theorem si_166_19 : decode (sp_b 166) 19 = .ok (.aload_n 0, 1) := by decide +kernel
theorem si_166_20 : decode (sp_b 166) 20 = .ok (.getfield 33, 3) := by decide +kernel
theorem sf_166_33 : sp_okF 166 33 8 12 848 = true := by decide +kernel
theorem si_166_23 : decode (sp_b 166) 23 = .ok (.iload_n 1, 1) := by decide +kernel
theorem si_166_24 : decode (sp_b 166) 24 = .ok (.iaload, 1) := by decide +kernel
theorem si_166_25 : decode (sp_b 166) 25 = .ok (.istore_n 3, 1) := by decide +kernel
theorem si_166_26 : decode (sp_b 166) 26 = .ok (.iload_n 3, 1) := by decide +kernel
theorem si_166_27 : decode (sp_b 166) 27 = .ok (.iload_n 2, 1) := by decide +kernel
theorem si_166_28 : decode (sp_b 166) 28 = .ok (.if_icmp .eq 29, 3) := by decide +kernel
theorem si_166_31 : decode (sp_b 166) 31 = .ok (.iload_n 2, 1) := by decide +kernel
theorem si_166_32 : decode (sp_b 166) 32 = .ok (.iconst 1, 1) := by decide +kernel
theorem si_166_33 : decode (sp_b 166) 33 = .ok (.if_icmp .ne 8, 3) := by decide +kernel
theorem si_166_36 : decode (sp_b 166) 36 = .ok (.iload_n 3, 1) := by decide +kernel
theorem si_166_37 : decode (sp_b 166) 37 = .ok (.iconst 4, 1) := by decide +kernel
theorem si_166_38 : decode (sp_b 166) 38 = .ok (.if_icmp .eq 19, 3) := by decide +kernel
theorem si_166_41 : decode (sp_b 166) 41 = .ok (.iload_n 2, 1) := by decide +kernel
theorem si_166_42 : decode (sp_b 166) 42 = .ok (.iconst 2, 1) := by decide +kernel
theorem si_166_43 : decode (sp_b 166) 43 = .ok (.if_icmp .ne 8, 3) := by decide +kernel
theorem si_166_46 : decode (sp_b 166) 46 = .ok (.iload_n 3, 1) := by decide +kernel
theorem si_166_47 : decode (sp_b 166) 47 = .ok (.iconst 5, 1) := by decide +kernel
theorem si_166_48 : decode (sp_b 166) 48 = .ok (.if_icmp .eq 9, 3) := by decide +kernel
theorem si_166_51 : decode (sp_b 166) 51 = .ok (.aload_n 0, 1) := by decide +kernel
theorem si_166_52 : decode (sp_b 166) 52 = .ok (.iconst 3, 1) := by decide +kernel
theorem si_166_53 : decode (sp_b 166) 53 = .ok (.invokevirtual 97, 3) := by decide +kernel
theorem sk_166_97 : sp_okL 166 97 141 977 = true := by decide +kernel
theorem si_166_56 : decode (sp_b 166) 56 = .ok (.ireturn, 1) := by decide +kernel
theorem si_166_57 : decode (sp_b 166) 57 = .ok (.iload_n 2, 1) := by decide +kernel
theorem si_166_58 : decode (sp_b 166) 58 = .ok (.tableswitch 72 1 4 #[30, 41, 59, 70], 30) := by decide +kernel
theorem si_166_88 : decode (sp_b 166) 88 = .ok (.iconst 2, 1) := by decide +kernel
theorem si_166_89 : decode (sp_b 166) 89 = .ok (.aload_n 0, 1) := by decide +kernel
theorem si_166_90 : decode (sp_b 166) 90 = .ok (.iconst 0, 1) := by decide +kernel
theorem si_166_91 : decode (sp_b 166) 91 = .ok (.iload_n 1, 1) := by decide +kernel
theorem si_166_92 : decode (sp_b 166) 92 = .ok (.invokevirtual 152, 3) := by decide +kernel
theorem sk_166_152 : sp_okL 166 152 164 1067 = true := by decide +kernel
theorem si_166_95 : decode (sp_b 166) 95 = .ok (.invokestatic 158, 3) := by decide +kernel
theorem sk_166_158 : sp_okL 166 158 167 1079 = true := by decide +kernel
theorem si_166_98 : decode (sp_b 166) 98 = .ok (.ireturn, 1) := by decide +kernel
theorem si_166_99 : decode (sp_b 166) 99 = .ok (.iconst 0, 1) := by decide +kernel
theorem si_166_100 : decode (sp_b 166) 100 = .ok (.aload_n 0, 1) := by decide +kernel
theorem si_166_101 : decode (sp_b 166) 101 = .ok (.iconst 0, 1) := by decide +kernel
theorem si_166_102 : decode (sp_b 166) 102 = .ok (.iload_n 1, 1) := by decide +kernel
theorem si_166_103 : decode (sp_b 166) 103 = .ok (.invokevirtual 152, 3) := by decide +kernel
theorem si_166_106 : decode (sp_b 166) 106 = .ok (.aload_n 0, 1) := by decide +kernel
theorem si_166_107 : decode (sp_b 166) 107 = .ok (.getfield 36, 3) := by decide +kernel
theorem sf_166_36 : sp_okF 166 36 8 13 849 = true := by decide +kernel
theorem si_166_110 : decode (sp_b 166) 110 = .ok (.iload_n 1, 1) := by decide +kernel
theorem si_166_111 : decode (sp_b 166) 111 = .ok (.iaload, 1) := by decide +kernel
theorem si_166_112 : decode (sp_b 166) 112 = .ok (.isub, 1) := by decide +kernel
theorem si_166_113 : decode (sp_b 166) 113 = .ok (.invokestatic 180, 3) := by decide +kernel
theorem sk_166_180 : sp_okL 166 180 168 1082 = true := by decide +kernel
theorem si_166_116 : decode (sp_b 166) 116 = .ok (.ireturn, 1) := by decide +kernel
theorem si_166_117 : decode (sp_b 166) 117 = .ok (.aload_n 0, 1) := by decide +kernel
theorem si_166_118 : decode (sp_b 166) 118 = .ok (.iconst 0, 1) := by decide +kernel
theorem si_166_119 : decode (sp_b 166) 119 = .ok (.aload_n 0, 1) := by decide +kernel
theorem si_166_120 : decode (sp_b 166) 120 = .ok (.iload_n 1, 1) := by decide +kernel
theorem si_166_121 : decode (sp_b 166) 121 = .ok (.invokevirtual 171, 3) := by decide +kernel
theorem sk_166_171 : sp_okL 166 171 169 1085 = true := by decide +kernel
theorem si_166_124 : decode (sp_b 166) 124 = .ok (.invokevirtual 152, 3) := by decide +kernel
theorem si_166_127 : decode (sp_b 166) 127 = .ok (.ireturn, 1) := by decide +kernel
theorem si_166_128 : decode (sp_b 166) 128 = .ok (.iload_n 1, 1) := by decide +kernel
theorem si_166_129 : decode (sp_b 166) 129 = .ok (.ireturn, 1) := by decide +kernel
theorem si_166_130 : decode (sp_b 166) 130 = .ok (.aload_n 0, 1) := by decide +kernel
theorem si_166_131 : decode (sp_b 166) 131 = .ok (.getfield 142, 3) := by decide +kernel
theorem sf_166_142 : sp_okF 166 142 8 11 847 = true := by decide +kernel
theorem si_166_134 : decode (sp_b 166) 134 = .ok (.aload_n 0, 1) := by decide +kernel
theorem si_166_135 : decode (sp_b 166) 135 = .ok (.iconst 0, 1) := by decide +kernel
theorem si_166_136 : decode (sp_b 166) 136 = .ok (.invokevirtual 183, 3) := by decide +kernel
theorem sk_166_183 : sp_okL 166 183 170 1089 = true := by decide +kernel
theorem si_166_139 : decode (sp_b 166) 139 = .ok (.invokestatic 186, 3) := by decide +kernel
theorem sk_166_186 : sp_okL 166 186 171 1093 = true := by decide +kernel
theorem si_166_142 : decode (sp_b 166) 142 = .ok (.isub, 1) := by decide +kernel
theorem si_166_143 : decode (sp_b 166) 143 = .ok (.ireturn, 1) := by decide +kernel
theorem si_167_0 : decode (sp_b 167) 0 = .ok (.iload_n 0, 1) := by decide +kernel
theorem si_167_1 : decode (sp_b 167) 1 = .ok (.iload_n 1, 1) := by decide +kernel
theorem si_167_2 : decode (sp_b 167) 2 = .ok (.if_icmp .ge 7, 3) := by decide +kernel
theorem si_167_5 : decode (sp_b 167) 5 = .ok (.iload_n 0, 1) := by decide +kernel
theorem si_167_6 : decode (sp_b 167) 6 = .ok (.goto 4, 3) := by decide +kernel
theorem si_167_9 : decode (sp_b 167) 9 = .ok (.iload_n 1, 1) := by decide +kernel
theorem si_167_10 : decode (sp_b 167) 10 = .ok (.ireturn, 1) := by decide +kernel
theorem si_168_0 : decode (sp_b 168) 0 = .ok (.iload_n 0, 1) := by decide +kernel
theorem si_168_1 : decode (sp_b 168) 1 = .ok (.iload_n 1, 1) := by decide +kernel
theorem si_168_2 : decode (sp_b 168) 2 = .ok (.if_icmp .le 7, 3) := by decide +kernel
theorem si_168_5 : decode (sp_b 168) 5 = .ok (.iload_n 0, 1) := by decide +kernel
theorem si_168_6 : decode (sp_b 168) 6 = .ok (.goto 4, 3) := by decide +kernel
theorem si_168_9 : decode (sp_b 168) 9 = .ok (.iload_n 1, 1) := by decide +kernel
theorem si_168_10 : decode (sp_b 168) 10 = .ok (.ireturn, 1) := by decide +kernel
theorem si_169_0 : decode (sp_b 169) 0 = .ok (.iload_n 1, 1) := by decide +kernel
theorem si_169_1 : decode (sp_b 169) 1 = .ok (.ifCond .ne 8, 3) := by decide +kernel
theorem si_169_4 : decode (sp_b 169) 4 = .ok (.bipush 6, 2) := by decide +kernel
theorem si_169_6 : decode (sp_b 169) 6 = .ok (.goto 6, 3) := by decide +kernel
theorem si_169_9 : decode (sp_b 169) 9 = .ok (.iload_n 1, 1) := by decide +kernel
theorem si_169_10 : decode (sp_b 169) 10 = .ok (.iconst 1, 1) := by decide +kernel
theorem si_169_11 : decode (sp_b 169) 11 = .ok (.isub, 1) := by decide +kernel
theorem si_169_12 : decode (sp_b 169) 12 = .ok (.ireturn, 1) := by decide +kernel
theorem si_170_0 : decode (sp_b 170) 0 = .ok (.iconst 0, 1) := by decide +kernel
theorem si_170_1 : decode (sp_b 170) 1 = .ok (.istore_n 2, 1) := by decide +kernel
theorem si_170_2 : decode (sp_b 170) 2 = .ok (.iconst 0, 1) := by decide +kernel
theorem si_170_3 : decode (sp_b 170) 3 = .ok (.istore_n 3, 1) := by decide +kernel
theorem si_170_4 : decode (sp_b 170) 4 = .ok (.iload_n 3, 1) := by decide +kernel
theorem si_170_5 : decode (sp_b 170) 5 = .ok (.aload_n 0, 1) := by decide +kernel
theorem si_170_6 : decode (sp_b 170) 6 = .ok (.getfield 142, 3) := by decide +kernel
theorem sf_170_142 : sp_okF 170 142 8 11 847 = true := by decide +kernel
theorem si_170_9 : decode (sp_b 170) 9 = .ok (.if_icmp .ge 28, 3) := by decide +kernel
theorem si_170_12 : decode (sp_b 170) 12 = .ok (.iload_n 2, 1) := by decide +kernel
theorem si_170_13 : decode (sp_b 170) 13 = .ok (.aload_n 0, 1) := by decide +kernel
theorem si_170_14 : decode (sp_b 170) 14 = .ok (.iload_n 1, 1) := by decide +kernel
theorem si_170_15 : decode (sp_b 170) 15 = .ok (.iload_n 3, 1) := by decide +kernel
theorem si_170_16 : decode (sp_b 170) 16 = .ok (.invokevirtual 155, 3) := by decide +kernel
theorem sk_170_155 : sp_okL 170 155 165 1071 = true := by decide +kernel
theorem si_170_19 : decode (sp_b 170) 19 = .ok (.ifCond .eq 9, 3) := by decide +kernel
theorem si_170_22 : decode (sp_b 170) 22 = .ok (.iconst 1, 1) := by decide +kernel
theorem si_170_23 : decode (sp_b 170) 23 = .ok (.iload_n 3, 1) := by decide +kernel
theorem si_170_24 : decode (sp_b 170) 24 = .ok (.ishl, 1) := by decide +kernel
theorem si_170_25 : decode (sp_b 170) 25 = .ok (.goto 4, 3) := by decide +kernel
theorem si_170_28 : decode (sp_b 170) 28 = .ok (.iconst 0, 1) := by decide +kernel
theorem si_170_29 : decode (sp_b 170) 29 = .ok (.ior, 1) := by decide +kernel
theorem si_170_30 : decode (sp_b 170) 30 = .ok (.istore_n 2, 1) := by decide +kernel
theorem si_170_31 : decode (sp_b 170) 31 = .ok (.iinc 3 1, 3) := by decide +kernel
theorem si_170_34 : decode (sp_b 170) 34 = .ok (.goto (-30), 3) := by decide +kernel
theorem si_170_37 : decode (sp_b 170) 37 = .ok (.iload_n 2, 1) := by decide +kernel
theorem si_170_38 : decode (sp_b 170) 38 = .ok (.ireturn, 1) := by decide +kernel
theorem si_171_0 : decode (sp_b 171) 0 = .ok (.iconst 0, 1) := by decide +kernel
theorem si_171_1 : decode (sp_b 171) 1 = .ok (.istore_n 1, 1) := by decide +kernel
theorem si_171_2 : decode (sp_b 171) 2 = .ok (.iload_n 0, 1) := by decide +kernel
theorem si_171_3 : decode (sp_b 171) 3 = .ok (.istore_n 2, 1) := by decide +kernel
theorem si_171_4 : decode (sp_b 171) 4 = .ok (.iload_n 2, 1) := by decide +kernel
theorem si_171_5 : decode (sp_b 171) 5 = .ok (.ifCond .eq 15, 3) := by decide +kernel
theorem si_171_8 : decode (sp_b 171) 8 = .ok (.iinc 1 1, 3) := by decide +kernel
theorem si_171_11 : decode (sp_b 171) 11 = .ok (.iload_n 2, 1) := by decide +kernel
theorem si_171_12 : decode (sp_b 171) 12 = .ok (.iload_n 2, 1) := by decide +kernel
theorem si_171_13 : decode (sp_b 171) 13 = .ok (.iconst 1, 1) := by decide +kernel
theorem si_171_14 : decode (sp_b 171) 14 = .ok (.isub, 1) := by decide +kernel
theorem si_171_15 : decode (sp_b 171) 15 = .ok (.iand, 1) := by decide +kernel
theorem si_171_16 : decode (sp_b 171) 16 = .ok (.istore_n 2, 1) := by decide +kernel
theorem si_171_17 : decode (sp_b 171) 17 = .ok (.goto (-13), 3) := by decide +kernel
theorem si_171_20 : decode (sp_b 171) 20 = .ok (.iload_n 1, 1) := by decide +kernel
theorem si_171_21 : decode (sp_b 171) 21 = .ok (.ireturn, 1) := by decide +kernel
theorem si_172_0 : decode (sp_b 172) 0 = .ok (.iload_n 1, 1) := by decide +kernel
theorem si_172_1 : decode (sp_b 172) 1 = .ok (.iconst 1, 1) := by decide +kernel
theorem si_172_2 : decode (sp_b 172) 2 = .ok (.bipush 9, 2) := by decide +kernel
theorem si_172_4 : decode (sp_b 172) 4 = .ok (.invokestatic 83, 3) := by decide +kernel
theorem sk_172_83 : sp_okL 172 83 135 955 = true := by decide +kernel
theorem si_172_7 : decode (sp_b 172) 7 = .ok (.ifCond .ne 5, 3) := by decide +kernel
theorem si_172_10 : decode (sp_b 172) 10 = .ok (.iconst (-1), 1) := by decide +kernel
theorem si_172_11 : decode (sp_b 172) 11 = .ok (.ireturn, 1) := by decide +kernel
theorem si_172_12 : decode (sp_b 172) 12 = .ok (.aload_n 0, 1) := by decide +kernel
theorem si_172_13 : decode (sp_b 172) 13 = .ok (.getfield 142, 3) := by decide +kernel
theorem sf_172_142 : sp_okF 172 142 8 11 847 = true := by decide +kernel
theorem si_172_16 : decode (sp_b 172) 16 = .ok (.ifCond .ne 6, 3) := by decide +kernel
theorem si_172_19 : decode (sp_b 172) 19 = .ok (.bipush (-4), 2) := by decide +kernel
theorem si_172_21 : decode (sp_b 172) 21 = .ok (.ireturn, 1) := by decide +kernel
theorem si_172_22 : decode (sp_b 172) 22 = .ok (.aload_n 0, 1) := by decide +kernel
theorem si_172_23 : decode (sp_b 172) 23 = .ok (.getfield 76, 3) := by decide +kernel
theorem sf_172_76 : sp_okF 172 76 8 10 846 = true := by decide +kernel
theorem si_172_26 : decode (sp_b 172) 26 = .ok (.istore_n 2, 1) := by decide +kernel
theorem si_172_27 : decode (sp_b 172) 27 = .ok (.aload_n 0, 1) := by decide +kernel
theorem si_172_28 : decode (sp_b 172) 28 = .ok (.iload_n 1, 1) := by decide +kernel
theorem si_172_29 : decode (sp_b 172) 29 = .ok (.putfield 76, 3) := by decide +kernel
theorem si_172_32 : decode (sp_b 172) 32 = .ok (.iload_n 2, 1) := by decide +kernel
theorem si_172_33 : decode (sp_b 172) 33 = .ok (.ireturn, 1) := by decide +kernel
theorem si_173_0 : decode (sp_b 173) 0 = .ok (.aload_n 0, 1) := by decide +kernel
theorem si_173_1 : decode (sp_b 173) 1 = .ok (.iload_n 1, 1) := by decide +kernel
theorem si_173_2 : decode (sp_b 173) 2 = .ok (.invokevirtual 174, 3) := by decide +kernel
theorem sk_173_174 : sp_okL 173 174 162 1059 = true := by decide +kernel
theorem si_173_5 : decode (sp_b 173) 5 = .ok (.ifCond .ne 5, 3) := by decide +kernel
theorem si_173_8 : decode (sp_b 173) 8 = .ok (.iconst (-1), 1) := by decide +kernel
theorem si_173_9 : decode (sp_b 173) 9 = .ok (.ireturn, 1) := by decide +kernel
theorem si_173_10 : decode (sp_b 173) 10 = .ok (.aload_n 0, 1) := by decide +kernel
theorem si_173_11 : decode (sp_b 173) 11 = .ok (.iconst 0, 1) := by decide +kernel
theorem si_173_12 : decode (sp_b 173) 12 = .ok (.iload_n 1, 1) := by decide +kernel
theorem si_173_13 : decode (sp_b 173) 13 = .ok (.invokevirtual 155, 3) := by decide +kernel
theorem sk_173_155 : sp_okL 173 155 165 1071 = true := by decide +kernel
theorem si_173_16 : decode (sp_b 173) 16 = .ok (.ifCond .ne 6, 3) := by decide +kernel
theorem si_173_19 : decode (sp_b 173) 19 = .ok (.bipush (-4), 2) := by decide +kernel
theorem si_173_21 : decode (sp_b 173) 21 = .ok (.ireturn, 1) := by decide +kernel
theorem si_173_22 : decode (sp_b 173) 22 = .ok (.aload_n 0, 1) := by decide +kernel
theorem si_173_23 : decode (sp_b 173) 23 = .ok (.getfield 149, 3) := by decide +kernel
theorem sf_173_149 : sp_okF 173 149 8 21 857 = true := by decide +kernel
theorem si_173_26 : decode (sp_b 173) 26 = .ok (.bipush 60, 2) := by decide +kernel
theorem si_173_28 : decode (sp_b 173) 28 = .ok (.if_icmp .ne 6, 3) := by decide +kernel
theorem si_173_31 : decode (sp_b 173) 31 = .ok (.bipush (-2), 2) := by decide +kernel
theorem si_173_33 : decode (sp_b 173) 33 = .ok (.ireturn, 1) := by decide +kernel
theorem si_173_34 : decode (sp_b 173) 34 = .ok (.aload_n 0, 1) := by decide +kernel
theorem si_173_35 : decode (sp_b 173) 35 = .ok (.invokevirtual 189, 3) := by decide +kernel
theorem sk_173_189 : sp_okL 173 189 174 1104 = true := by decide +kernel
theorem si_173_38 : decode (sp_b 173) 38 = .ok (.aload_n 0, 1) := by decide +kernel
theorem si_173_39 : decode (sp_b 173) 39 = .ok (.iconst 0, 1) := by decide +kernel
theorem si_173_40 : decode (sp_b 173) 40 = .ok (.iload_n 1, 1) := by decide +kernel
theorem si_173_41 : decode (sp_b 173) 41 = .ok (.invokevirtual 192, 3) := by decide +kernel
theorem sk_173_192 : sp_okL 173 192 175 1108 = true := by decide +kernel
theorem si_173_44 : decode (sp_b 173) 44 = .ok (.aload_n 0, 1) := by decide +kernel
theorem si_173_45 : decode (sp_b 173) 45 = .ok (.getfield 39, 3) := by decide +kernel
theorem sf_173_39 : sp_okF 173 39 8 14 850 = true := by decide +kernel
theorem si_173_48 : decode (sp_b 173) 48 = .ok (.iload_n 1, 1) := by decide +kernel
theorem si_173_49 : decode (sp_b 173) 49 = .ok (.iaload, 1) := by decide +kernel
theorem si_173_50 : decode (sp_b 173) 50 = .ok (.ireturn, 1) := by decide +kernel
theorem si_174_0 : decode (sp_b 174) 0 = .ok (.iconst 0, 1) := by decide +kernel
theorem si_174_1 : decode (sp_b 174) 1 = .ok (.istore_n 1, 1) := by decide +kernel
theorem si_174_2 : decode (sp_b 174) 2 = .ok (.iload_n 1, 1) := by decide +kernel
theorem si_174_3 : decode (sp_b 174) 3 = .ok (.bipush 9, 2) := by decide +kernel
theorem si_174_5 : decode (sp_b 174) 5 = .ok (.if_icmp .ge 29, 3) := by decide +kernel
theorem si_174_8 : decode (sp_b 174) 8 = .ok (.aload_n 0, 1) := by decide +kernel
theorem si_174_9 : decode (sp_b 174) 9 = .ok (.getfield 48, 3) := by decide +kernel
theorem sf_174_48 : sp_okF 174 48 8 22 858 = true := by decide +kernel
theorem si_174_12 : decode (sp_b 174) 12 = .ok (.bipush 9, 2) := by decide +kernel
theorem si_174_14 : decode (sp_b 174) 14 = .ok (.aload_n 0, 1) := by decide +kernel
theorem si_174_15 : decode (sp_b 174) 15 = .ok (.getfield 149, 3) := by decide +kernel
theorem sf_174_149 : sp_okF 174 149 8 21 857 = true := by decide +kernel
theorem si_174_18 : decode (sp_b 174) 18 = .ok (.imul, 1) := by decide +kernel
theorem si_174_19 : decode (sp_b 174) 19 = .ok (.iload_n 1, 1) := by decide +kernel
theorem si_174_20 : decode (sp_b 174) 20 = .ok (.iadd, 1) := by decide +kernel
theorem si_174_21 : decode (sp_b 174) 21 = .ok (.aload_n 0, 1) := by decide +kernel
theorem si_174_22 : decode (sp_b 174) 22 = .ok (.iconst 0, 1) := by decide +kernel
theorem si_174_23 : decode (sp_b 174) 23 = .ok (.iload_n 1, 1) := by decide +kernel
theorem si_174_24 : decode (sp_b 174) 24 = .ok (.invokevirtual 152, 3) := by decide +kernel
theorem sk_174_152 : sp_okL 174 152 164 1067 = true := by decide +kernel
theorem si_174_27 : decode (sp_b 174) 27 = .ok (.iastore, 1) := by decide +kernel
theorem si_174_28 : decode (sp_b 174) 28 = .ok (.iinc 1 1, 3) := by decide +kernel
theorem si_174_31 : decode (sp_b 174) 31 = .ok (.goto (-29), 3) := by decide +kernel
theorem si_174_34 : decode (sp_b 174) 34 = .ok (.aload_n 0, 1) := by decide +kernel
theorem si_174_35 : decode (sp_b 174) 35 = .ok (.dup, 1) := by decide +kernel
theorem si_174_36 : decode (sp_b 174) 36 = .ok (.getfield 149, 3) := by decide +kernel
theorem si_174_39 : decode (sp_b 174) 39 = .ok (.iconst 1, 1) := by decide +kernel
theorem si_174_40 : decode (sp_b 174) 40 = .ok (.iadd, 1) := by decide +kernel
theorem si_174_41 : decode (sp_b 174) 41 = .ok (.putfield 149, 3) := by decide +kernel
theorem si_174_44 : decode (sp_b 174) 44 = .ok (.return_, 1) := by decide +kernel
theorem si_175_0 : decode (sp_b 175) 0 = .ok (.aload_n 0, 1) := by decide +kernel
theorem si_175_1 : decode (sp_b 175) 1 = .ok (.getfield 33, 3) := by decide +kernel
theorem sf_175_33 : sp_okF 175 33 8 12 848 = true := by decide +kernel
theorem si_175_4 : decode (sp_b 175) 4 = .ok (.iload_n 2, 1) := by decide +kernel
theorem si_175_5 : decode (sp_b 175) 5 = .ok (.iaload, 1) := by decide +kernel
theorem si_175_6 : decode (sp_b 175) 6 = .ok (.tableswitch 111 0 4 #[34, 50, 111, 66, 82], 34) := by decide +kernel
theorem si_175_40 : decode (sp_b 175) 40 = .ok (.aload_n 0, 1) := by decide +kernel
theorem si_175_41 : decode (sp_b 175) 41 = .ok (.iload_n 1, 1) := by decide +kernel
theorem si_175_42 : decode (sp_b 175) 42 = .ok (.iload_n 2, 1) := by decide +kernel
theorem si_175_43 : decode (sp_b 175) 43 = .ok (.aload_n 0, 1) := by decide +kernel
theorem si_175_44 : decode (sp_b 175) 44 = .ok (.iload_n 2, 1) := by decide +kernel
theorem si_175_45 : decode (sp_b 175) 45 = .ok (.invokevirtual 164, 3) := by decide +kernel
theorem sk_175_164 : sp_okL 175 164 176 1112 = true := by decide +kernel
theorem si_175_48 : decode (sp_b 175) 48 = .ok (.iconst 1, 1) := by decide +kernel
theorem si_175_49 : decode (sp_b 175) 49 = .ok (.invokevirtual 167, 3) := by decide +kernel
theorem sk_175_167 : sp_okL 175 167 177 1116 = true := by decide +kernel
theorem si_175_52 : decode (sp_b 175) 52 = .ok (.pop, 1) := by decide +kernel
theorem si_175_53 : decode (sp_b 175) 53 = .ok (.goto 64, 3) := by decide +kernel
theorem si_175_56 : decode (sp_b 175) 56 = .ok (.aload_n 0, 1) := by decide +kernel
theorem si_175_57 : decode (sp_b 175) 57 = .ok (.iload_n 1, 1) := by decide +kernel
theorem si_175_58 : decode (sp_b 175) 58 = .ok (.iload_n 2, 1) := by decide +kernel
theorem si_175_59 : decode (sp_b 175) 59 = .ok (.aload_n 0, 1) := by decide +kernel
theorem si_175_60 : decode (sp_b 175) 60 = .ok (.iload_n 2, 1) := by decide +kernel
theorem si_175_61 : decode (sp_b 175) 61 = .ok (.invokevirtual 171, 3) := by decide +kernel
theorem sk_175_171 : sp_okL 175 171 169 1085 = true := by decide +kernel
theorem si_175_64 : decode (sp_b 175) 64 = .ok (.iconst 2, 1) := by decide +kernel
theorem si_175_65 : decode (sp_b 175) 65 = .ok (.invokevirtual 167, 3) := by decide +kernel
theorem si_175_68 : decode (sp_b 175) 68 = .ok (.pop, 1) := by decide +kernel
theorem si_175_69 : decode (sp_b 175) 69 = .ok (.goto 48, 3) := by decide +kernel
theorem si_175_72 : decode (sp_b 175) 72 = .ok (.aload_n 0, 1) := by decide +kernel
theorem si_175_73 : decode (sp_b 175) 73 = .ok (.iload_n 1, 1) := by decide +kernel
theorem si_175_74 : decode (sp_b 175) 74 = .ok (.aload_n 0, 1) := by decide +kernel
theorem si_175_75 : decode (sp_b 175) 75 = .ok (.iload_n 2, 1) := by decide +kernel
theorem si_175_76 : decode (sp_b 175) 76 = .ok (.invokevirtual 171, 3) := by decide +kernel
theorem si_175_79 : decode (sp_b 175) 79 = .ok (.iload_n 2, 1) := by decide +kernel
theorem si_175_80 : decode (sp_b 175) 80 = .ok (.iconst 1, 1) := by decide +kernel
theorem si_175_81 : decode (sp_b 175) 81 = .ok (.invokevirtual 167, 3) := by decide +kernel
theorem si_175_84 : decode (sp_b 175) 84 = .ok (.pop, 1) := by decide +kernel
theorem si_175_85 : decode (sp_b 175) 85 = .ok (.goto 32, 3) := by decide +kernel
theorem si_175_88 : decode (sp_b 175) 88 = .ok (.aload_n 0, 1) := by decide +kernel
theorem si_175_89 : decode (sp_b 175) 89 = .ok (.iload_n 1, 1) := by decide +kernel
theorem si_175_90 : decode (sp_b 175) 90 = .ok (.iload_n 2, 1) := by decide +kernel
theorem si_175_91 : decode (sp_b 175) 91 = .ok (.aload_n 0, 1) := by decide +kernel
theorem si_175_92 : decode (sp_b 175) 92 = .ok (.iload_n 2, 1) := by decide +kernel
theorem si_175_93 : decode (sp_b 175) 93 = .ok (.invokevirtual 171, 3) := by decide +kernel
theorem si_175_96 : decode (sp_b 175) 96 = .ok (.iconst 1, 1) := by decide +kernel
theorem si_175_97 : decode (sp_b 175) 97 = .ok (.invokevirtual 167, 3) := by decide +kernel
theorem si_175_100 : decode (sp_b 175) 100 = .ok (.pop, 1) := by decide +kernel
theorem si_175_101 : decode (sp_b 175) 101 = .ok (.aload_n 0, 1) := by decide +kernel
theorem si_175_102 : decode (sp_b 175) 102 = .ok (.iload_n 1, 1) := by decide +kernel
theorem si_175_103 : decode (sp_b 175) 103 = .ok (.iload_n 2, 1) := by decide +kernel
theorem si_175_104 : decode (sp_b 175) 104 = .ok (.aload_n 0, 1) := by decide +kernel
theorem si_175_105 : decode (sp_b 175) 105 = .ok (.iload_n 2, 1) := by decide +kernel
theorem si_175_106 : decode (sp_b 175) 106 = .ok (.invokevirtual 164, 3) := by decide +kernel
theorem si_175_109 : decode (sp_b 175) 109 = .ok (.iconst 1, 1) := by decide +kernel
theorem si_175_110 : decode (sp_b 175) 110 = .ok (.invokevirtual 167, 3) := by decide +kernel
theorem si_175_113 : decode (sp_b 175) 113 = .ok (.pop, 1) := by decide +kernel
theorem si_175_114 : decode (sp_b 175) 114 = .ok (.goto 3, 3) := by decide +kernel
theorem si_175_117 : decode (sp_b 175) 117 = .ok (.aload_n 0, 1) := by decide +kernel
theorem si_175_118 : decode (sp_b 175) 118 = .ok (.iload_n 1, 1) := by decide +kernel
theorem si_175_119 : decode (sp_b 175) 119 = .ok (.bipush 8, 2) := by decide +kernel
theorem si_175_121 : decode (sp_b 175) 121 = .ok (.aload_n 0, 1) := by decide +kernel
theorem si_175_122 : decode (sp_b 175) 122 = .ok (.getfield 39, 3) := by decide +kernel
theorem sf_175_39 : sp_okF 175 39 8 14 850 = true := by decide +kernel
theorem si_175_125 : decode (sp_b 175) 125 = .ok (.iload_n 2, 1) := by decide +kernel
theorem si_175_126 : decode (sp_b 175) 126 = .ok (.iaload, 1) := by decide +kernel
theorem si_175_127 : decode (sp_b 175) 127 = .ok (.invokevirtual 161, 3) := by decide +kernel
theorem sk_175_161 : sp_okL 175 161 178 1120 = true := by decide +kernel
theorem si_175_130 : decode (sp_b 175) 130 = .ok (.return_, 1) := by decide +kernel
theorem si_176_0 : decode (sp_b 176) 0 = .ok (.iload_n 1, 1) := by decide +kernel
theorem si_176_1 : decode (sp_b 176) 1 = .ok (.aload_n 0, 1) := by decide +kernel
theorem si_176_2 : decode (sp_b 176) 2 = .ok (.getfield 142, 3) := by decide +kernel
theorem sf_176_142 : sp_okF 176 142 8 11 847 = true := by decide +kernel
theorem si_176_5 : decode (sp_b 176) 5 = .ok (.iconst 1, 1) := by decide +kernel
theorem si_176_6 : decode (sp_b 176) 6 = .ok (.isub, 1) := by decide +kernel
theorem si_176_7 : decode (sp_b 176) 7 = .ok (.if_icmp .ne 8, 3) := by decide +kernel
theorem si_176_10 : decode (sp_b 176) 10 = .ok (.bipush 6, 2) := by decide +kernel
theorem si_176_12 : decode (sp_b 176) 12 = .ok (.goto 6, 3) := by decide +kernel
theorem si_176_15 : decode (sp_b 176) 15 = .ok (.iload_n 1, 1) := by decide +kernel
theorem si_176_16 : decode (sp_b 176) 16 = .ok (.iconst 1, 1) := by decide +kernel
theorem si_176_17 : decode (sp_b 176) 17 = .ok (.iadd, 1) := by decide +kernel
theorem si_176_18 : decode (sp_b 176) 18 = .ok (.ireturn, 1) := by decide +kernel
theorem si_177_0 : decode (sp_b 177) 0 = .ok (.iload 4, 2) := by decide +kernel
theorem si_177_2 : decode (sp_b 177) 2 = .ok (.aload_n 0, 1) := by decide +kernel
theorem si_177_3 : decode (sp_b 177) 3 = .ok (.iload_n 1, 1) := by decide +kernel
theorem si_177_4 : decode (sp_b 177) 4 = .ok (.iload_n 2, 1) := by decide +kernel
theorem si_177_5 : decode (sp_b 177) 5 = .ok (.invokevirtual 152, 3) := by decide +kernel
theorem sk_177_152 : sp_okL 177 152 164 1067 = true := by decide +kernel
theorem si_177_8 : decode (sp_b 177) 8 = .ok (.invokestatic 158, 3) := by decide +kernel
theorem sk_177_158 : sp_okL 177 158 167 1079 = true := by decide +kernel
theorem si_177_11 : decode (sp_b 177) 11 = .ok (.istore 5, 2) := by decide +kernel
theorem si_177_13 : decode (sp_b 177) 13 = .ok (.aload_n 0, 1) := by decide +kernel
theorem si_177_14 : decode (sp_b 177) 14 = .ok (.iload_n 1, 1) := by decide +kernel
theorem si_177_15 : decode (sp_b 177) 15 = .ok (.iload_n 2, 1) := by decide +kernel
theorem si_177_16 : decode (sp_b 177) 16 = .ok (.iload 5, 2) := by decide +kernel
theorem si_177_18 : decode (sp_b 177) 18 = .ok (.ineg, 1) := by decide +kernel
theorem si_177_19 : decode (sp_b 177) 19 = .ok (.invokevirtual 161, 3) := by decide +kernel
theorem sk_177_161 : sp_okL 177 161 178 1120 = true := by decide +kernel
theorem si_177_22 : decode (sp_b 177) 22 = .ok (.aload_n 0, 1) := by decide +kernel
theorem si_177_23 : decode (sp_b 177) 23 = .ok (.iload_n 1, 1) := by decide +kernel
theorem si_177_24 : decode (sp_b 177) 24 = .ok (.iload_n 3, 1) := by decide +kernel
theorem si_177_25 : decode (sp_b 177) 25 = .ok (.iload 5, 2) := by decide +kernel
theorem si_177_27 : decode (sp_b 177) 27 = .ok (.invokevirtual 161, 3) := by decide +kernel
theorem si_177_30 : decode (sp_b 177) 30 = .ok (.iload 5, 2) := by decide +kernel
theorem si_177_32 : decode (sp_b 177) 32 = .ok (.ireturn, 1) := by decide +kernel
theorem si_178_0 : decode (sp_b 178) 0 = .ok (.aload_n 0, 1) := by decide +kernel
theorem si_178_1 : decode (sp_b 178) 1 = .ok (.getfield 45, 3) := by decide +kernel
theorem sf_178_45 : sp_okF 178 45 8 20 856 = true := by decide +kernel
theorem si_178_4 : decode (sp_b 178) 4 = .ok (.bipush 9, 2) := by decide +kernel
theorem si_178_6 : decode (sp_b 178) 6 = .ok (.iload_n 1, 1) := by decide +kernel
theorem si_178_7 : decode (sp_b 178) 7 = .ok (.imul, 1) := by decide +kernel
theorem si_178_8 : decode (sp_b 178) 8 = .ok (.iload_n 2, 1) := by decide +kernel
theorem si_178_9 : decode (sp_b 178) 9 = .ok (.iadd, 1) := by decide +kernel
theorem si_178_10 : decode (sp_b 178) 10 = .ok (.dup2, 1) := by decide +kernel
theorem si_178_11 : decode (sp_b 178) 11 = .ok (.iaload, 1) := by decide +kernel
theorem si_178_12 : decode (sp_b 178) 12 = .ok (.iload_n 3, 1) := by decide +kernel
theorem si_178_13 : decode (sp_b 178) 13 = .ok (.iadd, 1) := by decide +kernel
theorem si_178_14 : decode (sp_b 178) 14 = .ok (.iastore, 1) := by decide +kernel
theorem si_178_15 : decode (sp_b 178) 15 = .ok (.return_, 1) := by decide +kernel
theorem si_179_0 : decode (sp_b 179) 0 = .ok (.iload_n 1, 1) := by decide +kernel
theorem si_179_1 : decode (sp_b 179) 1 = .ok (.iconst 0, 1) := by decide +kernel
theorem si_179_2 : decode (sp_b 179) 2 = .ok (.bipush 9, 2) := by decide +kernel
theorem si_179_4 : decode (sp_b 179) 4 = .ok (.invokestatic 83, 3) := by decide +kernel
theorem sk_179_83 : sp_okL 179 83 135 955 = true := by decide +kernel
theorem si_179_7 : decode (sp_b 179) 7 = .ok (.ifCond .ne 5, 3) := by decide +kernel
theorem si_179_10 : decode (sp_b 179) 10 = .ok (.iconst (-1), 1) := by decide +kernel
theorem si_179_11 : decode (sp_b 179) 11 = .ok (.ireturn, 1) := by decide +kernel
theorem si_179_12 : decode (sp_b 179) 12 = .ok (.aload_n 0, 1) := by decide +kernel
theorem si_179_13 : decode (sp_b 179) 13 = .ok (.invokevirtual 196, 3) := by decide +kernel
theorem sk_179_196 : sp_okL 179 196 180 1128 = true := by decide +kernel
theorem si_179_16 : decode (sp_b 179) 16 = .ok (.istore_n 2, 1) := by decide +kernel
theorem si_179_17 : decode (sp_b 179) 17 = .ok (.iload_n 2, 1) := by decide +kernel
theorem si_179_18 : decode (sp_b 179) 18 = .ok (.ifCond .ge 5, 3) := by decide +kernel
theorem si_179_21 : decode (sp_b 179) 21 = .ok (.iload_n 2, 1) := by decide +kernel
theorem si_179_22 : decode (sp_b 179) 22 = .ok (.ireturn, 1) := by decide +kernel
theorem si_179_23 : decode (sp_b 179) 23 = .ok (.aload_n 0, 1) := by decide +kernel
theorem si_179_24 : decode (sp_b 179) 24 = .ok (.invokevirtual 189, 3) := by decide +kernel
theorem sk_179_189 : sp_okL 179 189 174 1104 = true := by decide +kernel
theorem si_179_27 : decode (sp_b 179) 27 = .ok (.aload_n 0, 1) := by decide +kernel
theorem si_179_28 : decode (sp_b 179) 28 = .ok (.iconst 0, 1) := by decide +kernel
theorem si_179_29 : decode (sp_b 179) 29 = .ok (.iload_n 1, 1) := by decide +kernel
theorem si_179_30 : decode (sp_b 179) 30 = .ok (.invokevirtual 200, 3) := by decide +kernel
theorem sk_179_200 : sp_okL 179 200 181 1132 = true := by decide +kernel
theorem si_179_33 : decode (sp_b 179) 33 = .ok (.ireturn, 1) := by decide +kernel
theorem si_180_0 : decode (sp_b 180) 0 = .ok (.aload_n 0, 1) := by decide +kernel
theorem si_180_1 : decode (sp_b 180) 1 = .ok (.getfield 142, 3) := by decide +kernel
theorem sf_180_142 : sp_okF 180 142 8 11 847 = true := by decide +kernel
theorem si_180_4 : decode (sp_b 180) 4 = .ok (.ifCond .ne 8, 3) := by decide +kernel
theorem si_180_7 : decode (sp_b 180) 7 = .ok (.bipush (-4), 2) := by decide +kernel
theorem si_180_9 : decode (sp_b 180) 9 = .ok (.goto 18, 3) := by decide +kernel
theorem si_180_12 : decode (sp_b 180) 12 = .ok (.aload_n 0, 1) := by decide +kernel
theorem si_180_13 : decode (sp_b 180) 13 = .ok (.getfield 149, 3) := by decide +kernel
theorem sf_180_149 : sp_okF 180 149 8 21 857 = true := by decide +kernel
theorem si_180_16 : decode (sp_b 180) 16 = .ok (.bipush 60, 2) := by decide +kernel
theorem si_180_18 : decode (sp_b 180) 18 = .ok (.if_icmp .ne 8, 3) := by decide +kernel
theorem si_180_21 : decode (sp_b 180) 21 = .ok (.bipush (-2), 2) := by decide +kernel
theorem si_180_23 : decode (sp_b 180) 23 = .ok (.goto 4, 3) := by decide +kernel
theorem si_180_26 : decode (sp_b 180) 26 = .ok (.iconst 0, 1) := by decide +kernel
theorem si_180_27 : decode (sp_b 180) 27 = .ok (.ireturn, 1) := by decide +kernel
theorem si_181_0 : decode (sp_b 181) 0 = .ok (.iconst 0, 1) := by decide +kernel
theorem si_181_1 : decode (sp_b 181) 1 = .ok (.istore_n 3, 1) := by decide +kernel
theorem si_181_2 : decode (sp_b 181) 2 = .ok (.iconst 0, 1) := by decide +kernel
theorem si_181_3 : decode (sp_b 181) 3 = .ok (.istore 4, 2) := by decide +kernel
theorem si_181_5 : decode (sp_b 181) 5 = .ok (.iload 4, 2) := by decide +kernel
theorem si_181_7 : decode (sp_b 181) 7 = .ok (.aload_n 0, 1) := by decide +kernel
theorem si_181_8 : decode (sp_b 181) 8 = .ok (.getfield 142, 3) := by decide +kernel
theorem sf_181_142 : sp_okF 181 142 8 11 847 = true := by decide +kernel
theorem si_181_11 : decode (sp_b 181) 11 = .ok (.if_icmp .ge 33, 3) := by decide +kernel
theorem si_181_14 : decode (sp_b 181) 14 = .ok (.iload 4, 2) := by decide +kernel
theorem si_181_16 : decode (sp_b 181) 16 = .ok (.iload_n 2, 1) := by decide +kernel
theorem si_181_17 : decode (sp_b 181) 17 = .ok (.if_icmp .ge 27, 3) := by decide +kernel
theorem si_181_20 : decode (sp_b 181) 20 = .ok (.aload_n 0, 1) := by decide +kernel
theorem si_181_21 : decode (sp_b 181) 21 = .ok (.iload_n 1, 1) := by decide +kernel
theorem si_181_22 : decode (sp_b 181) 22 = .ok (.iload 4, 2) := by decide +kernel
theorem si_181_24 : decode (sp_b 181) 24 = .ok (.iload_n 2, 1) := by decide +kernel
theorem si_181_25 : decode (sp_b 181) 25 = .ok (.iload 4, 2) := by decide +kernel
theorem si_181_27 : decode (sp_b 181) 27 = .ok (.isub, 1) := by decide +kernel
theorem si_181_28 : decode (sp_b 181) 28 = .ok (.invokevirtual 161, 3) := by decide +kernel
theorem sk_181_161 : sp_okL 181 161 178 1120 = true := by decide +kernel
theorem si_181_31 : decode (sp_b 181) 31 = .ok (.iload_n 3, 1) := by decide +kernel
theorem si_181_32 : decode (sp_b 181) 32 = .ok (.iload_n 2, 1) := by decide +kernel
theorem si_181_33 : decode (sp_b 181) 33 = .ok (.iload 4, 2) := by decide +kernel
theorem si_181_35 : decode (sp_b 181) 35 = .ok (.isub, 1) := by decide +kernel
theorem si_181_36 : decode (sp_b 181) 36 = .ok (.iadd, 1) := by decide +kernel
theorem si_181_37 : decode (sp_b 181) 37 = .ok (.istore_n 3, 1) := by decide +kernel
theorem si_181_38 : decode (sp_b 181) 38 = .ok (.iinc 4 1, 3) := by decide +kernel
theorem si_181_41 : decode (sp_b 181) 41 = .ok (.goto (-36), 3) := by decide +kernel
theorem si_181_44 : decode (sp_b 181) 44 = .ok (.aload_n 0, 1) := by decide +kernel
theorem si_181_45 : decode (sp_b 181) 45 = .ok (.iload_n 1, 1) := by decide +kernel
theorem si_181_46 : decode (sp_b 181) 46 = .ok (.bipush 7, 2) := by decide +kernel
theorem si_181_48 : decode (sp_b 181) 48 = .ok (.iload_n 3, 1) := by decide +kernel
theorem si_181_49 : decode (sp_b 181) 49 = .ok (.invokevirtual 161, 3) := by decide +kernel
theorem si_181_52 : decode (sp_b 181) 52 = .ok (.iload_n 3, 1) := by decide +kernel
theorem si_181_53 : decode (sp_b 181) 53 = .ok (.ireturn, 1) := by decide +kernel
theorem si_182_0 : decode (sp_b 182) 0 = .ok (.iload_n 1, 1) := by decide +kernel
theorem si_182_1 : decode (sp_b 182) 1 = .ok (.iconst 0, 1) := by decide +kernel
theorem si_182_2 : decode (sp_b 182) 2 = .ok (.iconst 1, 1) := by decide +kernel
theorem si_182_3 : decode (sp_b 182) 3 = .ok (.invokestatic 83, 3) := by decide +kernel
theorem sk_182_83 : sp_okL 182 83 135 955 = true := by decide +kernel
theorem si_182_6 : decode (sp_b 182) 6 = .ok (.ifCond .ne 5, 3) := by decide +kernel
theorem si_182_9 : decode (sp_b 182) 9 = .ok (.iconst (-1), 1) := by decide +kernel
theorem si_182_10 : decode (sp_b 182) 10 = .ok (.ireturn, 1) := by decide +kernel
theorem si_182_11 : decode (sp_b 182) 11 = .ok (.aload_n 0, 1) := by decide +kernel
theorem si_182_12 : decode (sp_b 182) 12 = .ok (.invokevirtual 196, 3) := by decide +kernel
theorem sk_182_196 : sp_okL 182 196 180 1128 = true := by decide +kernel
theorem si_182_15 : decode (sp_b 182) 15 = .ok (.istore_n 2, 1) := by decide +kernel
theorem si_182_16 : decode (sp_b 182) 16 = .ok (.iload_n 2, 1) := by decide +kernel
theorem si_182_17 : decode (sp_b 182) 17 = .ok (.ifCond .ge 5, 3) := by decide +kernel
theorem si_182_20 : decode (sp_b 182) 20 = .ok (.iload_n 2, 1) := by decide +kernel
theorem si_182_21 : decode (sp_b 182) 21 = .ok (.ireturn, 1) := by decide +kernel
theorem si_182_22 : decode (sp_b 182) 22 = .ok (.aload_n 0, 1) := by decide +kernel
theorem si_182_23 : decode (sp_b 182) 23 = .ok (.invokevirtual 189, 3) := by decide +kernel
theorem sk_182_189 : sp_okL 182 189 174 1104 = true := by decide +kernel
theorem si_182_26 : decode (sp_b 182) 26 = .ok (.aload_n 0, 1) := by decide +kernel
theorem si_182_27 : decode (sp_b 182) 27 = .ok (.iconst 0, 1) := by decide +kernel
theorem si_182_28 : decode (sp_b 182) 28 = .ok (.iload_n 1, 1) := by decide +kernel
theorem si_182_29 : decode (sp_b 182) 29 = .ok (.invokevirtual 203, 3) := by decide +kernel
theorem sk_182_203 : sp_okL 182 203 183 1140 = true := by decide +kernel
theorem si_182_32 : decode (sp_b 182) 32 = .ok (.ireturn, 1) := by decide +kernel
theorem si_183_0 : decode (sp_b 183) 0 = .ok (.iload_n 2, 1) := by decide +kernel
theorem si_183_1 : decode (sp_b 183) 1 = .ok (.ifCond .ne 7, 3) := by decide +kernel
theorem si_183_4 : decode (sp_b 183) 4 = .ok (.iconst 0, 1) := by decide +kernel
theorem si_183_5 : decode (sp_b 183) 5 = .ok (.goto 9, 3) := by decide +kernel
theorem si_183_8 : decode (sp_b 183) 8 = .ok (.aload_n 0, 1) := by decide +kernel
theorem si_183_9 : decode (sp_b 183) 9 = .ok (.getfield 142, 3) := by decide +kernel
theorem sf_183_142 : sp_okF 183 142 8 11 847 = true := by decide +kernel
theorem si_183_12 : decode (sp_b 183) 12 = .ok (.iconst 1, 1) := by decide +kernel
theorem si_183_13 : decode (sp_b 183) 13 = .ok (.isub, 1) := by decide +kernel
theorem si_183_14 : decode (sp_b 183) 14 = .ok (.istore_n 3, 1) := by decide +kernel
theorem si_183_15 : decode (sp_b 183) 15 = .ok (.aload_n 0, 1) := by decide +kernel
theorem si_183_16 : decode (sp_b 183) 16 = .ok (.iload_n 1, 1) := by decide +kernel
theorem si_183_17 : decode (sp_b 183) 17 = .ok (.iload_n 3, 1) := by decide +kernel
theorem si_183_18 : decode (sp_b 183) 18 = .ok (.invokevirtual 152, 3) := by decide +kernel
theorem sk_183_152 : sp_okL 183 152 164 1067 = true := by decide +kernel
theorem si_183_21 : decode (sp_b 183) 21 = .ok (.istore 4, 2) := by decide +kernel
theorem si_183_23 : decode (sp_b 183) 23 = .ok (.iconst 0, 1) := by decide +kernel
theorem si_183_24 : decode (sp_b 183) 24 = .ok (.istore 5, 2) := by decide +kernel
theorem si_183_26 : decode (sp_b 183) 26 = .ok (.iload 5, 2) := by decide +kernel
theorem si_183_28 : decode (sp_b 183) 28 = .ok (.aload_n 0, 1) := by decide +kernel
theorem si_183_29 : decode (sp_b 183) 29 = .ok (.getfield 142, 3) := by decide +kernel
theorem si_183_32 : decode (sp_b 183) 32 = .ok (.if_icmp .ge 73, 3) := by decide +kernel
theorem si_183_35 : decode (sp_b 183) 35 = .ok (.iload_n 2, 1) := by decide +kernel
theorem si_183_36 : decode (sp_b 183) 36 = .ok (.ifCond .ne 8, 3) := by decide +kernel
theorem si_183_39 : decode (sp_b 183) 39 = .ok (.iload 5, 2) := by decide +kernel
theorem si_183_41 : decode (sp_b 183) 41 = .ok (.goto 12, 3) := by decide +kernel
theorem si_183_44 : decode (sp_b 183) 44 = .ok (.aload_n 0, 1) := by decide +kernel
theorem si_183_45 : decode (sp_b 183) 45 = .ok (.getfield 142, 3) := by decide +kernel
theorem si_183_48 : decode (sp_b 183) 48 = .ok (.iconst 1, 1) := by decide +kernel
theorem si_183_49 : decode (sp_b 183) 49 = .ok (.isub, 1) := by decide +kernel
theorem si_183_50 : decode (sp_b 183) 50 = .ok (.iload 5, 2) := by decide +kernel
theorem si_183_52 : decode (sp_b 183) 52 = .ok (.isub, 1) := by decide +kernel
theorem si_183_53 : decode (sp_b 183) 53 = .ok (.istore 6, 2) := by decide +kernel
theorem si_183_55 : decode (sp_b 183) 55 = .ok (.iload_n 2, 1) := by decide +kernel
theorem si_183_56 : decode (sp_b 183) 56 = .ok (.ifCond .ne 10, 3) := by decide +kernel
theorem si_183_59 : decode (sp_b 183) 59 = .ok (.iload 6, 2) := by decide +kernel
theorem si_183_61 : decode (sp_b 183) 61 = .ok (.iconst 1, 1) := by decide +kernel
theorem si_183_62 : decode (sp_b 183) 62 = .ok (.iadd, 1) := by decide +kernel
theorem si_183_63 : decode (sp_b 183) 63 = .ok (.goto 7, 3) := by decide +kernel
theorem si_183_66 : decode (sp_b 183) 66 = .ok (.iload 6, 2) := by decide +kernel
theorem si_183_68 : decode (sp_b 183) 68 = .ok (.iconst 1, 1) := by decide +kernel
theorem si_183_69 : decode (sp_b 183) 69 = .ok (.isub, 1) := by decide +kernel
theorem si_183_70 : decode (sp_b 183) 70 = .ok (.istore 7, 2) := by decide +kernel
theorem si_183_72 : decode (sp_b 183) 72 = .ok (.aload_n 0, 1) := by decide +kernel
theorem si_183_73 : decode (sp_b 183) 73 = .ok (.iload_n 1, 1) := by decide +kernel
theorem si_183_74 : decode (sp_b 183) 74 = .ok (.iload 6, 2) := by decide +kernel
theorem si_183_76 : decode (sp_b 183) 76 = .ok (.aload_n 0, 1) := by decide +kernel
theorem si_183_77 : decode (sp_b 183) 77 = .ok (.iload 7, 2) := by decide +kernel
theorem si_183_79 : decode (sp_b 183) 79 = .ok (.invokevirtual 174, 3) := by decide +kernel
theorem sk_183_174 : sp_okL 183 174 162 1059 = true := by decide +kernel
theorem si_183_82 : decode (sp_b 183) 82 = .ok (.ifCond .eq 13, 3) := by decide +kernel
theorem si_183_85 : decode (sp_b 183) 85 = .ok (.aload_n 0, 1) := by decide +kernel
theorem si_183_86 : decode (sp_b 183) 86 = .ok (.iload_n 1, 1) := by decide +kernel
theorem si_183_87 : decode (sp_b 183) 87 = .ok (.iload 7, 2) := by decide +kernel
theorem si_183_89 : decode (sp_b 183) 89 = .ok (.invokevirtual 152, 3) := by decide +kernel
theorem si_183_92 : decode (sp_b 183) 92 = .ok (.goto 4, 3) := by decide +kernel
theorem si_183_95 : decode (sp_b 183) 95 = .ok (.iconst 0, 1) := by decide +kernel
theorem si_183_96 : decode (sp_b 183) 96 = .ok (.invokevirtual 145, 3) := by decide +kernel
theorem sk_183_145 : sp_okL 183 145 160 1051 = true := by decide +kernel
theorem si_183_99 : decode (sp_b 183) 99 = .ok (.iinc 5 1, 3) := by decide +kernel
theorem si_183_102 : decode (sp_b 183) 102 = .ok (.goto (-76), 3) := by decide +kernel
theorem si_183_105 : decode (sp_b 183) 105 = .ok (.aload_n 0, 1) := by decide +kernel
theorem si_183_106 : decode (sp_b 183) 106 = .ok (.iload_n 1, 1) := by decide +kernel
theorem si_183_107 : decode (sp_b 183) 107 = .ok (.bipush 6, 2) := by decide +kernel
theorem si_183_109 : decode (sp_b 183) 109 = .ok (.iload 4, 2) := by decide +kernel
theorem si_183_111 : decode (sp_b 183) 111 = .ok (.invokevirtual 161, 3) := by decide +kernel
theorem sk_183_161 : sp_okL 183 161 178 1120 = true := by decide +kernel
theorem si_183_114 : decode (sp_b 183) 114 = .ok (.iload 4, 2) := by decide +kernel
theorem si_183_116 : decode (sp_b 183) 116 = .ok (.ireturn, 1) := by decide +kernel
theorem si_184_0 : decode (sp_b 184) 0 = .ok (.aload_n 0, 1) := by decide +kernel
theorem si_184_1 : decode (sp_b 184) 1 = .ok (.iload_n 1, 1) := by decide +kernel
theorem si_184_2 : decode (sp_b 184) 2 = .ok (.invokevirtual 174, 3) := by decide +kernel
theorem sk_184_174 : sp_okL 184 174 162 1059 = true := by decide +kernel
theorem si_184_5 : decode (sp_b 184) 5 = .ok (.ifCond .ne 5, 3) := by decide +kernel
theorem si_184_8 : decode (sp_b 184) 8 = .ok (.iconst (-1), 1) := by decide +kernel
theorem si_184_9 : decode (sp_b 184) 9 = .ok (.ireturn, 1) := by decide +kernel
theorem si_184_10 : decode (sp_b 184) 10 = .ok (.aload_n 0, 1) := by decide +kernel
theorem si_184_11 : decode (sp_b 184) 11 = .ok (.getfield 149, 3) := by decide +kernel
theorem sf_184_149 : sp_okF 184 149 8 21 857 = true := by decide +kernel
theorem si_184_14 : decode (sp_b 184) 14 = .ok (.bipush 60, 2) := by decide +kernel
theorem si_184_16 : decode (sp_b 184) 16 = .ok (.if_icmp .ne 6, 3) := by decide +kernel
theorem si_184_19 : decode (sp_b 184) 19 = .ok (.bipush (-2), 2) := by decide +kernel
theorem si_184_21 : decode (sp_b 184) 21 = .ok (.ireturn, 1) := by decide +kernel
theorem si_184_22 : decode (sp_b 184) 22 = .ok (.aload_n 0, 1) := by decide +kernel
theorem si_184_23 : decode (sp_b 184) 23 = .ok (.invokevirtual 189, 3) := by decide +kernel
theorem sk_184_189 : sp_okL 184 189 174 1104 = true := by decide +kernel
theorem si_184_26 : decode (sp_b 184) 26 = .ok (.aload_n 0, 1) := by decide +kernel
theorem si_184_27 : decode (sp_b 184) 27 = .ok (.iconst 0, 1) := by decide +kernel
theorem si_184_28 : decode (sp_b 184) 28 = .ok (.iload_n 1, 1) := by decide +kernel
theorem si_184_29 : decode (sp_b 184) 29 = .ok (.bipush 6, 2) := by decide +kernel
theorem si_184_31 : decode (sp_b 184) 31 = .ok (.aload_n 0, 1) := by decide +kernel
theorem si_184_32 : decode (sp_b 184) 32 = .ok (.getfield 76, 3) := by decide +kernel
theorem sf_184_76 : sp_okF 184 76 8 10 846 = true := by decide +kernel
theorem si_184_35 : decode (sp_b 184) 35 = .ok (.invokevirtual 167, 3) := by decide +kernel
theorem sk_184_167 : sp_okL 184 167 177 1116 = true := by decide +kernel
theorem si_184_38 : decode (sp_b 184) 38 = .ok (.ireturn, 1) := by decide +kernel
theorem si_185_0 : decode (sp_b 185) 0 = .ok (.iload_n 1, 1) := by decide +kernel
theorem si_185_1 : decode (sp_b 185) 1 = .ok (.iconst 0, 1) := by decide +kernel
theorem si_185_2 : decode (sp_b 185) 2 = .ok (.aload_n 0, 1) := by decide +kernel
theorem si_185_3 : decode (sp_b 185) 3 = .ok (.getfield 149, 3) := by decide +kernel
theorem sf_185_149 : sp_okF 185 149 8 21 857 = true := by decide +kernel
theorem si_185_6 : decode (sp_b 185) 6 = .ok (.invokestatic 83, 3) := by decide +kernel
theorem sk_185_83 : sp_okL 185 83 135 955 = true := by decide +kernel
theorem si_185_9 : decode (sp_b 185) 9 = .ok (.ifCond .ne 5, 3) := by decide +kernel
theorem si_185_12 : decode (sp_b 185) 12 = .ok (.iconst (-1), 1) := by decide +kernel
theorem si_185_13 : decode (sp_b 185) 13 = .ok (.ireturn, 1) := by decide +kernel
theorem si_185_14 : decode (sp_b 185) 14 = .ok (.aload_n 0, 1) := by decide +kernel
theorem si_185_15 : decode (sp_b 185) 15 = .ok (.getfield 149, 3) := by decide +kernel
theorem si_185_18 : decode (sp_b 185) 18 = .ok (.iload_n 1, 1) := by decide +kernel
theorem si_185_19 : decode (sp_b 185) 19 = .ok (.isub, 1) := by decide +kernel
theorem si_185_20 : decode (sp_b 185) 20 = .ok (.istore_n 2, 1) := by decide +kernel
theorem si_185_21 : decode (sp_b 185) 21 = .ok (.iconst 0, 1) := by decide +kernel
theorem si_185_22 : decode (sp_b 185) 22 = .ok (.istore_n 3, 1) := by decide +kernel
theorem si_185_23 : decode (sp_b 185) 23 = .ok (.iload_n 3, 1) := by decide +kernel
theorem si_185_24 : decode (sp_b 185) 24 = .ok (.bipush 9, 2) := by decide +kernel
theorem si_185_26 : decode (sp_b 185) 26 = .ok (.if_icmp .ge 30, 3) := by decide +kernel
theorem si_185_29 : decode (sp_b 185) 29 = .ok (.iload_n 2, 1) := by decide +kernel
theorem si_185_30 : decode (sp_b 185) 30 = .ok (.ifCond .le 26, 3) := by decide +kernel
theorem si_185_33 : decode (sp_b 185) 33 = .ok (.aload_n 0, 1) := by decide +kernel
theorem si_185_34 : decode (sp_b 185) 34 = .ok (.iconst 0, 1) := by decide +kernel
theorem si_185_35 : decode (sp_b 185) 35 = .ok (.iload_n 3, 1) := by decide +kernel
theorem si_185_36 : decode (sp_b 185) 36 = .ok (.aload_n 0, 1) := by decide +kernel
theorem si_185_37 : decode (sp_b 185) 37 = .ok (.getfield 48, 3) := by decide +kernel
theorem sf_185_48 : sp_okF 185 48 8 22 858 = true := by decide +kernel
theorem si_185_40 : decode (sp_b 185) 40 = .ok (.bipush 9, 2) := by decide +kernel
theorem si_185_42 : decode (sp_b 185) 42 = .ok (.iload_n 1, 1) := by decide +kernel
theorem si_185_43 : decode (sp_b 185) 43 = .ok (.imul, 1) := by decide +kernel
theorem si_185_44 : decode (sp_b 185) 44 = .ok (.iload_n 3, 1) := by decide +kernel
theorem si_185_45 : decode (sp_b 185) 45 = .ok (.iadd, 1) := by decide +kernel
theorem si_185_46 : decode (sp_b 185) 46 = .ok (.iaload, 1) := by decide +kernel
theorem si_185_47 : decode (sp_b 185) 47 = .ok (.invokevirtual 145, 3) := by decide +kernel
theorem sk_185_145 : sp_okL 185 145 160 1051 = true := by decide +kernel
theorem si_185_50 : decode (sp_b 185) 50 = .ok (.iinc 3 1, 3) := by decide +kernel
theorem si_185_53 : decode (sp_b 185) 53 = .ok (.goto (-30), 3) := by decide +kernel
theorem si_185_56 : decode (sp_b 185) 56 = .ok (.aload_n 0, 1) := by decide +kernel
theorem si_185_57 : decode (sp_b 185) 57 = .ok (.iload_n 1, 1) := by decide +kernel
theorem si_185_58 : decode (sp_b 185) 58 = .ok (.putfield 149, 3) := by decide +kernel
theorem si_185_61 : decode (sp_b 185) 61 = .ok (.iload_n 2, 1) := by decide +kernel
theorem si_185_62 : decode (sp_b 185) 62 = .ok (.ireturn, 1) := by decide +kernel
theorem si_186_0 : decode (sp_b 186) 0 = .ok (.aload_n 0, 1) := by decide +kernel
theorem si_186_1 : decode (sp_b 186) 1 = .ok (.iconst 0, 1) := by decide +kernel
theorem si_186_2 : decode (sp_b 186) 2 = .ok (.invokevirtual 183, 3) := by decide +kernel
theorem sk_186_183 : sp_okL 186 183 170 1089 = true := by decide +kernel
theorem si_186_5 : decode (sp_b 186) 5 = .ok (.ireturn, 1) := by decide +kernel
theorem si_187_0 : decode (sp_b 187) 0 = .ok (.iload_n 1, 1) := by decide +kernel
theorem si_187_1 : decode (sp_b 187) 1 = .ok (.iconst 0, 1) := by decide +kernel
theorem si_187_2 : decode (sp_b 187) 2 = .ok (.iconst 2, 1) := by decide +kernel
theorem si_187_3 : decode (sp_b 187) 3 = .ok (.invokestatic 83, 3) := by decide +kernel
theorem sk_187_83 : sp_okL 187 83 135 955 = true := by decide +kernel
theorem si_187_6 : decode (sp_b 187) 6 = .ok (.ifCond .ne 5, 3) := by decide +kernel
theorem si_187_9 : decode (sp_b 187) 9 = .ok (.iconst (-1), 1) := by decide +kernel
theorem si_187_10 : decode (sp_b 187) 10 = .ok (.ireturn, 1) := by decide +kernel
theorem si_187_11 : decode (sp_b 187) 11 = .ok (.aload_n 0, 1) := by decide +kernel
theorem si_187_12 : decode (sp_b 187) 12 = .ok (.getfield 142, 3) := by decide +kernel
theorem sf_187_142 : sp_okF 187 142 8 11 847 = true := by decide +kernel
theorem si_187_15 : decode (sp_b 187) 15 = .ok (.ifCond .ne 6, 3) := by decide +kernel
theorem si_187_18 : decode (sp_b 187) 18 = .ok (.bipush (-4), 2) := by decide +kernel
theorem si_187_20 : decode (sp_b 187) 20 = .ok (.ireturn, 1) := by decide +kernel
theorem si_187_21 : decode (sp_b 187) 21 = .ok (.aload_n 0, 1) := by decide +kernel
theorem si_187_22 : decode (sp_b 187) 22 = .ok (.getfield 51, 3) := by decide +kernel
theorem sf_187_51 : sp_okF 187 51 8 23 859 = true := by decide +kernel
theorem si_187_25 : decode (sp_b 187) 25 = .ok (.iload_n 1, 1) := by decide +kernel
theorem si_187_26 : decode (sp_b 187) 26 = .ok (.iconst 1, 1) := by decide +kernel
theorem si_187_27 : decode (sp_b 187) 27 = .ok (.bastore, 1) := by decide +kernel
theorem si_187_28 : decode (sp_b 187) 28 = .ok (.aload_n 0, 1) := by decide +kernel
theorem si_187_29 : decode (sp_b 187) 29 = .ok (.getfield 55, 3) := by decide +kernel
theorem sf_187_55 : sp_okF 187 55 8 24 860 = true := by decide +kernel
theorem si_187_32 : decode (sp_b 187) 32 = .ok (.iload_n 1, 1) := by decide +kernel
theorem si_187_33 : decode (sp_b 187) 33 = .ok (.aload_n 0, 1) := by decide +kernel
theorem si_187_34 : decode (sp_b 187) 34 = .ok (.getfield 149, 3) := by decide +kernel
theorem sf_187_149 : sp_okF 187 149 8 21 857 = true := by decide +kernel
theorem si_187_37 : decode (sp_b 187) 37 = .ok (.iastore, 1) := by decide +kernel
theorem si_187_38 : decode (sp_b 187) 38 = .ok (.aload_n 0, 1) := by decide +kernel
theorem si_187_39 : decode (sp_b 187) 39 = .ok (.getfield 58, 3) := by decide +kernel
theorem sf_187_58 : sp_okF 187 58 8 25 861 = true := by decide +kernel
theorem si_187_42 : decode (sp_b 187) 42 = .ok (.iload_n 1, 1) := by decide +kernel
theorem si_187_43 : decode (sp_b 187) 43 = .ok (.aload_n 0, 1) := by decide +kernel
theorem si_187_44 : decode (sp_b 187) 44 = .ok (.getfield 76, 3) := by decide +kernel
theorem sf_187_76 : sp_okF 187 76 8 10 846 = true := by decide +kernel
theorem si_187_47 : decode (sp_b 187) 47 = .ok (.iastore, 1) := by decide +kernel
theorem si_187_48 : decode (sp_b 187) 48 = .ok (.iconst 0, 1) := by decide +kernel
theorem si_187_49 : decode (sp_b 187) 49 = .ok (.istore_n 2, 1) := by decide +kernel
theorem si_187_50 : decode (sp_b 187) 50 = .ok (.iload_n 2, 1) := by decide +kernel
theorem si_187_51 : decode (sp_b 187) 51 = .ok (.bipush 9, 2) := by decide +kernel
theorem si_187_53 : decode (sp_b 187) 53 = .ok (.if_icmp .ge 26, 3) := by decide +kernel
theorem si_187_56 : decode (sp_b 187) 56 = .ok (.aload_n 0, 1) := by decide +kernel
theorem si_187_57 : decode (sp_b 187) 57 = .ok (.getfield 61, 3) := by decide +kernel
theorem sf_187_61 : sp_okF 187 61 8 26 862 = true := by decide +kernel
theorem si_187_60 : decode (sp_b 187) 60 = .ok (.bipush 9, 2) := by decide +kernel
theorem si_187_62 : decode (sp_b 187) 62 = .ok (.iload_n 1, 1) := by decide +kernel
theorem si_187_63 : decode (sp_b 187) 63 = .ok (.imul, 1) := by decide +kernel
theorem si_187_64 : decode (sp_b 187) 64 = .ok (.iload_n 2, 1) := by decide +kernel
theorem si_187_65 : decode (sp_b 187) 65 = .ok (.iadd, 1) := by decide +kernel
theorem si_187_66 : decode (sp_b 187) 66 = .ok (.aload_n 0, 1) := by decide +kernel
theorem si_187_67 : decode (sp_b 187) 67 = .ok (.iconst 0, 1) := by decide +kernel
theorem si_187_68 : decode (sp_b 187) 68 = .ok (.iload_n 2, 1) := by decide +kernel
theorem si_187_69 : decode (sp_b 187) 69 = .ok (.invokevirtual 152, 3) := by decide +kernel
theorem sk_187_152 : sp_okL 187 152 164 1067 = true := by decide +kernel
theorem si_187_72 : decode (sp_b 187) 72 = .ok (.iastore, 1) := by decide +kernel
theorem si_187_73 : decode (sp_b 187) 73 = .ok (.iinc 2 1, 3) := by decide +kernel
theorem si_187_76 : decode (sp_b 187) 76 = .ok (.goto (-26), 3) := by decide +kernel
theorem si_187_79 : decode (sp_b 187) 79 = .ok (.iconst 0, 1) := by decide +kernel
theorem si_187_80 : decode (sp_b 187) 80 = .ok (.istore_n 2, 1) := by decide +kernel
theorem si_187_81 : decode (sp_b 187) 81 = .ok (.iload_n 2, 1) := by decide +kernel
theorem si_187_82 : decode (sp_b 187) 82 = .ok (.bipush 9, 2) := by decide +kernel
theorem si_187_84 : decode (sp_b 187) 84 = .ok (.aload_n 0, 1) := by decide +kernel
theorem si_187_85 : decode (sp_b 187) 85 = .ok (.getfield 149, 3) := by decide +kernel
theorem si_187_88 : decode (sp_b 187) 88 = .ok (.imul, 1) := by decide +kernel
theorem si_187_89 : decode (sp_b 187) 89 = .ok (.if_icmp .ge 27, 3) := by decide +kernel
theorem si_187_92 : decode (sp_b 187) 92 = .ok (.aload_n 0, 1) := by decide +kernel
theorem si_187_93 : decode (sp_b 187) 93 = .ok (.getfield 64, 3) := by decide +kernel
theorem sf_187_64 : sp_okF 187 64 8 27 863 = true := by decide +kernel
theorem si_187_96 : decode (sp_b 187) 96 = .ok (.sipush 540, 3) := by decide +kernel
theorem si_187_99 : decode (sp_b 187) 99 = .ok (.iload_n 1, 1) := by decide +kernel
theorem si_187_100 : decode (sp_b 187) 100 = .ok (.imul, 1) := by decide +kernel
theorem si_187_101 : decode (sp_b 187) 101 = .ok (.iload_n 2, 1) := by decide +kernel
theorem si_187_102 : decode (sp_b 187) 102 = .ok (.iadd, 1) := by decide +kernel
theorem si_187_103 : decode (sp_b 187) 103 = .ok (.aload_n 0, 1) := by decide +kernel
theorem si_187_104 : decode (sp_b 187) 104 = .ok (.getfield 48, 3) := by decide +kernel
theorem sf_187_48 : sp_okF 187 48 8 22 858 = true := by decide +kernel
theorem si_187_107 : decode (sp_b 187) 107 = .ok (.iload_n 2, 1) := by decide +kernel
theorem si_187_108 : decode (sp_b 187) 108 = .ok (.iaload, 1) := by decide +kernel
theorem si_187_109 : decode (sp_b 187) 109 = .ok (.iastore, 1) := by decide +kernel
theorem si_187_110 : decode (sp_b 187) 110 = .ok (.iinc 2 1, 3) := by decide +kernel
theorem si_187_113 : decode (sp_b 187) 113 = .ok (.goto (-32), 3) := by decide +kernel
theorem si_187_116 : decode (sp_b 187) 116 = .ok (.aload_n 0, 1) := by decide +kernel
theorem si_187_117 : decode (sp_b 187) 117 = .ok (.getfield 149, 3) := by decide +kernel
theorem si_187_120 : decode (sp_b 187) 120 = .ok (.ireturn, 1) := by decide +kernel
theorem si_188_0 : decode (sp_b 188) 0 = .ok (.iload_n 1, 1) := by decide +kernel
theorem si_188_1 : decode (sp_b 188) 1 = .ok (.iconst 0, 1) := by decide +kernel
theorem si_188_2 : decode (sp_b 188) 2 = .ok (.iconst 2, 1) := by decide +kernel
theorem si_188_3 : decode (sp_b 188) 3 = .ok (.invokestatic 83, 3) := by decide +kernel
theorem sk_188_83 : sp_okL 188 83 135 955 = true := by decide +kernel
theorem si_188_6 : decode (sp_b 188) 6 = .ok (.ifCond .ne 5, 3) := by decide +kernel
theorem si_188_9 : decode (sp_b 188) 9 = .ok (.iconst (-1), 1) := by decide +kernel
theorem si_188_10 : decode (sp_b 188) 10 = .ok (.ireturn, 1) := by decide +kernel
theorem si_188_11 : decode (sp_b 188) 11 = .ok (.aload_n 0, 1) := by decide +kernel
theorem si_188_12 : decode (sp_b 188) 12 = .ok (.getfield 51, 3) := by decide +kernel
theorem sf_188_51 : sp_okF 188 51 8 23 859 = true := by decide +kernel
theorem si_188_15 : decode (sp_b 188) 15 = .ok (.iload_n 1, 1) := by decide +kernel
theorem si_188_16 : decode (sp_b 188) 16 = .ok (.baload, 1) := by decide +kernel
theorem si_188_17 : decode (sp_b 188) 17 = .ok (.ifCond .ne 9, 3) := by decide +kernel
theorem si_188_20 : decode (sp_b 188) 20 = .ok (.aload_n 0, 1) := by decide +kernel
theorem si_188_21 : decode (sp_b 188) 21 = .ok (.iconst 1, 1) := by decide +kernel
theorem si_188_22 : decode (sp_b 188) 22 = .ok (.invokevirtual 97, 3) := by decide +kernel
theorem sk_188_97 : sp_okL 188 97 141 977 = true := by decide +kernel
theorem si_188_25 : decode (sp_b 188) 25 = .ok (.ireturn, 1) := by decide +kernel
theorem si_188_26 : decode (sp_b 188) 26 = .ok (.aload_n 0, 1) := by decide +kernel
theorem si_188_27 : decode (sp_b 188) 27 = .ok (.aload_n 0, 1) := by decide +kernel
theorem si_188_28 : decode (sp_b 188) 28 = .ok (.getfield 55, 3) := by decide +kernel
theorem sf_188_55 : sp_okF 188 55 8 24 860 = true := by decide +kernel
theorem si_188_31 : decode (sp_b 188) 31 = .ok (.iload_n 1, 1) := by decide +kernel
theorem si_188_32 : decode (sp_b 188) 32 = .ok (.iaload, 1) := by decide +kernel
theorem si_188_33 : decode (sp_b 188) 33 = .ok (.putfield 149, 3) := by decide +kernel
theorem sf_188_149 : sp_okF 188 149 8 21 857 = true := by decide +kernel
theorem si_188_36 : decode (sp_b 188) 36 = .ok (.aload_n 0, 1) := by decide +kernel
theorem si_188_37 : decode (sp_b 188) 37 = .ok (.aload_n 0, 1) := by decide +kernel
theorem si_188_38 : decode (sp_b 188) 38 = .ok (.getfield 58, 3) := by decide +kernel
theorem sf_188_58 : sp_okF 188 58 8 25 861 = true := by decide +kernel
theorem si_188_41 : decode (sp_b 188) 41 = .ok (.iload_n 1, 1) := by decide +kernel
theorem si_188_42 : decode (sp_b 188) 42 = .ok (.iaload, 1) := by decide +kernel
theorem si_188_43 : decode (sp_b 188) 43 = .ok (.putfield 76, 3) := by decide +kernel
theorem sf_188_76 : sp_okF 188 76 8 10 846 = true := by decide +kernel
theorem si_188_46 : decode (sp_b 188) 46 = .ok (.iconst 0, 1) := by decide +kernel
theorem si_188_47 : decode (sp_b 188) 47 = .ok (.istore_n 2, 1) := by decide +kernel
theorem si_188_48 : decode (sp_b 188) 48 = .ok (.iload_n 2, 1) := by decide +kernel
theorem si_188_49 : decode (sp_b 188) 49 = .ok (.bipush 9, 2) := by decide +kernel
theorem si_188_51 : decode (sp_b 188) 51 = .ok (.if_icmp .ge 26, 3) := by decide +kernel
theorem si_188_54 : decode (sp_b 188) 54 = .ok (.aload_n 0, 1) := by decide +kernel
theorem si_188_55 : decode (sp_b 188) 55 = .ok (.iconst 0, 1) := by decide +kernel
theorem si_188_56 : decode (sp_b 188) 56 = .ok (.iload_n 2, 1) := by decide +kernel
theorem si_188_57 : decode (sp_b 188) 57 = .ok (.aload_n 0, 1) := by decide +kernel
theorem si_188_58 : decode (sp_b 188) 58 = .ok (.getfield 61, 3) := by decide +kernel
theorem sf_188_61 : sp_okF 188 61 8 26 862 = true := by decide +kernel
theorem si_188_61 : decode (sp_b 188) 61 = .ok (.bipush 9, 2) := by decide +kernel
theorem si_188_63 : decode (sp_b 188) 63 = .ok (.iload_n 1, 1) := by decide +kernel
theorem si_188_64 : decode (sp_b 188) 64 = .ok (.imul, 1) := by decide +kernel
theorem si_188_65 : decode (sp_b 188) 65 = .ok (.iload_n 2, 1) := by decide +kernel
theorem si_188_66 : decode (sp_b 188) 66 = .ok (.iadd, 1) := by decide +kernel
theorem si_188_67 : decode (sp_b 188) 67 = .ok (.iaload, 1) := by decide +kernel
theorem si_188_68 : decode (sp_b 188) 68 = .ok (.invokevirtual 145, 3) := by decide +kernel
theorem sk_188_145 : sp_okL 188 145 160 1051 = true := by decide +kernel
theorem si_188_71 : decode (sp_b 188) 71 = .ok (.iinc 2 1, 3) := by decide +kernel
theorem si_188_74 : decode (sp_b 188) 74 = .ok (.goto (-26), 3) := by decide +kernel
theorem si_188_77 : decode (sp_b 188) 77 = .ok (.iconst 0, 1) := by decide +kernel
theorem si_188_78 : decode (sp_b 188) 78 = .ok (.istore_n 2, 1) := by decide +kernel
theorem si_188_79 : decode (sp_b 188) 79 = .ok (.iload_n 2, 1) := by decide +kernel
theorem si_188_80 : decode (sp_b 188) 80 = .ok (.bipush 9, 2) := by decide +kernel
theorem si_188_82 : decode (sp_b 188) 82 = .ok (.aload_n 0, 1) := by decide +kernel
theorem si_188_83 : decode (sp_b 188) 83 = .ok (.getfield 149, 3) := by decide +kernel
theorem si_188_86 : decode (sp_b 188) 86 = .ok (.imul, 1) := by decide +kernel
theorem si_188_87 : decode (sp_b 188) 87 = .ok (.if_icmp .ge 27, 3) := by decide +kernel
theorem si_188_90 : decode (sp_b 188) 90 = .ok (.aload_n 0, 1) := by decide +kernel
theorem si_188_91 : decode (sp_b 188) 91 = .ok (.getfield 48, 3) := by decide +kernel
theorem sf_188_48 : sp_okF 188 48 8 22 858 = true := by decide +kernel
theorem si_188_94 : decode (sp_b 188) 94 = .ok (.iload_n 2, 1) := by decide +kernel
theorem si_188_95 : decode (sp_b 188) 95 = .ok (.aload_n 0, 1) := by decide +kernel
theorem si_188_96 : decode (sp_b 188) 96 = .ok (.getfield 64, 3) := by decide +kernel
theorem sf_188_64 : sp_okF 188 64 8 27 863 = true := by decide +kernel
theorem si_188_99 : decode (sp_b 188) 99 = .ok (.sipush 540, 3) := by decide +kernel
theorem si_188_102 : decode (sp_b 188) 102 = .ok (.iload_n 1, 1) := by decide +kernel
theorem si_188_103 : decode (sp_b 188) 103 = .ok (.imul, 1) := by decide +kernel
theorem si_188_104 : decode (sp_b 188) 104 = .ok (.iload_n 2, 1) := by decide +kernel
theorem si_188_105 : decode (sp_b 188) 105 = .ok (.iadd, 1) := by decide +kernel
theorem si_188_106 : decode (sp_b 188) 106 = .ok (.iaload, 1) := by decide +kernel
theorem si_188_107 : decode (sp_b 188) 107 = .ok (.iastore, 1) := by decide +kernel
theorem si_188_108 : decode (sp_b 188) 108 = .ok (.iinc 2 1, 3) := by decide +kernel
theorem si_188_111 : decode (sp_b 188) 111 = .ok (.goto (-32), 3) := by decide +kernel
theorem si_188_114 : decode (sp_b 188) 114 = .ok (.aload_n 0, 1) := by decide +kernel
theorem si_188_115 : decode (sp_b 188) 115 = .ok (.getfield 149, 3) := by decide +kernel
theorem si_188_118 : decode (sp_b 188) 118 = .ok (.ireturn, 1) := by decide +kernel
theorem si_189_0 : decode (sp_b 189) 0 = .ok (.iload_n 1, 1) := by decide +kernel
theorem si_189_1 : decode (sp_b 189) 1 = .ok (.invokestatic 93, 3) := by decide +kernel
theorem sk_189_93 : sp_okL 189 93 140 974 = true := by decide +kernel
theorem si_189_4 : decode (sp_b 189) 4 = .ok (.ifCond .ne 5, 3) := by decide +kernel
theorem si_189_7 : decode (sp_b 189) 7 = .ok (.iconst (-1), 1) := by decide +kernel
theorem si_189_8 : decode (sp_b 189) 8 = .ok (.ireturn, 1) := by decide +kernel
theorem si_189_9 : decode (sp_b 189) 9 = .ok (.aload_n 0, 1) := by decide +kernel
theorem si_189_10 : decode (sp_b 189) 10 = .ok (.iload_n 1, 1) := by decide +kernel
theorem si_189_11 : decode (sp_b 189) 11 = .ok (.invokevirtual 209, 3) := by decide +kernel
theorem sk_189_209 : sp_okL 189 209 190 1168 = true := by decide +kernel
theorem si_189_14 : decode (sp_b 189) 14 = .ok (.istore_n 2, 1) := by decide +kernel
theorem si_189_15 : decode (sp_b 189) 15 = .ok (.iload_n 2, 1) := by decide +kernel
theorem si_189_16 : decode (sp_b 189) 16 = .ok (.ifCond .ge 5, 3) := by decide +kernel
theorem si_189_19 : decode (sp_b 189) 19 = .ok (.iload_n 2, 1) := by decide +kernel
theorem si_189_20 : decode (sp_b 189) 20 = .ok (.ireturn, 1) := by decide +kernel
theorem si_189_21 : decode (sp_b 189) 21 = .ok (.aload_n 0, 1) := by decide +kernel
theorem si_189_22 : decode (sp_b 189) 22 = .ok (.iconst 0, 1) := by decide +kernel
theorem si_189_23 : decode (sp_b 189) 23 = .ok (.iconst 1, 1) := by decide +kernel
theorem si_189_24 : decode (sp_b 189) 24 = .ok (.invokevirtual 212, 3) := by decide +kernel
theorem sk_189_212 : sp_okL 189 212 192 1176 = true := by decide +kernel
theorem si_189_27 : decode (sp_b 189) 27 = .ok (.aload_n 0, 1) := by decide +kernel
theorem si_189_28 : decode (sp_b 189) 28 = .ok (.iconst 1, 1) := by decide +kernel
theorem si_189_29 : decode (sp_b 189) 29 = .ok (.iload_n 1, 1) := by decide +kernel
theorem si_189_30 : decode (sp_b 189) 30 = .ok (.invokevirtual 215, 3) := by decide +kernel
theorem sk_189_215 : sp_okL 189 215 193 1180 = true := by decide +kernel
theorem si_189_33 : decode (sp_b 189) 33 = .ok (.istore_n 3, 1) := by decide +kernel
theorem si_189_34 : decode (sp_b 189) 34 = .ok (.aload_n 0, 1) := by decide +kernel
theorem si_189_35 : decode (sp_b 189) 35 = .ok (.aload_n 0, 1) := by decide +kernel
theorem si_189_36 : decode (sp_b 189) 36 = .ok (.iconst 1, 1) := by decide +kernel
theorem si_189_37 : decode (sp_b 189) 37 = .ok (.bipush 6, 2) := by decide +kernel
theorem si_189_39 : decode (sp_b 189) 39 = .ok (.invokevirtual 152, 3) := by decide +kernel
theorem sk_189_152 : sp_okL 189 152 164 1067 = true := by decide +kernel
theorem si_189_42 : decode (sp_b 189) 42 = .ok (.aload_n 0, 1) := by decide +kernel
theorem si_189_43 : decode (sp_b 189) 43 = .ok (.iconst 0, 1) := by decide +kernel
theorem si_189_44 : decode (sp_b 189) 44 = .ok (.bipush 6, 2) := by decide +kernel
theorem si_189_46 : decode (sp_b 189) 46 = .ok (.invokevirtual 152, 3) := by decide +kernel
theorem si_189_49 : decode (sp_b 189) 49 = .ok (.isub, 1) := by decide +kernel
theorem si_189_50 : decode (sp_b 189) 50 = .ok (.iload_n 3, 1) := by decide +kernel
theorem si_189_51 : decode (sp_b 189) 51 = .ok (.invokevirtual 105, 3) := by decide +kernel
theorem sk_189_105 : sp_okL 189 105 144 989 = true := by decide +kernel
theorem si_189_54 : decode (sp_b 189) 54 = .ok (.ireturn, 1) := by decide +kernel
theorem si_190_0 : decode (sp_b 190) 0 = .ok (.aload_n 0, 1) := by decide +kernel
theorem si_190_1 : decode (sp_b 190) 1 = .ok (.getfield 17, 3) := by decide +kernel
theorem sf_190_17 : sp_okF 190 17 8 5 841 = true := by decide +kernel
theorem si_190_4 : decode (sp_b 190) 4 = .ok (.iload_n 1, 1) := by decide +kernel
theorem si_190_5 : decode (sp_b 190) 5 = .ok (.iaload, 1) := by decide +kernel
theorem si_190_6 : decode (sp_b 190) 6 = .ok (.ifCond .ge 11, 3) := by decide +kernel
theorem si_190_9 : decode (sp_b 190) 9 = .ok (.aload_n 0, 1) := by decide +kernel
theorem si_190_10 : decode (sp_b 190) 10 = .ok (.iconst 1, 1) := by decide +kernel
theorem si_190_11 : decode (sp_b 190) 11 = .ok (.invokevirtual 97, 3) := by decide +kernel
theorem sk_190_97 : sp_okL 190 97 141 977 = true := by decide +kernel
theorem si_190_14 : decode (sp_b 190) 14 = .ok (.goto 8, 3) := by decide +kernel
theorem si_190_17 : decode (sp_b 190) 17 = .ok (.aload_n 0, 1) := by decide +kernel
theorem si_190_18 : decode (sp_b 190) 18 = .ok (.iload_n 1, 1) := by decide +kernel
theorem si_190_19 : decode (sp_b 190) 19 = .ok (.invokevirtual 206, 3) := by decide +kernel
theorem sk_190_206 : sp_okL 190 206 191 1172 = true := by decide +kernel
theorem si_190_22 : decode (sp_b 190) 22 = .ok (.ireturn, 1) := by decide +kernel
theorem si_191_0 : decode (sp_b 191) 0 = .ok (.aload_n 0, 1) := by decide +kernel
theorem si_191_1 : decode (sp_b 191) 1 = .ok (.getfield 17, 3) := by decide +kernel
theorem sf_191_17 : sp_okF 191 17 8 5 841 = true := by decide +kernel
theorem si_191_4 : decode (sp_b 191) 4 = .ok (.iload_n 1, 1) := by decide +kernel
theorem si_191_5 : decode (sp_b 191) 5 = .ok (.iaload, 1) := by decide +kernel
theorem si_191_6 : decode (sp_b 191) 6 = .ok (.bipush 12, 2) := by decide +kernel
theorem si_191_8 : decode (sp_b 191) 8 = .ok (.if_icmp .le 9, 3) := by decide +kernel
theorem si_191_11 : decode (sp_b 191) 11 = .ok (.aload_n 0, 1) := by decide +kernel
theorem si_191_12 : decode (sp_b 191) 12 = .ok (.iconst 5, 1) := by decide +kernel
theorem si_191_13 : decode (sp_b 191) 13 = .ok (.invokevirtual 97, 3) := by decide +kernel
theorem sk_191_97 : sp_okL 191 97 141 977 = true := by decide +kernel
theorem si_191_16 : decode (sp_b 191) 16 = .ok (.ireturn, 1) := by decide +kernel
theorem si_191_17 : decode (sp_b 191) 17 = .ok (.iconst 1, 1) := by decide +kernel
theorem si_191_18 : decode (sp_b 191) 18 = .ok (.istore_n 2, 1) := by decide +kernel
theorem si_191_19 : decode (sp_b 191) 19 = .ok (.iconst 0, 1) := by decide +kernel
theorem si_191_20 : decode (sp_b 191) 20 = .ok (.istore_n 3, 1) := by decide +kernel
theorem si_191_21 : decode (sp_b 191) 21 = .ok (.iload_n 3, 1) := by decide +kernel
theorem si_191_22 : decode (sp_b 191) 22 = .ok (.aload_n 0, 1) := by decide +kernel
theorem si_191_23 : decode (sp_b 191) 23 = .ok (.getfield 17, 3) := by decide +kernel
theorem si_191_26 : decode (sp_b 191) 26 = .ok (.iload_n 1, 1) := by decide +kernel
theorem si_191_27 : decode (sp_b 191) 27 = .ok (.iaload, 1) := by decide +kernel
theorem si_191_28 : decode (sp_b 191) 28 = .ok (.if_icmp .ge 32, 3) := by decide +kernel
theorem si_191_31 : decode (sp_b 191) 31 = .ok (.iload_n 2, 1) := by decide +kernel
theorem si_191_32 : decode (sp_b 191) 32 = .ok (.ifCond .eq 20, 3) := by decide +kernel
theorem si_191_35 : decode (sp_b 191) 35 = .ok (.aload_n 0, 1) := by decide +kernel
theorem si_191_36 : decode (sp_b 191) 36 = .ok (.aload_n 0, 1) := by decide +kernel
theorem si_191_37 : decode (sp_b 191) 37 = .ok (.iload_n 1, 1) := by decide +kernel
theorem si_191_38 : decode (sp_b 191) 38 = .ok (.iload_n 3, 1) := by decide +kernel
theorem si_191_39 : decode (sp_b 191) 39 = .ok (.invokevirtual 101, 3) := by decide +kernel
theorem sk_191_101 : sp_okL 191 101 143 985 = true := by decide +kernel
theorem si_191_42 : decode (sp_b 191) 42 = .ok (.invokevirtual 174, 3) := by decide +kernel
theorem sk_191_174 : sp_okL 191 174 162 1059 = true := by decide +kernel
theorem si_191_45 : decode (sp_b 191) 45 = .ok (.ifCond .eq 7, 3) := by decide +kernel
theorem si_191_48 : decode (sp_b 191) 48 = .ok (.iconst 1, 1) := by decide +kernel
theorem si_191_49 : decode (sp_b 191) 49 = .ok (.goto 4, 3) := by decide +kernel
theorem si_191_52 : decode (sp_b 191) 52 = .ok (.iconst 0, 1) := by decide +kernel
theorem si_191_53 : decode (sp_b 191) 53 = .ok (.istore_n 2, 1) := by decide +kernel
theorem si_191_54 : decode (sp_b 191) 54 = .ok (.iinc 3 1, 3) := by decide +kernel
theorem si_191_57 : decode (sp_b 191) 57 = .ok (.goto (-36), 3) := by decide +kernel
theorem si_191_60 : decode (sp_b 191) 60 = .ok (.iload_n 2, 1) := by decide +kernel
theorem si_191_61 : decode (sp_b 191) 61 = .ok (.ifCond .eq 7, 3) := by decide +kernel
theorem si_191_64 : decode (sp_b 191) 64 = .ok (.iconst 0, 1) := by decide +kernel
theorem si_191_65 : decode (sp_b 191) 65 = .ok (.goto 8, 3) := by decide +kernel
theorem si_191_68 : decode (sp_b 191) 68 = .ok (.aload_n 0, 1) := by decide +kernel
theorem si_191_69 : decode (sp_b 191) 69 = .ok (.iconst 3, 1) := by decide +kernel
theorem si_191_70 : decode (sp_b 191) 70 = .ok (.invokevirtual 97, 3) := by decide +kernel
theorem si_191_73 : decode (sp_b 191) 73 = .ok (.ireturn, 1) := by decide +kernel
theorem si_192_0 : decode (sp_b 192) 0 = .ok (.iconst 0, 1) := by decide +kernel
theorem si_192_1 : decode (sp_b 192) 1 = .ok (.istore_n 3, 1) := by decide +kernel
theorem si_192_2 : decode (sp_b 192) 2 = .ok (.iload_n 3, 1) := by decide +kernel
theorem si_192_3 : decode (sp_b 192) 3 = .ok (.bipush 9, 2) := by decide +kernel
theorem si_192_5 : decode (sp_b 192) 5 = .ok (.if_icmp .ge 21, 3) := by decide +kernel
theorem si_192_8 : decode (sp_b 192) 8 = .ok (.aload_n 0, 1) := by decide +kernel
theorem si_192_9 : decode (sp_b 192) 9 = .ok (.iload_n 2, 1) := by decide +kernel
theorem si_192_10 : decode (sp_b 192) 10 = .ok (.iload_n 3, 1) := by decide +kernel
theorem si_192_11 : decode (sp_b 192) 11 = .ok (.aload_n 0, 1) := by decide +kernel
theorem si_192_12 : decode (sp_b 192) 12 = .ok (.iload_n 1, 1) := by decide +kernel
theorem si_192_13 : decode (sp_b 192) 13 = .ok (.iload_n 3, 1) := by decide +kernel
theorem si_192_14 : decode (sp_b 192) 14 = .ok (.invokevirtual 152, 3) := by decide +kernel
theorem sk_192_152 : sp_okL 192 152 164 1067 = true := by decide +kernel
theorem si_192_17 : decode (sp_b 192) 17 = .ok (.invokevirtual 145, 3) := by decide +kernel
theorem sk_192_145 : sp_okL 192 145 160 1051 = true := by decide +kernel
theorem si_192_20 : decode (sp_b 192) 20 = .ok (.iinc 3 1, 3) := by decide +kernel
theorem si_192_23 : decode (sp_b 192) 23 = .ok (.goto (-21), 3) := by decide +kernel
theorem si_192_26 : decode (sp_b 192) 26 = .ok (.return_, 1) := by decide +kernel
theorem si_193_0 : decode (sp_b 193) 0 = .ok (.iconst 0, 1) := by decide +kernel
theorem si_193_1 : decode (sp_b 193) 1 = .ok (.istore_n 3, 1) := by decide +kernel
theorem si_193_2 : decode (sp_b 193) 2 = .ok (.iload_n 3, 1) := by decide +kernel
theorem si_193_3 : decode (sp_b 193) 3 = .ok (.aload_n 0, 1) := by decide +kernel
theorem si_193_4 : decode (sp_b 193) 4 = .ok (.getfield 17, 3) := by decide +kernel
theorem sf_193_17 : sp_okF 193 17 8 5 841 = true := by decide +kernel
theorem si_193_7 : decode (sp_b 193) 7 = .ok (.iload_n 2, 1) := by decide +kernel
theorem si_193_8 : decode (sp_b 193) 8 = .ok (.iaload, 1) := by decide +kernel
theorem si_193_9 : decode (sp_b 193) 9 = .ok (.if_icmp .ge 34, 3) := by decide +kernel
theorem si_193_12 : decode (sp_b 193) 12 = .ok (.aload_n 0, 1) := by decide +kernel
theorem si_193_13 : decode (sp_b 193) 13 = .ok (.iload_n 1, 1) := by decide +kernel
theorem si_193_14 : decode (sp_b 193) 14 = .ok (.aload_n 0, 1) := by decide +kernel
theorem si_193_15 : decode (sp_b 193) 15 = .ok (.iload_n 2, 1) := by decide +kernel
theorem si_193_16 : decode (sp_b 193) 16 = .ok (.iload_n 3, 1) := by decide +kernel
theorem si_193_17 : decode (sp_b 193) 17 = .ok (.invokevirtual 101, 3) := by decide +kernel
theorem sk_193_101 : sp_okL 193 101 143 985 = true := by decide +kernel
theorem si_193_20 : decode (sp_b 193) 20 = .ok (.invokevirtual 155, 3) := by decide +kernel
theorem sk_193_155 : sp_okL 193 155 165 1071 = true := by decide +kernel
theorem si_193_23 : decode (sp_b 193) 23 = .ok (.ifCond .eq 20, 3) := by decide +kernel
theorem si_193_26 : decode (sp_b 193) 26 = .ok (.aload_n 0, 1) := by decide +kernel
theorem si_193_27 : decode (sp_b 193) 27 = .ok (.iload_n 1, 1) := by decide +kernel
theorem si_193_28 : decode (sp_b 193) 28 = .ok (.aload_n 0, 1) := by decide +kernel
theorem si_193_29 : decode (sp_b 193) 29 = .ok (.iload_n 2, 1) := by decide +kernel
theorem si_193_30 : decode (sp_b 193) 30 = .ok (.iload_n 3, 1) := by decide +kernel
theorem si_193_31 : decode (sp_b 193) 31 = .ok (.invokevirtual 101, 3) := by decide +kernel
theorem si_193_34 : decode (sp_b 193) 34 = .ok (.invokevirtual 192, 3) := by decide +kernel
theorem sk_193_192 : sp_okL 193 192 175 1108 = true := by decide +kernel
theorem si_193_37 : decode (sp_b 193) 37 = .ok (.iinc 3 1, 3) := by decide +kernel
theorem si_193_40 : decode (sp_b 193) 40 = .ok (.goto (-38), 3) := by decide +kernel
theorem si_193_43 : decode (sp_b 193) 43 = .ok (.iload_n 3, 1) := by decide +kernel
theorem si_193_44 : decode (sp_b 193) 44 = .ok (.ireturn, 1) := by decide +kernel
theorem si_194_0 : decode (sp_b 194) 0 = .ok (.iload_n 1, 1) := by decide +kernel
theorem si_194_1 : decode (sp_b 194) 1 = .ok (.invokestatic 93, 3) := by decide +kernel
theorem sk_194_93 : sp_okL 194 93 140 974 = true := by decide +kernel
theorem si_194_4 : decode (sp_b 194) 4 = .ok (.ifCond .ne 5, 3) := by decide +kernel
theorem si_194_7 : decode (sp_b 194) 7 = .ok (.iconst (-1), 1) := by decide +kernel
theorem si_194_8 : decode (sp_b 194) 8 = .ok (.ireturn, 1) := by decide +kernel
theorem si_194_9 : decode (sp_b 194) 9 = .ok (.aload_n 0, 1) := by decide +kernel
theorem si_194_10 : decode (sp_b 194) 10 = .ok (.iload_n 1, 1) := by decide +kernel
theorem si_194_11 : decode (sp_b 194) 11 = .ok (.invokevirtual 209, 3) := by decide +kernel
theorem sk_194_209 : sp_okL 194 209 190 1168 = true := by decide +kernel
theorem si_194_14 : decode (sp_b 194) 14 = .ok (.istore_n 2, 1) := by decide +kernel
theorem si_194_15 : decode (sp_b 194) 15 = .ok (.iload_n 2, 1) := by decide +kernel
theorem si_194_16 : decode (sp_b 194) 16 = .ok (.ifCond .ge 5, 3) := by decide +kernel
theorem si_194_19 : decode (sp_b 194) 19 = .ok (.iload_n 2, 1) := by decide +kernel
theorem si_194_20 : decode (sp_b 194) 20 = .ok (.ireturn, 1) := by decide +kernel
theorem si_194_21 : decode (sp_b 194) 21 = .ok (.aload_n 0, 1) := by decide +kernel
theorem si_194_22 : decode (sp_b 194) 22 = .ok (.iconst 0, 1) := by decide +kernel
theorem si_194_23 : decode (sp_b 194) 23 = .ok (.iconst 1, 1) := by decide +kernel
theorem si_194_24 : decode (sp_b 194) 24 = .ok (.invokevirtual 212, 3) := by decide +kernel
theorem sk_194_212 : sp_okL 194 212 192 1176 = true := by decide +kernel
theorem si_194_27 : decode (sp_b 194) 27 = .ok (.aload_n 0, 1) := by decide +kernel
theorem si_194_28 : decode (sp_b 194) 28 = .ok (.iconst 1, 1) := by decide +kernel
theorem si_194_29 : decode (sp_b 194) 29 = .ok (.iload_n 1, 1) := by decide +kernel
theorem si_194_30 : decode (sp_b 194) 30 = .ok (.invokevirtual 215, 3) := by decide +kernel
theorem sk_194_215 : sp_okL 194 215 193 1180 = true := by decide +kernel
theorem si_194_33 : decode (sp_b 194) 33 = .ok (.pop, 1) := by decide +kernel
theorem si_194_34 : decode (sp_b 194) 34 = .ok (.aload_n 0, 1) := by decide +kernel
theorem si_194_35 : decode (sp_b 194) 35 = .ok (.iconst 1, 1) := by decide +kernel
theorem si_194_36 : decode (sp_b 194) 36 = .ok (.bipush 8, 2) := by decide +kernel
theorem si_194_38 : decode (sp_b 194) 38 = .ok (.invokevirtual 152, 3) := by decide +kernel
theorem sk_194_152 : sp_okL 194 152 164 1067 = true := by decide +kernel
theorem si_194_41 : decode (sp_b 194) 41 = .ok (.aload_n 0, 1) := by decide +kernel
theorem si_194_42 : decode (sp_b 194) 42 = .ok (.iconst 0, 1) := by decide +kernel
theorem si_194_43 : decode (sp_b 194) 43 = .ok (.bipush 8, 2) := by decide +kernel
theorem si_194_45 : decode (sp_b 194) 45 = .ok (.invokevirtual 152, 3) := by decide +kernel
theorem si_194_48 : decode (sp_b 194) 48 = .ok (.isub, 1) := by decide +kernel
theorem si_194_49 : decode (sp_b 194) 49 = .ok (.ireturn, 1) := by decide +kernel
theorem si_195_0 : decode (sp_b 195) 0 = .ok (.iload_n 1, 1) := by decide +kernel
theorem si_195_1 : decode (sp_b 195) 1 = .ok (.invokestatic 93, 3) := by decide +kernel
theorem sk_195_93 : sp_okL 195 93 140 974 = true := by decide +kernel
theorem si_195_4 : decode (sp_b 195) 4 = .ok (.ifCond .eq 10, 3) := by decide +kernel
theorem si_195_7 : decode (sp_b 195) 7 = .ok (.iload_n 2, 1) := by decide +kernel
theorem si_195_8 : decode (sp_b 195) 8 = .ok (.invokestatic 93, 3) := by decide +kernel
theorem si_195_11 : decode (sp_b 195) 11 = .ok (.ifCond .ne 5, 3) := by decide +kernel
theorem si_195_14 : decode (sp_b 195) 14 = .ok (.iconst (-1), 1) := by decide +kernel
theorem si_195_15 : decode (sp_b 195) 15 = .ok (.ireturn, 1) := by decide +kernel
theorem si_195_16 : decode (sp_b 195) 16 = .ok (.aload_n 0, 1) := by decide +kernel
theorem si_195_17 : decode (sp_b 195) 17 = .ok (.iload_n 1, 1) := by decide +kernel
theorem si_195_18 : decode (sp_b 195) 18 = .ok (.invokevirtual 209, 3) := by decide +kernel
theorem sk_195_209 : sp_okL 195 209 190 1168 = true := by decide +kernel
theorem si_195_21 : decode (sp_b 195) 21 = .ok (.istore_n 3, 1) := by decide +kernel
theorem si_195_22 : decode (sp_b 195) 22 = .ok (.iload_n 3, 1) := by decide +kernel
theorem si_195_23 : decode (sp_b 195) 23 = .ok (.ifCond .ge 5, 3) := by decide +kernel
theorem si_195_26 : decode (sp_b 195) 26 = .ok (.iload_n 3, 1) := by decide +kernel
theorem si_195_27 : decode (sp_b 195) 27 = .ok (.ireturn, 1) := by decide +kernel
theorem si_195_28 : decode (sp_b 195) 28 = .ok (.iconst 0, 1) := by decide +kernel
theorem si_195_29 : decode (sp_b 195) 29 = .ok (.istore 4, 2) := by decide +kernel
theorem si_195_31 : decode (sp_b 195) 31 = .ok (.iload 4, 2) := by decide +kernel
theorem si_195_33 : decode (sp_b 195) 33 = .ok (.iconst 4, 1) := by decide +kernel
theorem si_195_34 : decode (sp_b 195) 34 = .ok (.if_icmp .gt 34, 3) := by decide +kernel
theorem si_195_37 : decode (sp_b 195) 37 = .ok (.aload_n 0, 1) := by decide +kernel
theorem si_195_38 : decode (sp_b 195) 38 = .ok (.iload_n 1, 1) := by decide +kernel
theorem si_195_39 : decode (sp_b 195) 39 = .ok (.iconst 0, 1) := by decide +kernel
theorem si_195_40 : decode (sp_b 195) 40 = .ok (.iload 4, 2) := by decide +kernel
theorem si_195_42 : decode (sp_b 195) 42 = .ok (.invokevirtual 218, 3) := by decide +kernel
theorem sk_195_218 : sp_okL 195 218 196 1192 = true := by decide +kernel
theorem si_195_45 : decode (sp_b 195) 45 = .ok (.ifCond .eq 17, 3) := by decide +kernel
theorem si_195_48 : decode (sp_b 195) 48 = .ok (.aload_n 0, 1) := by decide +kernel
theorem si_195_49 : decode (sp_b 195) 49 = .ok (.iload_n 2, 1) := by decide +kernel
theorem si_195_50 : decode (sp_b 195) 50 = .ok (.aload_n 0, 1) := by decide +kernel
theorem si_195_51 : decode (sp_b 195) 51 = .ok (.getfield 67, 3) := by decide +kernel
theorem sf_195_67 : sp_okF 195 67 8 28 864 = true := by decide +kernel
theorem si_195_54 : decode (sp_b 195) 54 = .ok (.iload 4, 2) := by decide +kernel
theorem si_195_56 : decode (sp_b 195) 56 = .ok (.invokevirtual 221, 3) := by decide +kernel
theorem sk_195_221 : sp_okL 195 221 197 1196 = true := by decide +kernel
theorem si_195_59 : decode (sp_b 195) 59 = .ok (.iload 4, 2) := by decide +kernel
theorem si_195_61 : decode (sp_b 195) 61 = .ok (.ireturn, 1) := by decide +kernel
theorem si_195_62 : decode (sp_b 195) 62 = .ok (.iinc 4 1, 3) := by decide +kernel
theorem si_195_65 : decode (sp_b 195) 65 = .ok (.goto (-34), 3) := by decide +kernel
theorem si_195_68 : decode (sp_b 195) 68 = .ok (.bipush (-9), 2) := by decide +kernel
theorem si_195_70 : decode (sp_b 195) 70 = .ok (.ireturn, 1) := by decide +kernel
theorem si_196_0 : decode (sp_b 196) 0 = .ok (.iload_n 2, 1) := by decide +kernel
theorem si_196_1 : decode (sp_b 196) 1 = .ok (.iload_n 3, 1) := by decide +kernel
theorem si_196_2 : decode (sp_b 196) 2 = .ok (.if_icmp .ne 34, 3) := by decide +kernel
theorem si_196_5 : decode (sp_b 196) 5 = .ok (.aload_n 0, 1) := by decide +kernel
theorem si_196_6 : decode (sp_b 196) 6 = .ok (.iload_n 2, 1) := by decide +kernel
theorem si_196_7 : decode (sp_b 196) 7 = .ok (.iload_n 2, 1) := by decide +kernel
theorem si_196_8 : decode (sp_b 196) 8 = .ok (.iconst 1, 1) := by decide +kernel
theorem si_196_9 : decode (sp_b 196) 9 = .ok (.iadd, 1) := by decide +kernel
theorem si_196_10 : decode (sp_b 196) 10 = .ok (.invokevirtual 212, 3) := by decide +kernel
theorem sk_196_212 : sp_okL 196 212 192 1176 = true := by decide +kernel
theorem si_196_13 : decode (sp_b 196) 13 = .ok (.aload_n 0, 1) := by decide +kernel
theorem si_196_14 : decode (sp_b 196) 14 = .ok (.iload_n 2, 1) := by decide +kernel
theorem si_196_15 : decode (sp_b 196) 15 = .ok (.iconst 1, 1) := by decide +kernel
theorem si_196_16 : decode (sp_b 196) 16 = .ok (.iadd, 1) := by decide +kernel
theorem si_196_17 : decode (sp_b 196) 17 = .ok (.iload_n 1, 1) := by decide +kernel
theorem si_196_18 : decode (sp_b 196) 18 = .ok (.invokevirtual 215, 3) := by decide +kernel
theorem sk_196_215 : sp_okL 196 215 193 1180 = true := by decide +kernel
theorem si_196_21 : decode (sp_b 196) 21 = .ok (.aload_n 0, 1) := by decide +kernel
theorem si_196_22 : decode (sp_b 196) 22 = .ok (.getfield 17, 3) := by decide +kernel
theorem sf_196_17 : sp_okF 196 17 8 5 841 = true := by decide +kernel
theorem si_196_25 : decode (sp_b 196) 25 = .ok (.iload_n 1, 1) := by decide +kernel
theorem si_196_26 : decode (sp_b 196) 26 = .ok (.iaload, 1) := by decide +kernel
theorem si_196_27 : decode (sp_b 196) 27 = .ok (.if_icmp .ne 7, 3) := by decide +kernel
theorem si_196_30 : decode (sp_b 196) 30 = .ok (.iconst 1, 1) := by decide +kernel
theorem si_196_31 : decode (sp_b 196) 31 = .ok (.goto 4, 3) := by decide +kernel
theorem si_196_34 : decode (sp_b 196) 34 = .ok (.iconst 0, 1) := by decide +kernel
theorem si_196_35 : decode (sp_b 196) 35 = .ok (.ireturn, 1) := by decide +kernel
theorem si_196_36 : decode (sp_b 196) 36 = .ok (.iload_n 2, 1) := by decide +kernel
theorem si_196_37 : decode (sp_b 196) 37 = .ok (.ifCond .ne 7, 3) := by decide +kernel
theorem si_196_40 : decode (sp_b 196) 40 = .ok (.iconst 0, 1) := by decide +kernel
theorem si_196_41 : decode (sp_b 196) 41 = .ok (.goto 11, 3) := by decide +kernel
theorem si_196_44 : decode (sp_b 196) 44 = .ok (.aload_n 0, 1) := by decide +kernel
theorem si_196_45 : decode (sp_b 196) 45 = .ok (.getfield 67, 3) := by decide +kernel
theorem sf_196_67 : sp_okF 196 67 8 28 864 = true := by decide +kernel
theorem si_196_48 : decode (sp_b 196) 48 = .ok (.iload_n 2, 1) := by decide +kernel
theorem si_196_49 : decode (sp_b 196) 49 = .ok (.iconst 1, 1) := by decide +kernel
theorem si_196_50 : decode (sp_b 196) 50 = .ok (.isub, 1) := by decide +kernel
theorem si_196_51 : decode (sp_b 196) 51 = .ok (.iaload, 1) := by decide +kernel
theorem si_196_52 : decode (sp_b 196) 52 = .ok (.istore 4, 2) := by decide +kernel
theorem si_196_54 : decode (sp_b 196) 54 = .ok (.iload 4, 2) := by decide +kernel
theorem si_196_56 : decode (sp_b 196) 56 = .ok (.aload_n 0, 1) := by decide +kernel
theorem si_196_57 : decode (sp_b 196) 57 = .ok (.getfield 142, 3) := by decide +kernel
theorem sf_196_142 : sp_okF 196 142 8 11 847 = true := by decide +kernel
theorem si_196_60 : decode (sp_b 196) 60 = .ok (.if_icmp .ge 55, 3) := by decide +kernel
theorem si_196_63 : decode (sp_b 196) 63 = .ok (.aload_n 0, 1) := by decide +kernel
theorem si_196_64 : decode (sp_b 196) 64 = .ok (.iload_n 2, 1) := by decide +kernel
theorem si_196_65 : decode (sp_b 196) 65 = .ok (.iload_n 2, 1) := by decide +kernel
theorem si_196_66 : decode (sp_b 196) 66 = .ok (.iconst 1, 1) := by decide +kernel
theorem si_196_67 : decode (sp_b 196) 67 = .ok (.iadd, 1) := by decide +kernel
theorem si_196_68 : decode (sp_b 196) 68 = .ok (.invokevirtual 212, 3) := by decide +kernel
theorem si_196_71 : decode (sp_b 196) 71 = .ok (.aload_n 0, 1) := by decide +kernel
theorem si_196_72 : decode (sp_b 196) 72 = .ok (.iload_n 2, 1) := by decide +kernel
theorem si_196_73 : decode (sp_b 196) 73 = .ok (.iconst 1, 1) := by decide +kernel
theorem si_196_74 : decode (sp_b 196) 74 = .ok (.iadd, 1) := by decide +kernel
theorem si_196_75 : decode (sp_b 196) 75 = .ok (.iload 4, 2) := by decide +kernel
theorem si_196_77 : decode (sp_b 196) 77 = .ok (.bipush 6, 2) := by decide +kernel
theorem si_196_79 : decode (sp_b 196) 79 = .ok (.aload_n 0, 1) := by decide +kernel
theorem si_196_80 : decode (sp_b 196) 80 = .ok (.getfield 76, 3) := by decide +kernel
theorem sf_196_76 : sp_okF 196 76 8 10 846 = true := by decide +kernel
theorem si_196_83 : decode (sp_b 196) 83 = .ok (.invokevirtual 167, 3) := by decide +kernel
theorem sk_196_167 : sp_okL 196 167 177 1116 = true := by decide +kernel
theorem si_196_86 : decode (sp_b 196) 86 = .ok (.pop, 1) := by decide +kernel
theorem si_196_87 : decode (sp_b 196) 87 = .ok (.aload_n 0, 1) := by decide +kernel
theorem si_196_88 : decode (sp_b 196) 88 = .ok (.getfield 67, 3) := by decide +kernel
theorem si_196_91 : decode (sp_b 196) 91 = .ok (.iload_n 2, 1) := by decide +kernel
theorem si_196_92 : decode (sp_b 196) 92 = .ok (.iload 4, 2) := by decide +kernel
theorem si_196_94 : decode (sp_b 196) 94 = .ok (.iastore, 1) := by decide +kernel
theorem si_196_95 : decode (sp_b 196) 95 = .ok (.aload_n 0, 1) := by decide +kernel
theorem si_196_96 : decode (sp_b 196) 96 = .ok (.iload_n 1, 1) := by decide +kernel
theorem si_196_97 : decode (sp_b 196) 97 = .ok (.iload_n 2, 1) := by decide +kernel
theorem si_196_98 : decode (sp_b 196) 98 = .ok (.iconst 1, 1) := by decide +kernel
theorem si_196_99 : decode (sp_b 196) 99 = .ok (.iadd, 1) := by decide +kernel
theorem si_196_100 : decode (sp_b 196) 100 = .ok (.iload_n 3, 1) := by decide +kernel
theorem si_196_101 : decode (sp_b 196) 101 = .ok (.invokevirtual 218, 3) := by decide +kernel
theorem sk_196_218 : sp_okL 196 218 196 1192 = true := by decide +kernel
theorem si_196_104 : decode (sp_b 196) 104 = .ok (.ifCond .eq 5, 3) := by decide +kernel
theorem si_196_107 : decode (sp_b 196) 107 = .ok (.iconst 1, 1) := by decide +kernel
theorem si_196_108 : decode (sp_b 196) 108 = .ok (.ireturn, 1) := by decide +kernel
theorem si_196_109 : decode (sp_b 196) 109 = .ok (.iinc 4 1, 3) := by decide +kernel
theorem si_196_112 : decode (sp_b 196) 112 = .ok (.goto (-58), 3) := by decide +kernel
theorem si_196_115 : decode (sp_b 196) 115 = .ok (.iconst 0, 1) := by decide +kernel
theorem si_196_116 : decode (sp_b 196) 116 = .ok (.ireturn, 1) := by decide +kernel
theorem si_197_0 : decode (sp_b 197) 0 = .ok (.aload_n 0, 1) := by decide +kernel
theorem si_197_1 : decode (sp_b 197) 1 = .ok (.getfield 17, 3) := by decide +kernel
theorem sf_197_17 : sp_okF 197 17 8 5 841 = true := by decide +kernel
theorem si_197_4 : decode (sp_b 197) 4 = .ok (.iload_n 1, 1) := by decide +kernel
theorem si_197_5 : decode (sp_b 197) 5 = .ok (.iload_n 3, 1) := by decide +kernel
theorem si_197_6 : decode (sp_b 197) 6 = .ok (.iastore, 1) := by decide +kernel
theorem si_197_7 : decode (sp_b 197) 7 = .ok (.iconst 0, 1) := by decide +kernel
theorem si_197_8 : decode (sp_b 197) 8 = .ok (.istore 4, 2) := by decide +kernel
theorem si_197_10 : decode (sp_b 197) 10 = .ok (.iload 4, 2) := by decide +kernel
theorem si_197_12 : decode (sp_b 197) 12 = .ok (.bipush 40, 2) := by decide +kernel
theorem si_197_14 : decode (sp_b 197) 14 = .ok (.if_icmp .ge 35, 3) := by decide +kernel
theorem si_197_17 : decode (sp_b 197) 17 = .ok (.aload_n 0, 1) := by decide +kernel
theorem si_197_18 : decode (sp_b 197) 18 = .ok (.getfield 20, 3) := by decide +kernel
theorem sf_197_20 : sp_okF 197 20 8 6 842 = true := by decide +kernel
theorem si_197_21 : decode (sp_b 197) 21 = .ok (.bipush 40, 2) := by decide +kernel
theorem si_197_23 : decode (sp_b 197) 23 = .ok (.iload_n 1, 1) := by decide +kernel
theorem si_197_24 : decode (sp_b 197) 24 = .ok (.imul, 1) := by decide +kernel
theorem si_197_25 : decode (sp_b 197) 25 = .ok (.iload 4, 2) := by decide +kernel
theorem si_197_27 : decode (sp_b 197) 27 = .ok (.iadd, 1) := by decide +kernel
theorem si_197_28 : decode (sp_b 197) 28 = .ok (.iload 4, 2) := by decide +kernel
theorem si_197_30 : decode (sp_b 197) 30 = .ok (.iload_n 3, 1) := by decide +kernel
theorem si_197_31 : decode (sp_b 197) 31 = .ok (.if_icmp .ge 10, 3) := by decide +kernel
theorem si_197_34 : decode (sp_b 197) 34 = .ok (.aload_n 2, 1) := by decide +kernel
theorem si_197_35 : decode (sp_b 197) 35 = .ok (.iload 4, 2) := by decide +kernel
theorem si_197_37 : decode (sp_b 197) 37 = .ok (.iaload, 1) := by decide +kernel
theorem si_197_38 : decode (sp_b 197) 38 = .ok (.goto 4, 3) := by decide +kernel
theorem si_197_41 : decode (sp_b 197) 41 = .ok (.iconst 0, 1) := by decide +kernel
theorem si_197_42 : decode (sp_b 197) 42 = .ok (.iastore, 1) := by decide +kernel
theorem si_197_43 : decode (sp_b 197) 43 = .ok (.iinc 4 1, 3) := by decide +kernel
theorem si_197_46 : decode (sp_b 197) 46 = .ok (.goto (-36), 3) := by decide +kernel
theorem si_197_49 : decode (sp_b 197) 49 = .ok (.return_, 1) := by decide +kernel
theorem si_198_0 : decode (sp_b 198) 0 = .ok (.iload_n 1, 1) := by decide +kernel
theorem si_198_1 : decode (sp_b 198) 1 = .ok (.invokestatic 93, 3) := by decide +kernel
theorem sk_198_93 : sp_okL 198 93 140 974 = true := by decide +kernel
theorem si_198_4 : decode (sp_b 198) 4 = .ok (.ifCond .eq 13, 3) := by decide +kernel
theorem si_198_7 : decode (sp_b 198) 7 = .ok (.iload_n 2, 1) := by decide +kernel
theorem si_198_8 : decode (sp_b 198) 8 = .ok (.iconst 0, 1) := by decide +kernel
theorem si_198_9 : decode (sp_b 198) 9 = .ok (.bipush 9, 2) := by decide +kernel
theorem si_198_11 : decode (sp_b 198) 11 = .ok (.invokestatic 83, 3) := by decide +kernel
theorem sk_198_83 : sp_okL 198 83 135 955 = true := by decide +kernel
theorem si_198_14 : decode (sp_b 198) 14 = .ok (.ifCond .ne 5, 3) := by decide +kernel
theorem si_198_17 : decode (sp_b 198) 17 = .ok (.iconst (-1), 1) := by decide +kernel
theorem si_198_18 : decode (sp_b 198) 18 = .ok (.ireturn, 1) := by decide +kernel
theorem si_198_19 : decode (sp_b 198) 19 = .ok (.aload_n 0, 1) := by decide +kernel
theorem si_198_20 : decode (sp_b 198) 20 = .ok (.iload_n 1, 1) := by decide +kernel
theorem si_198_21 : decode (sp_b 198) 21 = .ok (.invokevirtual 209, 3) := by decide +kernel
theorem sk_198_209 : sp_okL 198 209 190 1168 = true := by decide +kernel
theorem si_198_24 : decode (sp_b 198) 24 = .ok (.istore_n 3, 1) := by decide +kernel
theorem si_198_25 : decode (sp_b 198) 25 = .ok (.iload_n 3, 1) := by decide +kernel
theorem si_198_26 : decode (sp_b 198) 26 = .ok (.ifCond .ge 5, 3) := by decide +kernel
theorem si_198_29 : decode (sp_b 198) 29 = .ok (.iload_n 3, 1) := by decide +kernel
theorem si_198_30 : decode (sp_b 198) 30 = .ok (.ireturn, 1) := by decide +kernel
theorem si_198_31 : decode (sp_b 198) 31 = .ok (.aload_n 0, 1) := by decide +kernel
theorem si_198_32 : decode (sp_b 198) 32 = .ok (.iconst 0, 1) := by decide +kernel
theorem si_198_33 : decode (sp_b 198) 33 = .ok (.iconst 1, 1) := by decide +kernel
theorem si_198_34 : decode (sp_b 198) 34 = .ok (.invokevirtual 212, 3) := by decide +kernel
theorem sk_198_212 : sp_okL 198 212 192 1176 = true := by decide +kernel
theorem si_198_37 : decode (sp_b 198) 37 = .ok (.iconst 0, 1) := by decide +kernel
theorem si_198_38 : decode (sp_b 198) 38 = .ok (.istore 4, 2) := by decide +kernel
theorem si_198_40 : decode (sp_b 198) 40 = .ok (.iload 4, 2) := by decide +kernel
theorem si_198_42 : decode (sp_b 198) 42 = .ok (.bipush 20, 2) := by decide +kernel
theorem si_198_44 : decode (sp_b 198) 44 = .ok (.if_icmp .ge 40, 3) := by decide +kernel
theorem si_198_47 : decode (sp_b 198) 47 = .ok (.aload_n 0, 1) := by decide +kernel
theorem si_198_48 : decode (sp_b 198) 48 = .ok (.iconst 1, 1) := by decide +kernel
theorem si_198_49 : decode (sp_b 198) 49 = .ok (.iload_n 2, 1) := by decide +kernel
theorem si_198_50 : decode (sp_b 198) 50 = .ok (.invokevirtual 200, 3) := by decide +kernel
theorem sk_198_200 : sp_okL 198 200 181 1132 = true := by decide +kernel
theorem si_198_53 : decode (sp_b 198) 53 = .ok (.pop, 1) := by decide +kernel
theorem si_198_54 : decode (sp_b 198) 54 = .ok (.aload_n 0, 1) := by decide +kernel
theorem si_198_55 : decode (sp_b 198) 55 = .ok (.iconst 1, 1) := by decide +kernel
theorem si_198_56 : decode (sp_b 198) 56 = .ok (.iconst 2, 1) := by decide +kernel
theorem si_198_57 : decode (sp_b 198) 57 = .ok (.invokevirtual 212, 3) := by decide +kernel
theorem si_198_60 : decode (sp_b 198) 60 = .ok (.aload_n 0, 1) := by decide +kernel
theorem si_198_61 : decode (sp_b 198) 61 = .ok (.iconst 2, 1) := by decide +kernel
theorem si_198_62 : decode (sp_b 198) 62 = .ok (.iload_n 1, 1) := by decide +kernel
theorem si_198_63 : decode (sp_b 198) 63 = .ok (.invokevirtual 215, 3) := by decide +kernel
theorem sk_198_215 : sp_okL 198 215 193 1180 = true := by decide +kernel
theorem si_198_66 : decode (sp_b 198) 66 = .ok (.aload_n 0, 1) := by decide +kernel
theorem si_198_67 : decode (sp_b 198) 67 = .ok (.getfield 17, 3) := by decide +kernel
theorem sf_198_17 : sp_okF 198 17 8 5 841 = true := by decide +kernel
theorem si_198_70 : decode (sp_b 198) 70 = .ok (.iload_n 1, 1) := by decide +kernel
theorem si_198_71 : decode (sp_b 198) 71 = .ok (.iaload, 1) := by decide +kernel
theorem si_198_72 : decode (sp_b 198) 72 = .ok (.if_icmp .ge 6, 3) := by decide +kernel
theorem si_198_75 : decode (sp_b 198) 75 = .ok (.iload 4, 2) := by decide +kernel
theorem si_198_77 : decode (sp_b 198) 77 = .ok (.ireturn, 1) := by decide +kernel
theorem si_198_78 : decode (sp_b 198) 78 = .ok (.iinc 4 1, 3) := by decide +kernel
theorem si_198_81 : decode (sp_b 198) 81 = .ok (.goto (-41), 3) := by decide +kernel
theorem si_198_84 : decode (sp_b 198) 84 = .ok (.bipush 20, 2) := by decide +kernel
theorem si_198_86 : decode (sp_b 198) 86 = .ok (.ireturn, 1) := by decide +kernel
theorem si_199_0 : decode (sp_b 199) 0 = .ok (.iload_n 1, 1) := by decide +kernel
theorem si_199_1 : decode (sp_b 199) 1 = .ok (.iconst 0, 1) := by decide +kernel
theorem si_199_2 : decode (sp_b 199) 2 = .ok (.iconst 2, 1) := by decide +kernel
theorem si_199_3 : decode (sp_b 199) 3 = .ok (.invokestatic 83, 3) := by decide +kernel
theorem sk_199_83 : sp_okL 199 83 135 955 = true := by decide +kernel
theorem si_199_6 : decode (sp_b 199) 6 = .ok (.ifCond .eq 10, 3) := by decide +kernel
theorem si_199_9 : decode (sp_b 199) 9 = .ok (.iload_n 2, 1) := by decide +kernel
theorem si_199_10 : decode (sp_b 199) 10 = .ok (.invokestatic 93, 3) := by decide +kernel
theorem sk_199_93 : sp_okL 199 93 140 974 = true := by decide +kernel
theorem si_199_13 : decode (sp_b 199) 13 = .ok (.ifCond .ne 5, 3) := by decide +kernel
theorem si_199_16 : decode (sp_b 199) 16 = .ok (.iconst (-1), 1) := by decide +kernel
theorem si_199_17 : decode (sp_b 199) 17 = .ok (.ireturn, 1) := by decide +kernel
theorem si_199_18 : decode (sp_b 199) 18 = .ok (.aload_n 0, 1) := by decide +kernel
theorem si_199_19 : decode (sp_b 199) 19 = .ok (.getfield 17, 3) := by decide +kernel
theorem sf_199_17 : sp_okF 199 17 8 5 841 = true := by decide +kernel
theorem si_199_22 : decode (sp_b 199) 22 = .ok (.iload_n 2, 1) := by decide +kernel
theorem si_199_23 : decode (sp_b 199) 23 = .ok (.iaload, 1) := by decide +kernel
theorem si_199_24 : decode (sp_b 199) 24 = .ok (.ifCond .lt 12, 3) := by decide +kernel
theorem si_199_27 : decode (sp_b 199) 27 = .ok (.aload_n 0, 1) := by decide +kernel
theorem si_199_28 : decode (sp_b 199) 28 = .ok (.getfield 51, 3) := by decide +kernel
theorem sf_199_51 : sp_okF 199 51 8 23 859 = true := by decide +kernel
theorem si_199_31 : decode (sp_b 199) 31 = .ok (.iload_n 1, 1) := by decide +kernel
theorem si_199_32 : decode (sp_b 199) 32 = .ok (.baload, 1) := by decide +kernel
theorem si_199_33 : decode (sp_b 199) 33 = .ok (.ifCond .ne 9, 3) := by decide +kernel
theorem si_199_36 : decode (sp_b 199) 36 = .ok (.aload_n 0, 1) := by decide +kernel
theorem si_199_37 : decode (sp_b 199) 37 = .ok (.iconst 1, 1) := by decide +kernel
theorem si_199_38 : decode (sp_b 199) 38 = .ok (.invokevirtual 97, 3) := by decide +kernel
theorem sk_199_97 : sp_okL 199 97 141 977 = true := by decide +kernel
theorem si_199_41 : decode (sp_b 199) 41 = .ok (.ireturn, 1) := by decide +kernel
theorem si_199_42 : decode (sp_b 199) 42 = .ok (.aload_n 0, 1) := by decide +kernel
theorem si_199_43 : decode (sp_b 199) 43 = .ok (.iload_n 2, 1) := by decide +kernel
theorem si_199_44 : decode (sp_b 199) 44 = .ok (.invokevirtual 206, 3) := by decide +kernel
theorem sk_199_206 : sp_okL 199 206 191 1172 = true := by decide +kernel
theorem si_199_47 : decode (sp_b 199) 47 = .ok (.istore_n 3, 1) := by decide +kernel
theorem si_199_48 : decode (sp_b 199) 48 = .ok (.iload_n 3, 1) := by decide +kernel
theorem si_199_49 : decode (sp_b 199) 49 = .ok (.ifCond .ge 5, 3) := by decide +kernel
theorem si_199_52 : decode (sp_b 199) 52 = .ok (.iload_n 3, 1) := by decide +kernel
theorem si_199_53 : decode (sp_b 199) 53 = .ok (.ireturn, 1) := by decide +kernel
theorem si_199_54 : decode (sp_b 199) 54 = .ok (.aload_n 0, 1) := by decide +kernel
theorem si_199_55 : decode (sp_b 199) 55 = .ok (.iconst 0, 1) := by decide +kernel
theorem si_199_56 : decode (sp_b 199) 56 = .ok (.iconst 1, 1) := by decide +kernel
theorem si_199_57 : decode (sp_b 199) 57 = .ok (.invokevirtual 212, 3) := by decide +kernel
theorem sk_199_212 : sp_okL 199 212 192 1176 = true := by decide +kernel
theorem si_199_60 : decode (sp_b 199) 60 = .ok (.iconst 0, 1) := by decide +kernel
theorem si_199_61 : decode (sp_b 199) 61 = .ok (.istore 4, 2) := by decide +kernel
theorem si_199_63 : decode (sp_b 199) 63 = .ok (.iload 4, 2) := by decide +kernel
theorem si_199_65 : decode (sp_b 199) 65 = .ok (.bipush 9, 2) := by decide +kernel
theorem si_199_67 : decode (sp_b 199) 67 = .ok (.if_icmp .ge 28, 3) := by decide +kernel
theorem si_199_70 : decode (sp_b 199) 70 = .ok (.aload_n 0, 1) := by decide +kernel
theorem si_199_71 : decode (sp_b 199) 71 = .ok (.iconst 2, 1) := by decide +kernel
theorem si_199_72 : decode (sp_b 199) 72 = .ok (.iload 4, 2) := by decide +kernel
theorem si_199_74 : decode (sp_b 199) 74 = .ok (.aload_n 0, 1) := by decide +kernel
theorem si_199_75 : decode (sp_b 199) 75 = .ok (.getfield 61, 3) := by decide +kernel
theorem sf_199_61 : sp_okF 199 61 8 26 862 = true := by decide +kernel
theorem si_199_78 : decode (sp_b 199) 78 = .ok (.bipush 9, 2) := by decide +kernel
theorem si_199_80 : decode (sp_b 199) 80 = .ok (.iload_n 1, 1) := by decide +kernel
theorem si_199_81 : decode (sp_b 199) 81 = .ok (.imul, 1) := by decide +kernel
theorem si_199_82 : decode (sp_b 199) 82 = .ok (.iload 4, 2) := by decide +kernel
theorem si_199_84 : decode (sp_b 199) 84 = .ok (.iadd, 1) := by decide +kernel
theorem si_199_85 : decode (sp_b 199) 85 = .ok (.iaload, 1) := by decide +kernel
theorem si_199_86 : decode (sp_b 199) 86 = .ok (.invokevirtual 145, 3) := by decide +kernel
theorem sk_199_145 : sp_okL 199 145 160 1051 = true := by decide +kernel
theorem si_199_89 : decode (sp_b 199) 89 = .ok (.iinc 4 1, 3) := by decide +kernel
theorem si_199_92 : decode (sp_b 199) 92 = .ok (.goto (-29), 3) := by decide +kernel
theorem si_199_95 : decode (sp_b 199) 95 = .ok (.iconst 0, 1) := by decide +kernel
theorem si_199_96 : decode (sp_b 199) 96 = .ok (.istore 4, 2) := by decide +kernel
theorem si_199_98 : decode (sp_b 199) 98 = .ok (.iload 4, 2) := by decide +kernel
theorem si_199_100 : decode (sp_b 199) 100 = .ok (.aload_n 0, 1) := by decide +kernel
theorem si_199_101 : decode (sp_b 199) 101 = .ok (.getfield 17, 3) := by decide +kernel
theorem si_199_104 : decode (sp_b 199) 104 = .ok (.iload_n 2, 1) := by decide +kernel
theorem si_199_105 : decode (sp_b 199) 105 = .ok (.iaload, 1) := by decide +kernel
theorem si_199_106 : decode (sp_b 199) 106 = .ok (.if_icmp .ge 46, 3) := by decide +kernel
theorem si_199_109 : decode (sp_b 199) 109 = .ok (.aload_n 0, 1) := by decide +kernel
theorem si_199_110 : decode (sp_b 199) 110 = .ok (.iconst 1, 1) := by decide +kernel
theorem si_199_111 : decode (sp_b 199) 111 = .ok (.iload 4, 2) := by decide +kernel
theorem si_199_113 : decode (sp_b 199) 113 = .ok (.iconst 2, 1) := by decide +kernel
theorem si_199_114 : decode (sp_b 199) 114 = .ok (.irem, 1) := by decide +kernel
theorem si_199_115 : decode (sp_b 199) 115 = .ok (.iadd, 1) := by decide +kernel
theorem si_199_116 : decode (sp_b 199) 116 = .ok (.aload_n 0, 1) := by decide +kernel
theorem si_199_117 : decode (sp_b 199) 117 = .ok (.iload_n 2, 1) := by decide +kernel
theorem si_199_118 : decode (sp_b 199) 118 = .ok (.iload 4, 2) := by decide +kernel
theorem si_199_120 : decode (sp_b 199) 120 = .ok (.invokevirtual 101, 3) := by decide +kernel
theorem sk_199_101 : sp_okL 199 101 143 985 = true := by decide +kernel
theorem si_199_123 : decode (sp_b 199) 123 = .ok (.invokevirtual 155, 3) := by decide +kernel
theorem sk_199_155 : sp_okL 199 155 165 1071 = true := by decide +kernel
theorem si_199_126 : decode (sp_b 199) 126 = .ok (.ifCond .eq 26, 3) := by decide +kernel
theorem si_199_129 : decode (sp_b 199) 129 = .ok (.aload_n 0, 1) := by decide +kernel
theorem si_199_130 : decode (sp_b 199) 130 = .ok (.iconst 1, 1) := by decide +kernel
theorem si_199_131 : decode (sp_b 199) 131 = .ok (.iload 4, 2) := by decide +kernel
theorem si_199_133 : decode (sp_b 199) 133 = .ok (.iconst 2, 1) := by decide +kernel
theorem si_199_134 : decode (sp_b 199) 134 = .ok (.irem, 1) := by decide +kernel
theorem si_199_135 : decode (sp_b 199) 135 = .ok (.iadd, 1) := by decide +kernel
theorem si_199_136 : decode (sp_b 199) 136 = .ok (.aload_n 0, 1) := by decide +kernel
theorem si_199_137 : decode (sp_b 199) 137 = .ok (.iload_n 2, 1) := by decide +kernel
theorem si_199_138 : decode (sp_b 199) 138 = .ok (.iload 4, 2) := by decide +kernel
theorem si_199_140 : decode (sp_b 199) 140 = .ok (.invokevirtual 101, 3) := by decide +kernel
theorem si_199_143 : decode (sp_b 199) 143 = .ok (.invokevirtual 192, 3) := by decide +kernel
theorem sk_199_192 : sp_okL 199 192 175 1108 = true := by decide +kernel
theorem si_199_146 : decode (sp_b 199) 146 = .ok (.iinc 4 1, 3) := by decide +kernel
theorem si_199_149 : decode (sp_b 199) 149 = .ok (.goto (-51), 3) := by decide +kernel
theorem si_199_152 : decode (sp_b 199) 152 = .ok (.iload 4, 2) := by decide +kernel
theorem si_199_154 : decode (sp_b 199) 154 = .ok (.ireturn, 1) := by decide +kernel
