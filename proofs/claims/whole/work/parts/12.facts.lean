theorem si_86_0 : decode (sp_b 86) 0 = .ok (.aload_n 0, 1) := by decide +kernel
theorem si_86_1 : decode (sp_b 86) 1 = .ok (.aload_n 1, 1) := by decide +kernel
theorem si_86_2 : decode (sp_b 86) 2 = .ok (.invokevirtual 77, 3) := by decide +kernel
theorem sk_86_77 : sp_okL 86 77 78 595 = true := by decide +kernel
theorem si_86_5 : decode (sp_b 86) 5 = .ok (.aload_n 0, 1) := by decide +kernel
theorem si_86_6 : decode (sp_b 86) 6 = .ok (.iconst 0, 1) := by decide +kernel
theorem si_86_7 : decode (sp_b 86) 7 = .ok (.iconst 0, 1) := by decide +kernel
theorem si_86_8 : decode (sp_b 86) 8 = .ok (.invokevirtual 103, 3) := by decide +kernel
theorem sk_86_103 : sp_okL 86 103 87 638 = true := by decide +kernel
theorem si_86_11 : decode (sp_b 86) 11 = .ok (.aload_n 0, 1) := by decide +kernel
theorem si_86_12 : decode (sp_b 86) 12 = .ok (.getfield 38, 3) := by decide +kernel
theorem sf_86_38 : sp_okF 86 38 4 5 194 = true := by decide +kernel
theorem si_86_15 : decode (sp_b 86) 15 = .ok (.ireturn, 1) := by decide +kernel
theorem si_87_0 : decode (sp_b 87) 0 = .ok (.iload_n 1, 1) := by decide +kernel
theorem si_87_1 : decode (sp_b 87) 1 = .ok (.aload_n 0, 1) := by decide +kernel
theorem si_87_2 : decode (sp_b 87) 2 = .ok (.getfield 38, 3) := by decide +kernel
theorem sf_87_38 : sp_okF 87 38 4 5 194 = true := by decide +kernel
theorem si_87_5 : decode (sp_b 87) 5 = .ok (.if_icmp .le 8, 3) := by decide +kernel
theorem si_87_8 : decode (sp_b 87) 8 = .ok (.aload_n 0, 1) := by decide +kernel
theorem si_87_9 : decode (sp_b 87) 9 = .ok (.iload_n 1, 1) := by decide +kernel
theorem si_87_10 : decode (sp_b 87) 10 = .ok (.invokevirtual 84, 3) := by decide +kernel
theorem sk_87_84 : sp_okL 87 84 80 607 = true := by decide +kernel
theorem si_87_13 : decode (sp_b 87) 13 = .ok (.iconst 0, 1) := by decide +kernel
theorem si_87_14 : decode (sp_b 87) 14 = .ok (.istore_n 3, 1) := by decide +kernel
theorem si_87_15 : decode (sp_b 87) 15 = .ok (.iload_n 3, 1) := by decide +kernel
theorem si_87_16 : decode (sp_b 87) 16 = .ok (.aload_n 0, 1) := by decide +kernel
theorem si_87_17 : decode (sp_b 87) 17 = .ok (.getfield 12, 3) := by decide +kernel
theorem sf_87_12 : sp_okF 87 12 4 0 188 = true := by decide +kernel
theorem si_87_20 : decode (sp_b 87) 20 = .ok (.getfield 96, 3) := by decide +kernel
theorem sf_87_96 : sp_okF 87 96 0 3 129 = true := by decide +kernel
theorem si_87_23 : decode (sp_b 87) 23 = .ok (.if_icmp .ge 52, 3) := by decide +kernel
theorem si_87_26 : decode (sp_b 87) 26 = .ok (.aload_n 0, 1) := by decide +kernel
theorem si_87_27 : decode (sp_b 87) 27 = .ok (.getfield 38, 3) := by decide +kernel
theorem si_87_30 : decode (sp_b 87) 30 = .ok (.aload_n 0, 1) := by decide +kernel
theorem si_87_31 : decode (sp_b 87) 31 = .ok (.getfield 12, 3) := by decide +kernel
theorem si_87_34 : decode (sp_b 87) 34 = .ok (.getfield 96, 3) := by decide +kernel
theorem si_87_37 : decode (sp_b 87) 37 = .ok (.if_icmp .ge 38, 3) := by decide +kernel
theorem si_87_40 : decode (sp_b 87) 40 = .ok (.iload_n 2, 1) := by decide +kernel
theorem si_87_41 : decode (sp_b 87) 41 = .ok (.iload_n 3, 1) := by decide +kernel
theorem si_87_42 : decode (sp_b 87) 42 = .ok (.ishr, 1) := by decide +kernel
theorem si_87_43 : decode (sp_b 87) 43 = .ok (.iconst 1, 1) := by decide +kernel
theorem si_87_44 : decode (sp_b 87) 44 = .ok (.iand, 1) := by decide +kernel
theorem si_87_45 : decode (sp_b 87) 45 = .ok (.ifCond .ne 24, 3) := by decide +kernel
theorem si_87_48 : decode (sp_b 87) 48 = .ok (.aload_n 0, 1) := by decide +kernel
theorem si_87_49 : decode (sp_b 87) 49 = .ok (.iload_n 1, 1) := by decide +kernel
theorem si_87_50 : decode (sp_b 87) 50 = .ok (.iload_n 3, 1) := by decide +kernel
theorem si_87_51 : decode (sp_b 87) 51 = .ok (.invokevirtual 107, 3) := by decide +kernel
theorem sk_87_107 : sp_okL 87 107 88 642 = true := by decide +kernel
theorem si_87_54 : decode (sp_b 87) 54 = .ok (.ifCond .eq 15, 3) := by decide +kernel
theorem si_87_57 : decode (sp_b 87) 57 = .ok (.aload_n 0, 1) := by decide +kernel
theorem si_87_58 : decode (sp_b 87) 58 = .ok (.iload_n 1, 1) := by decide +kernel
theorem si_87_59 : decode (sp_b 87) 59 = .ok (.iconst 1, 1) := by decide +kernel
theorem si_87_60 : decode (sp_b 87) 60 = .ok (.iadd, 1) := by decide +kernel
theorem si_87_61 : decode (sp_b 87) 61 = .ok (.iload_n 2, 1) := by decide +kernel
theorem si_87_62 : decode (sp_b 87) 62 = .ok (.iconst 1, 1) := by decide +kernel
theorem si_87_63 : decode (sp_b 87) 63 = .ok (.iload_n 3, 1) := by decide +kernel
theorem si_87_64 : decode (sp_b 87) 64 = .ok (.ishl, 1) := by decide +kernel
theorem si_87_65 : decode (sp_b 87) 65 = .ok (.ior, 1) := by decide +kernel
theorem si_87_66 : decode (sp_b 87) 66 = .ok (.invokevirtual 103, 3) := by decide +kernel
theorem sk_87_103 : sp_okL 87 103 87 638 = true := by decide +kernel
theorem si_87_69 : decode (sp_b 87) 69 = .ok (.iinc 3 1, 3) := by decide +kernel
theorem si_87_72 : decode (sp_b 87) 72 = .ok (.goto (-57), 3) := by decide +kernel
theorem si_87_75 : decode (sp_b 87) 75 = .ok (.return_, 1) := by decide +kernel
theorem si_88_0 : decode (sp_b 88) 0 = .ok (.iload_n 1, 1) := by decide +kernel
theorem si_88_1 : decode (sp_b 88) 1 = .ok (.bipush 6, 2) := by decide +kernel
theorem si_88_3 : decode (sp_b 88) 3 = .ok (.if_icmp .ge 20, 3) := by decide +kernel
theorem si_88_6 : decode (sp_b 88) 6 = .ok (.aload_n 0, 1) := by decide +kernel
theorem si_88_7 : decode (sp_b 88) 7 = .ok (.getfield 12, 3) := by decide +kernel
theorem sf_88_12 : sp_okF 88 12 4 0 188 = true := by decide +kernel
theorem si_88_10 : decode (sp_b 88) 10 = .ok (.iload_n 2, 1) := by decide +kernel
theorem si_88_11 : decode (sp_b 88) 11 = .ok (.aload_n 0, 1) := by decide +kernel
theorem si_88_12 : decode (sp_b 88) 12 = .ok (.getfield 20, 3) := by decide +kernel
theorem sf_88_20 : sp_okF 88 20 4 1 190 = true := by decide +kernel
theorem si_88_15 : decode (sp_b 88) 15 = .ok (.iload_n 1, 1) := by decide +kernel
theorem si_88_16 : decode (sp_b 88) 16 = .ok (.aaload, 1) := by decide +kernel
theorem si_88_17 : decode (sp_b 88) 17 = .ok (.invokevirtual 69, 3) := by decide +kernel
theorem sk_88_69 : sp_okL 88 69 45 646 = true := by decide +kernel
theorem si_88_20 : decode (sp_b 88) 20 = .ok (.ifCond .ne 5, 3) := by decide +kernel
theorem si_88_23 : decode (sp_b 88) 23 = .ok (.iconst 0, 1) := by decide +kernel
theorem si_88_24 : decode (sp_b 88) 24 = .ok (.ireturn, 1) := by decide +kernel
theorem si_88_25 : decode (sp_b 88) 25 = .ok (.aload_n 0, 1) := by decide +kernel
theorem si_88_26 : decode (sp_b 88) 26 = .ok (.getfield 24, 3) := by decide +kernel
theorem sf_88_24 : sp_okF 88 24 4 2 191 = true := by decide +kernel
theorem si_88_29 : decode (sp_b 88) 29 = .ok (.iload_n 1, 1) := by decide +kernel
theorem si_88_30 : decode (sp_b 88) 30 = .ok (.iload_n 2, 1) := by decide +kernel
theorem si_88_31 : decode (sp_b 88) 31 = .ok (.iastore, 1) := by decide +kernel
theorem si_88_32 : decode (sp_b 88) 32 = .ok (.aload_n 0, 1) := by decide +kernel
theorem si_88_33 : decode (sp_b 88) 33 = .ok (.getfield 20, 3) := by decide +kernel
theorem si_88_36 : decode (sp_b 88) 36 = .ok (.iload_n 1, 1) := by decide +kernel
theorem si_88_37 : decode (sp_b 88) 37 = .ok (.iconst 1, 1) := by decide +kernel
theorem si_88_38 : decode (sp_b 88) 38 = .ok (.iadd, 1) := by decide +kernel
theorem si_88_39 : decode (sp_b 88) 39 = .ok (.aaload, 1) := by decide +kernel
theorem si_88_40 : decode (sp_b 88) 40 = .ok (.aload_n 0, 1) := by decide +kernel
theorem si_88_41 : decode (sp_b 88) 41 = .ok (.getfield 20, 3) := by decide +kernel
theorem si_88_44 : decode (sp_b 88) 44 = .ok (.iload_n 1, 1) := by decide +kernel
theorem si_88_45 : decode (sp_b 88) 45 = .ok (.aaload, 1) := by decide +kernel
theorem si_88_46 : decode (sp_b 88) 46 = .ok (.invokevirtual 56, 3) := by decide +kernel
theorem sk_88_56 : sp_okL 88 56 39 599 = true := by decide +kernel
theorem si_88_49 : decode (sp_b 88) 49 = .ok (.aload_n 0, 1) := by decide +kernel
theorem si_88_50 : decode (sp_b 88) 50 = .ok (.getfield 12, 3) := by decide +kernel
theorem si_88_53 : decode (sp_b 88) 53 = .ok (.iload_n 2, 1) := by decide +kernel
theorem si_88_54 : decode (sp_b 88) 54 = .ok (.aload_n 0, 1) := by decide +kernel
theorem si_88_55 : decode (sp_b 88) 55 = .ok (.getfield 20, 3) := by decide +kernel
theorem si_88_58 : decode (sp_b 88) 58 = .ok (.iload_n 1, 1) := by decide +kernel
theorem si_88_59 : decode (sp_b 88) 59 = .ok (.iconst 1, 1) := by decide +kernel
theorem si_88_60 : decode (sp_b 88) 60 = .ok (.iadd, 1) := by decide +kernel
theorem si_88_61 : decode (sp_b 88) 61 = .ok (.aaload, 1) := by decide +kernel
theorem si_88_62 : decode (sp_b 88) 62 = .ok (.invokevirtual 73, 3) := by decide +kernel
theorem sk_88_73 : sp_okL 88 73 55 647 = true := by decide +kernel
theorem si_88_65 : decode (sp_b 88) 65 = .ok (.iconst 1, 1) := by decide +kernel
theorem si_88_66 : decode (sp_b 88) 66 = .ok (.ireturn, 1) := by decide +kernel
theorem si_89_0 : decode (sp_b 89) 0 = .ok (.iload_n 1, 1) := by decide +kernel
theorem si_89_1 : decode (sp_b 89) 1 = .ok (.ifCond .lt 19, 3) := by decide +kernel
theorem si_89_4 : decode (sp_b 89) 4 = .ok (.iload_n 1, 1) := by decide +kernel
theorem si_89_5 : decode (sp_b 89) 5 = .ok (.iconst 5, 1) := by decide +kernel
theorem si_89_6 : decode (sp_b 89) 6 = .ok (.if_icmp .gt 14, 3) := by decide +kernel
theorem si_89_9 : decode (sp_b 89) 9 = .ok (.aload_n 0, 1) := by decide +kernel
theorem si_89_10 : decode (sp_b 89) 10 = .ok (.getfield 14, 3) := by decide +kernel
theorem sf_89_14 : sp_okF 89 14 7 0 262 = true := by decide +kernel
theorem si_89_13 : decode (sp_b 89) 13 = .ok (.iload_n 2, 1) := by decide +kernel
theorem si_89_14 : decode (sp_b 89) 14 = .ok (.invokevirtual 72, 3) := by decide +kernel
theorem sk_89_72 : sp_okL 89 72 11 312 = true := by decide +kernel
theorem si_89_17 : decode (sp_b 89) 17 = .ok (.ifCond .ne 5, 3) := by decide +kernel
theorem si_89_20 : decode (sp_b 89) 20 = .ok (.iconst (-1), 1) := by decide +kernel
theorem si_89_21 : decode (sp_b 89) 21 = .ok (.ireturn, 1) := by decide +kernel
theorem si_89_22 : decode (sp_b 89) 22 = .ok (.aload_n 0, 1) := by decide +kernel
theorem si_89_23 : decode (sp_b 89) 23 = .ok (.getfield 32, 3) := by decide +kernel
theorem sf_89_32 : sp_okF 89 32 7 3 265 = true := by decide +kernel
theorem si_89_26 : decode (sp_b 89) 26 = .ok (.getfield 145, 3) := by decide +kernel
theorem sf_89_145 : sp_okF 89 145 0 3 130 = true := by decide +kernel
theorem si_89_29 : decode (sp_b 89) 29 = .ok (.ifCond .ne 6, 3) := by decide +kernel
theorem si_89_32 : decode (sp_b 89) 32 = .ok (.bipush (-4), 2) := by decide +kernel
theorem si_89_34 : decode (sp_b 89) 34 = .ok (.ireturn, 1) := by decide +kernel
theorem si_89_35 : decode (sp_b 89) 35 = .ok (.aload_n 0, 1) := by decide +kernel
theorem si_89_36 : decode (sp_b 89) 36 = .ok (.getfield 24, 3) := by decide +kernel
theorem sf_89_24 : sp_okF 89 24 7 2 264 = true := by decide +kernel
theorem si_89_39 : decode (sp_b 89) 39 = .ok (.aload_n 0, 1) := by decide +kernel
theorem si_89_40 : decode (sp_b 89) 40 = .ok (.getfield 36, 3) := by decide +kernel
theorem sf_89_36 : sp_okF 89 36 7 4 266 = true := by decide +kernel
theorem si_89_43 : decode (sp_b 89) 43 = .ok (.iload_n 1, 1) := by decide +kernel
theorem si_89_44 : decode (sp_b 89) 44 = .ok (.invokevirtual 244, 3) := by decide +kernel
theorem sk_89_244 : sp_okL 89 244 90 652 = true := by decide +kernel
theorem si_89_47 : decode (sp_b 89) 47 = .ok (.istore_n 3, 1) := by decide +kernel
theorem si_89_48 : decode (sp_b 89) 48 = .ok (.aload_n 0, 1) := by decide +kernel
theorem si_89_49 : decode (sp_b 89) 49 = .ok (.getfield 24, 3) := by decide +kernel
theorem si_89_52 : decode (sp_b 89) 52 = .ok (.aload_n 0, 1) := by decide +kernel
theorem si_89_53 : decode (sp_b 89) 53 = .ok (.getfield 14, 3) := by decide +kernel
theorem si_89_56 : decode (sp_b 89) 56 = .ok (.iload_n 2, 1) := by decide +kernel
theorem si_89_57 : decode (sp_b 89) 57 = .ok (.invokevirtual 237, 3) := by decide +kernel
theorem sk_89_237 : sp_okL 89 237 81 612 = true := by decide +kernel
theorem si_89_60 : decode (sp_b 89) 60 = .ok (.iload_n 3, 1) := by decide +kernel
theorem si_89_61 : decode (sp_b 89) 61 = .ok (.ireturn, 1) := by decide +kernel
theorem si_90_0 : decode (sp_b 90) 0 = .ok (.aload_n 0, 1) := by decide +kernel
theorem si_90_1 : decode (sp_b 90) 1 = .ok (.aload_n 1, 1) := by decide +kernel
theorem si_90_2 : decode (sp_b 90) 2 = .ok (.invokevirtual 77, 3) := by decide +kernel
theorem sk_90_77 : sp_okL 90 77 78 595 = true := by decide +kernel
theorem si_90_5 : decode (sp_b 90) 5 = .ok (.aload_n 0, 1) := by decide +kernel
theorem si_90_6 : decode (sp_b 90) 6 = .ok (.bipush (-9), 2) := by decide +kernel
theorem si_90_8 : decode (sp_b 90) 8 = .ok (.putfield 111, 3) := by decide +kernel
theorem sf_90_111 : sp_okF 90 111 4 6 195 = true := by decide +kernel
theorem si_90_11 : decode (sp_b 90) 11 = .ok (.aload_n 0, 1) := by decide +kernel
theorem si_90_12 : decode (sp_b 90) 12 = .ok (.aload_n 0, 1) := by decide +kernel
theorem si_90_13 : decode (sp_b 90) 13 = .ok (.getfield 12, 3) := by decide +kernel
theorem sf_90_12 : sp_okF 90 12 4 0 188 = true := by decide +kernel
theorem si_90_16 : decode (sp_b 90) 16 = .ok (.invokevirtual 114, 3) := by decide +kernel
theorem sk_90_114 : sp_okL 90 114 91 656 = true := by decide +kernel
theorem si_90_19 : decode (sp_b 90) 19 = .ok (.putfield 118, 3) := by decide +kernel
theorem sf_90_118 : sp_okF 90 118 4 7 196 = true := by decide +kernel
theorem si_90_22 : decode (sp_b 90) 22 = .ok (.aload_n 0, 1) := by decide +kernel
theorem si_90_23 : decode (sp_b 90) 23 = .ok (.iconst 0, 1) := by decide +kernel
theorem si_90_24 : decode (sp_b 90) 24 = .ok (.iload_n 2, 1) := by decide +kernel
theorem si_90_25 : decode (sp_b 90) 25 = .ok (.invokevirtual 120, 3) := by decide +kernel
theorem sk_90_120 : sp_okL 90 120 92 661 = true := by decide +kernel
theorem si_90_28 : decode (sp_b 90) 28 = .ok (.aload_n 0, 1) := by decide +kernel
theorem si_90_29 : decode (sp_b 90) 29 = .ok (.getfield 111, 3) := by decide +kernel
theorem si_90_32 : decode (sp_b 90) 32 = .ok (.ireturn, 1) := by decide +kernel
theorem si_91_0 : decode (sp_b 91) 0 = .ok (.iconst 0, 1) := by decide +kernel
theorem si_91_1 : decode (sp_b 91) 1 = .ok (.istore_n 1, 1) := by decide +kernel
theorem si_91_2 : decode (sp_b 91) 2 = .ok (.iconst 0, 1) := by decide +kernel
theorem si_91_3 : decode (sp_b 91) 3 = .ok (.istore_n 2, 1) := by decide +kernel
theorem si_91_4 : decode (sp_b 91) 4 = .ok (.iload_n 2, 1) := by decide +kernel
theorem si_91_5 : decode (sp_b 91) 5 = .ok (.aload_n 0, 1) := by decide +kernel
theorem si_91_6 : decode (sp_b 91) 6 = .ok (.getfield 21, 3) := by decide +kernel
theorem sf_91_21 : sp_okF 91 21 0 3 127 = true := by decide +kernel
theorem si_91_9 : decode (sp_b 91) 9 = .ok (.if_icmp .ge 20, 3) := by decide +kernel
theorem si_91_12 : decode (sp_b 91) 12 = .ok (.iload_n 1, 1) := by decide +kernel
theorem si_91_13 : decode (sp_b 91) 13 = .ok (.aload_n 0, 1) := by decide +kernel
theorem si_91_14 : decode (sp_b 91) 14 = .ok (.getfield 18, 3) := by decide +kernel
theorem sf_91_18 : sp_okF 91 18 0 2 124 = true := by decide +kernel
theorem si_91_17 : decode (sp_b 91) 17 = .ok (.iload_n 2, 1) := by decide +kernel
theorem si_91_18 : decode (sp_b 91) 18 = .ok (.iaload, 1) := by decide +kernel
theorem si_91_19 : decode (sp_b 91) 19 = .ok (.invokestatic 38, 3) := by decide +kernel
theorem sk_91_38 : sp_okL 91 38 49 660 = true := by decide +kernel
theorem si_91_22 : decode (sp_b 91) 22 = .ok (.istore_n 1, 1) := by decide +kernel
theorem si_91_23 : decode (sp_b 91) 23 = .ok (.iinc 2 1, 3) := by decide +kernel
theorem si_91_26 : decode (sp_b 91) 26 = .ok (.goto (-22), 3) := by decide +kernel
theorem si_91_29 : decode (sp_b 91) 29 = .ok (.iload_n 1, 1) := by decide +kernel
theorem si_91_30 : decode (sp_b 91) 30 = .ok (.ireturn, 1) := by decide +kernel
theorem si_92_0 : decode (sp_b 92) 0 = .ok (.aload_n 0, 1) := by decide +kernel
theorem si_92_1 : decode (sp_b 92) 1 = .ok (.getfield 20, 3) := by decide +kernel
theorem sf_92_20 : sp_okF 92 20 4 1 190 = true := by decide +kernel
theorem si_92_4 : decode (sp_b 92) 4 = .ok (.iload_n 1, 1) := by decide +kernel
theorem si_92_5 : decode (sp_b 92) 5 = .ok (.aaload, 1) := by decide +kernel
theorem si_92_6 : decode (sp_b 92) 6 = .ok (.getfield 60, 3) := by decide +kernel
theorem sf_92_60 : sp_okF 92 60 2 3 175 = true := by decide +kernel
theorem si_92_9 : decode (sp_b 92) 9 = .ok (.istore_n 3, 1) := by decide +kernel
theorem si_92_10 : decode (sp_b 92) 10 = .ok (.iload_n 3, 1) := by decide +kernel
theorem si_92_11 : decode (sp_b 92) 11 = .ok (.iload_n 2, 1) := by decide +kernel
theorem si_92_12 : decode (sp_b 92) 12 = .ok (.aload_n 0, 1) := by decide +kernel
theorem si_92_13 : decode (sp_b 92) 13 = .ok (.getfield 118, 3) := by decide +kernel
theorem sf_92_118 : sp_okF 92 118 4 7 196 = true := by decide +kernel
theorem si_92_16 : decode (sp_b 92) 16 = .ok (.imul, 1) := by decide +kernel
theorem si_92_17 : decode (sp_b 92) 17 = .ok (.iadd, 1) := by decide +kernel
theorem si_92_18 : decode (sp_b 92) 18 = .ok (.aload_n 0, 1) := by decide +kernel
theorem si_92_19 : decode (sp_b 92) 19 = .ok (.getfield 111, 3) := by decide +kernel
theorem sf_92_111 : sp_okF 92 111 4 6 195 = true := by decide +kernel
theorem si_92_22 : decode (sp_b 92) 22 = .ok (.if_icmp .gt 4, 3) := by decide +kernel
theorem si_92_25 : decode (sp_b 92) 25 = .ok (.return_, 1) := by decide +kernel
theorem si_92_26 : decode (sp_b 92) 26 = .ok (.iload_n 2, 1) := by decide +kernel
theorem si_92_27 : decode (sp_b 92) 27 = .ok (.ifCond .ne 14, 3) := by decide +kernel
theorem si_92_30 : decode (sp_b 92) 30 = .ok (.aload_n 0, 1) := by decide +kernel
theorem si_92_31 : decode (sp_b 92) 31 = .ok (.iload_n 3, 1) := by decide +kernel
theorem si_92_32 : decode (sp_b 92) 32 = .ok (.putfield 111, 3) := by decide +kernel
theorem si_92_35 : decode (sp_b 92) 35 = .ok (.aload_n 0, 1) := by decide +kernel
theorem si_92_36 : decode (sp_b 92) 36 = .ok (.iload_n 1, 1) := by decide +kernel
theorem si_92_37 : decode (sp_b 92) 37 = .ok (.invokevirtual 84, 3) := by decide +kernel
theorem sk_92_84 : sp_okL 92 84 80 607 = true := by decide +kernel
theorem si_92_40 : decode (sp_b 92) 40 = .ok (.return_, 1) := by decide +kernel
theorem si_92_41 : decode (sp_b 92) 41 = .ok (.iconst 0, 1) := by decide +kernel
theorem si_92_42 : decode (sp_b 92) 42 = .ok (.istore 4, 2) := by decide +kernel
theorem si_92_44 : decode (sp_b 92) 44 = .ok (.iload 4, 2) := by decide +kernel
theorem si_92_46 : decode (sp_b 92) 46 = .ok (.aload_n 0, 1) := by decide +kernel
theorem si_92_47 : decode (sp_b 92) 47 = .ok (.getfield 12, 3) := by decide +kernel
theorem sf_92_12 : sp_okF 92 12 4 0 188 = true := by decide +kernel
theorem si_92_50 : decode (sp_b 92) 50 = .ok (.getfield 96, 3) := by decide +kernel
theorem sf_92_96 : sp_okF 92 96 0 3 129 = true := by decide +kernel
theorem si_92_53 : decode (sp_b 92) 53 = .ok (.if_icmp .ge 29, 3) := by decide +kernel
theorem si_92_56 : decode (sp_b 92) 56 = .ok (.aload_n 0, 1) := by decide +kernel
theorem si_92_57 : decode (sp_b 92) 57 = .ok (.iload_n 1, 1) := by decide +kernel
theorem si_92_58 : decode (sp_b 92) 58 = .ok (.iload 4, 2) := by decide +kernel
theorem si_92_60 : decode (sp_b 92) 60 = .ok (.invokevirtual 107, 3) := by decide +kernel
theorem sk_92_107 : sp_okL 92 107 88 642 = true := by decide +kernel
theorem si_92_63 : decode (sp_b 92) 63 = .ok (.ifCond .eq 13, 3) := by decide +kernel
theorem si_92_66 : decode (sp_b 92) 66 = .ok (.aload_n 0, 1) := by decide +kernel
theorem si_92_67 : decode (sp_b 92) 67 = .ok (.iload_n 1, 1) := by decide +kernel
theorem si_92_68 : decode (sp_b 92) 68 = .ok (.iconst 1, 1) := by decide +kernel
theorem si_92_69 : decode (sp_b 92) 69 = .ok (.iadd, 1) := by decide +kernel
theorem si_92_70 : decode (sp_b 92) 70 = .ok (.iload_n 2, 1) := by decide +kernel
theorem si_92_71 : decode (sp_b 92) 71 = .ok (.iconst 1, 1) := by decide +kernel
theorem si_92_72 : decode (sp_b 92) 72 = .ok (.isub, 1) := by decide +kernel
theorem si_92_73 : decode (sp_b 92) 73 = .ok (.invokevirtual 120, 3) := by decide +kernel
theorem sk_92_120 : sp_okL 92 120 92 661 = true := by decide +kernel
theorem si_92_76 : decode (sp_b 92) 76 = .ok (.iinc 4 1, 3) := by decide +kernel
theorem si_92_79 : decode (sp_b 92) 79 = .ok (.goto (-35), 3) := by decide +kernel
theorem si_92_82 : decode (sp_b 92) 82 = .ok (.return_, 1) := by decide +kernel
theorem si_93_0 : decode (sp_b 93) 0 = .ok (.iload_n 1, 1) := by decide +kernel
theorem si_93_1 : decode (sp_b 93) 1 = .ok (.ifCond .lt 8, 3) := by decide +kernel
theorem si_93_4 : decode (sp_b 93) 4 = .ok (.iload_n 1, 1) := by decide +kernel
theorem si_93_5 : decode (sp_b 93) 5 = .ok (.iconst 4, 1) := by decide +kernel
theorem si_93_6 : decode (sp_b 93) 6 = .ok (.if_icmp .le 5, 3) := by decide +kernel
theorem si_93_9 : decode (sp_b 93) 9 = .ok (.iconst (-1), 1) := by decide +kernel
theorem si_93_10 : decode (sp_b 93) 10 = .ok (.ireturn, 1) := by decide +kernel
theorem si_93_11 : decode (sp_b 93) 11 = .ok (.aload_n 0, 1) := by decide +kernel
theorem si_93_12 : decode (sp_b 93) 12 = .ok (.getfield 32, 3) := by decide +kernel
theorem sf_93_32 : sp_okF 93 32 7 3 265 = true := by decide +kernel
theorem si_93_15 : decode (sp_b 93) 15 = .ok (.getfield 145, 3) := by decide +kernel
theorem sf_93_145 : sp_okF 93 145 0 3 130 = true := by decide +kernel
theorem si_93_18 : decode (sp_b 93) 18 = .ok (.ifCond .ne 6, 3) := by decide +kernel
theorem si_93_21 : decode (sp_b 93) 21 = .ok (.bipush (-4), 2) := by decide +kernel
theorem si_93_23 : decode (sp_b 93) 23 = .ok (.ireturn, 1) := by decide +kernel
theorem si_93_24 : decode (sp_b 93) 24 = .ok (.aload_n 0, 1) := by decide +kernel
theorem si_93_25 : decode (sp_b 93) 25 = .ok (.getfield 24, 3) := by decide +kernel
theorem sf_93_24 : sp_okF 93 24 7 2 264 = true := by decide +kernel
theorem si_93_28 : decode (sp_b 93) 28 = .ok (.aload_n 0, 1) := by decide +kernel
theorem si_93_29 : decode (sp_b 93) 29 = .ok (.getfield 36, 3) := by decide +kernel
theorem sf_93_36 : sp_okF 93 36 7 4 266 = true := by decide +kernel
theorem si_93_32 : decode (sp_b 93) 32 = .ok (.iload_n 1, 1) := by decide +kernel
theorem si_93_33 : decode (sp_b 93) 33 = .ok (.invokevirtual 248, 3) := by decide +kernel
theorem sk_93_248 : sp_okL 93 248 94 669 = true := by decide +kernel
theorem si_93_36 : decode (sp_b 93) 36 = .ok (.istore_n 2, 1) := by decide +kernel
theorem si_93_37 : decode (sp_b 93) 37 = .ok (.aload_n 0, 1) := by decide +kernel
theorem si_93_38 : decode (sp_b 93) 38 = .ok (.aload_n 0, 1) := by decide +kernel
theorem si_93_39 : decode (sp_b 93) 39 = .ok (.getfield 24, 3) := by decide +kernel
theorem si_93_42 : decode (sp_b 93) 42 = .ok (.invokevirtual 251, 3) := by decide +kernel
theorem sk_93_251 : sp_okL 93 251 99 690 = true := by decide +kernel
theorem si_93_45 : decode (sp_b 93) 45 = .ok (.putfield 92, 3) := by decide +kernel
theorem sf_93_92 : sp_okF 93 92 7 12 274 = true := by decide +kernel
theorem si_93_48 : decode (sp_b 93) 48 = .ok (.iload_n 2, 1) := by decide +kernel
theorem si_93_49 : decode (sp_b 93) 49 = .ok (.ireturn, 1) := by decide +kernel
theorem si_94_0 : decode (sp_b 94) 0 = .ok (.aload_n 0, 1) := by decide +kernel
theorem si_94_1 : decode (sp_b 94) 1 = .ok (.aload_n 1, 1) := by decide +kernel
theorem si_94_2 : decode (sp_b 94) 2 = .ok (.invokevirtual 77, 3) := by decide +kernel
theorem sk_94_77 : sp_okL 94 77 78 595 = true := by decide +kernel
theorem si_94_5 : decode (sp_b 94) 5 = .ok (.aload_n 0, 1) := by decide +kernel
theorem si_94_6 : decode (sp_b 94) 6 = .ok (.getfield 34, 3) := by decide +kernel
theorem sf_94_34 : sp_okF 94 34 4 4 193 = true := by decide +kernel
theorem si_94_9 : decode (sp_b 94) 9 = .ok (.invokevirtual 123, 3) := by decide +kernel
theorem sk_94_123 : sp_okL 94 123 95 673 = true := by decide +kernel
theorem si_94_12 : decode (sp_b 94) 12 = .ok (.aload_n 0, 1) := by decide +kernel
theorem si_94_13 : decode (sp_b 94) 13 = .ok (.iconst 0, 1) := by decide +kernel
theorem si_94_14 : decode (sp_b 94) 14 = .ok (.iload_n 2, 1) := by decide +kernel
theorem si_94_15 : decode (sp_b 94) 15 = .ok (.invokevirtual 126, 3) := by decide +kernel
theorem sk_94_126 : sp_okL 94 126 97 681 = true := by decide +kernel
theorem si_94_18 : decode (sp_b 94) 18 = .ok (.ireturn, 1) := by decide +kernel
theorem si_95_0 : decode (sp_b 95) 0 = .ok (.aload_n 0, 1) := by decide +kernel
theorem si_95_1 : decode (sp_b 95) 1 = .ok (.getfield 11, 3) := by decide +kernel
theorem sf_95_11 : sp_okF 95 11 3 0 148 = true := by decide +kernel
theorem si_95_4 : decode (sp_b 95) 4 = .ok (.ldc2_w 15, 3) := by decide +kernel
theorem sc_95_15 : sp_okCL 95 15 677 (-1) = true := by decide +kernel
theorem si_95_7 : decode (sp_b 95) 7 = .ok (.invokestatic 17, 3) := by decide +kernel
theorem sk_95_17 : sp_okL 95 17 96 678 = true := by decide +kernel
theorem si_95_10 : decode (sp_b 95) 10 = .ok (.aload_n 0, 1) := by decide +kernel
theorem si_95_11 : decode (sp_b 95) 11 = .ok (.iconst 0, 1) := by decide +kernel
theorem si_95_12 : decode (sp_b 95) 12 = .ok (.putfield 23, 3) := by decide +kernel
theorem sf_95_23 : sp_okF 95 23 3 1 149 = true := by decide +kernel
theorem si_95_15 : decode (sp_b 95) 15 = .ok (.return_, 1) := by decide +kernel
theorem si_96_0 : decode (sp_b 96) 0 = .ok (.iconst 0, 1) := by decide +kernel
theorem si_96_1 : decode (sp_b 96) 1 = .ok (.istore_n 3, 1) := by decide +kernel
theorem si_96_2 : decode (sp_b 96) 2 = .ok (.aload_n 0, 1) := by decide +kernel
theorem si_96_3 : decode (sp_b 96) 3 = .ok (.arraylength, 1) := by decide +kernel
theorem si_96_4 : decode (sp_b 96) 4 = .ok (.istore 4, 2) := by decide +kernel
theorem si_96_6 : decode (sp_b 96) 6 = .ok (.iload_n 3, 1) := by decide +kernel
theorem si_96_7 : decode (sp_b 96) 7 = .ok (.iload 4, 2) := by decide +kernel
theorem si_96_9 : decode (sp_b 96) 9 = .ok (.if_icmp .ge 13, 3) := by decide +kernel
theorem si_96_12 : decode (sp_b 96) 12 = .ok (.aload_n 0, 1) := by decide +kernel
theorem si_96_13 : decode (sp_b 96) 13 = .ok (.iload_n 3, 1) := by decide +kernel
theorem si_96_14 : decode (sp_b 96) 14 = .ok (.lload_n 1, 1) := by decide +kernel
theorem si_96_15 : decode (sp_b 96) 15 = .ok (.lastore, 1) := by decide +kernel
theorem si_96_16 : decode (sp_b 96) 16 = .ok (.iinc 3 1, 3) := by decide +kernel
theorem si_96_19 : decode (sp_b 96) 19 = .ok (.goto (-13), 3) := by decide +kernel
theorem si_96_22 : decode (sp_b 96) 22 = .ok (.return_, 1) := by decide +kernel
theorem si_97_0 : decode (sp_b 97) 0 = .ok (.iload_n 2, 1) := by decide +kernel
theorem si_97_1 : decode (sp_b 97) 1 = .ok (.ifCond .ne 18, 3) := by decide +kernel
theorem si_97_4 : decode (sp_b 97) 4 = .ok (.aload_n 0, 1) := by decide +kernel
theorem si_97_5 : decode (sp_b 97) 5 = .ok (.getfield 34, 3) := by decide +kernel
theorem sf_97_34 : sp_okF 97 34 4 4 193 = true := by decide +kernel
theorem si_97_8 : decode (sp_b 97) 8 = .ok (.aload_n 0, 1) := by decide +kernel
theorem si_97_9 : decode (sp_b 97) 9 = .ok (.getfield 20, 3) := by decide +kernel
theorem sf_97_20 : sp_okF 97 20 4 1 190 = true := by decide +kernel
theorem si_97_12 : decode (sp_b 97) 12 = .ok (.iload_n 1, 1) := by decide +kernel
theorem si_97_13 : decode (sp_b 97) 13 = .ok (.aaload, 1) := by decide +kernel
theorem si_97_14 : decode (sp_b 97) 14 = .ok (.invokevirtual 130, 3) := by decide +kernel
theorem sk_97_130 : sp_okL 97 130 98 685 = true := by decide +kernel
theorem si_97_17 : decode (sp_b 97) 17 = .ok (.iconst 1, 1) := by decide +kernel
theorem si_97_18 : decode (sp_b 97) 18 = .ok (.ireturn, 1) := by decide +kernel
theorem si_97_19 : decode (sp_b 97) 19 = .ok (.iconst 0, 1) := by decide +kernel
theorem si_97_20 : decode (sp_b 97) 20 = .ok (.istore_n 3, 1) := by decide +kernel
theorem si_97_21 : decode (sp_b 97) 21 = .ok (.iconst 0, 1) := by decide +kernel
theorem si_97_22 : decode (sp_b 97) 22 = .ok (.istore 4, 2) := by decide +kernel
theorem si_97_24 : decode (sp_b 97) 24 = .ok (.iload 4, 2) := by decide +kernel
theorem si_97_26 : decode (sp_b 97) 26 = .ok (.aload_n 0, 1) := by decide +kernel
theorem si_97_27 : decode (sp_b 97) 27 = .ok (.getfield 12, 3) := by decide +kernel
theorem sf_97_12 : sp_okF 97 12 4 0 188 = true := by decide +kernel
theorem si_97_30 : decode (sp_b 97) 30 = .ok (.getfield 96, 3) := by decide +kernel
theorem sf_97_96 : sp_okF 97 96 0 3 129 = true := by decide +kernel
theorem si_97_33 : decode (sp_b 97) 33 = .ok (.if_icmp .ge 32, 3) := by decide +kernel
theorem si_97_36 : decode (sp_b 97) 36 = .ok (.aload_n 0, 1) := by decide +kernel
theorem si_97_37 : decode (sp_b 97) 37 = .ok (.iload_n 1, 1) := by decide +kernel
theorem si_97_38 : decode (sp_b 97) 38 = .ok (.iload 4, 2) := by decide +kernel
theorem si_97_40 : decode (sp_b 97) 40 = .ok (.invokevirtual 107, 3) := by decide +kernel
theorem sk_97_107 : sp_okL 97 107 88 642 = true := by decide +kernel
theorem si_97_43 : decode (sp_b 97) 43 = .ok (.ifCond .eq 16, 3) := by decide +kernel
theorem si_97_46 : decode (sp_b 97) 46 = .ok (.iload_n 3, 1) := by decide +kernel
theorem si_97_47 : decode (sp_b 97) 47 = .ok (.aload_n 0, 1) := by decide +kernel
theorem si_97_48 : decode (sp_b 97) 48 = .ok (.iload_n 1, 1) := by decide +kernel
theorem si_97_49 : decode (sp_b 97) 49 = .ok (.iconst 1, 1) := by decide +kernel
theorem si_97_50 : decode (sp_b 97) 50 = .ok (.iadd, 1) := by decide +kernel
theorem si_97_51 : decode (sp_b 97) 51 = .ok (.iload_n 2, 1) := by decide +kernel
theorem si_97_52 : decode (sp_b 97) 52 = .ok (.iconst 1, 1) := by decide +kernel
theorem si_97_53 : decode (sp_b 97) 53 = .ok (.isub, 1) := by decide +kernel
theorem si_97_54 : decode (sp_b 97) 54 = .ok (.invokevirtual 126, 3) := by decide +kernel
theorem sk_97_126 : sp_okL 97 126 97 681 = true := by decide +kernel
theorem si_97_57 : decode (sp_b 97) 57 = .ok (.iadd, 1) := by decide +kernel
theorem si_97_58 : decode (sp_b 97) 58 = .ok (.istore_n 3, 1) := by decide +kernel
theorem si_97_59 : decode (sp_b 97) 59 = .ok (.iinc 4 1, 3) := by decide +kernel
theorem si_97_62 : decode (sp_b 97) 62 = .ok (.goto (-38), 3) := by decide +kernel
theorem si_97_65 : decode (sp_b 97) 65 = .ok (.iload_n 3, 1) := by decide +kernel
theorem si_97_66 : decode (sp_b 97) 66 = .ok (.ireturn, 1) := by decide +kernel
theorem si_98_0 : decode (sp_b 98) 0 = .ok (.lconst 0, 1) := by decide +kernel
theorem si_98_1 : decode (sp_b 98) 1 = .ok (.lstore_n 2, 1) := by decide +kernel
theorem si_98_2 : decode (sp_b 98) 2 = .ok (.iconst 0, 1) := by decide +kernel
theorem si_98_3 : decode (sp_b 98) 3 = .ok (.istore 4, 2) := by decide +kernel
theorem si_98_5 : decode (sp_b 98) 5 = .ok (.iload 4, 2) := by decide +kernel
theorem si_98_7 : decode (sp_b 98) 7 = .ok (.bipush 6, 2) := by decide +kernel
theorem si_98_9 : decode (sp_b 98) 9 = .ok (.if_icmp .ge 23, 3) := by decide +kernel
theorem si_98_12 : decode (sp_b 98) 12 = .ok (.lload_n 2, 1) := by decide +kernel
theorem si_98_13 : decode (sp_b 98) 13 = .ok (.bipush 10, 2) := by decide +kernel
theorem si_98_15 : decode (sp_b 98) 15 = .ok (.lshl, 1) := by decide +kernel
theorem si_98_16 : decode (sp_b 98) 16 = .ok (.aload_n 1, 1) := by decide +kernel
theorem si_98_17 : decode (sp_b 98) 17 = .ok (.getfield 27, 3) := by decide +kernel
theorem sf_98_27 : sp_okF 98 27 2 0 163 = true := by decide +kernel
theorem si_98_20 : decode (sp_b 98) 20 = .ok (.iload 4, 2) := by decide +kernel
theorem si_98_22 : decode (sp_b 98) 22 = .ok (.iaload, 1) := by decide +kernel
theorem si_98_23 : decode (sp_b 98) 23 = .ok (.i2l, 1) := by decide +kernel
theorem si_98_24 : decode (sp_b 98) 24 = .ok (.lor, 1) := by decide +kernel
theorem si_98_25 : decode (sp_b 98) 25 = .ok (.lstore_n 2, 1) := by decide +kernel
theorem si_98_26 : decode (sp_b 98) 26 = .ok (.iinc 4 1, 3) := by decide +kernel
theorem si_98_29 : decode (sp_b 98) 29 = .ok (.goto (-24), 3) := by decide +kernel
theorem si_98_32 : decode (sp_b 98) 32 = .ok (.lload_n 2, 1) := by decide +kernel
theorem si_98_33 : decode (sp_b 98) 33 = .ok (.ldc2_w 33, 3) := by decide +kernel
theorem sc_98_33 : sp_okCL 98 33 689 (-7046029254386353131) = true := by decide +kernel
theorem si_98_36 : decode (sp_b 98) 36 = .ok (.lmul, 1) := by decide +kernel
theorem si_98_37 : decode (sp_b 98) 37 = .ok (.bipush 40, 2) := by decide +kernel
theorem si_98_39 : decode (sp_b 98) 39 = .ok (.lushr, 1) := by decide +kernel
theorem si_98_40 : decode (sp_b 98) 40 = .ok (.l2i, 1) := by decide +kernel
theorem si_98_41 : decode (sp_b 98) 41 = .ok (.sipush 2047, 3) := by decide +kernel
theorem si_98_44 : decode (sp_b 98) 44 = .ok (.iand, 1) := by decide +kernel
theorem si_98_45 : decode (sp_b 98) 45 = .ok (.istore 4, 2) := by decide +kernel
theorem si_98_47 : decode (sp_b 98) 47 = .ok (.iconst 0, 1) := by decide +kernel
theorem si_98_48 : decode (sp_b 98) 48 = .ok (.istore 5, 2) := by decide +kernel
theorem si_98_50 : decode (sp_b 98) 50 = .ok (.iload 5, 2) := by decide +kernel
theorem si_98_52 : decode (sp_b 98) 52 = .ok (.sipush 2048, 3) := by decide +kernel
theorem si_98_55 : decode (sp_b 98) 55 = .ok (.if_icmp .ge 65, 3) := by decide +kernel
theorem si_98_58 : decode (sp_b 98) 58 = .ok (.aload_n 0, 1) := by decide +kernel
theorem si_98_59 : decode (sp_b 98) 59 = .ok (.getfield 11, 3) := by decide +kernel
theorem sf_98_11 : sp_okF 98 11 3 0 148 = true := by decide +kernel
theorem si_98_62 : decode (sp_b 98) 62 = .ok (.iload 4, 2) := by decide +kernel
theorem si_98_64 : decode (sp_b 98) 64 = .ok (.laload, 1) := by decide +kernel
theorem si_98_65 : decode (sp_b 98) 65 = .ok (.lload_n 2, 1) := by decide +kernel
theorem si_98_66 : decode (sp_b 98) 66 = .ok (.lcmp, 1) := by decide +kernel
theorem si_98_67 : decode (sp_b 98) 67 = .ok (.ifCond .ne 4, 3) := by decide +kernel
theorem si_98_70 : decode (sp_b 98) 70 = .ok (.return_, 1) := by decide +kernel
theorem si_98_71 : decode (sp_b 98) 71 = .ok (.aload_n 0, 1) := by decide +kernel
theorem si_98_72 : decode (sp_b 98) 72 = .ok (.getfield 11, 3) := by decide +kernel
theorem si_98_75 : decode (sp_b 98) 75 = .ok (.iload 4, 2) := by decide +kernel
theorem si_98_77 : decode (sp_b 98) 77 = .ok (.laload, 1) := by decide +kernel
theorem si_98_78 : decode (sp_b 98) 78 = .ok (.ldc2_w 15, 3) := by decide +kernel
theorem sc_98_15 : sp_okCL 98 15 677 (-1) = true := by decide +kernel
theorem si_98_81 : decode (sp_b 98) 81 = .ok (.lcmp, 1) := by decide +kernel
theorem si_98_82 : decode (sp_b 98) 82 = .ok (.ifCond .ne 22, 3) := by decide +kernel
theorem si_98_85 : decode (sp_b 98) 85 = .ok (.aload_n 0, 1) := by decide +kernel
theorem si_98_86 : decode (sp_b 98) 86 = .ok (.getfield 11, 3) := by decide +kernel
theorem si_98_89 : decode (sp_b 98) 89 = .ok (.iload 4, 2) := by decide +kernel
theorem si_98_91 : decode (sp_b 98) 91 = .ok (.lload_n 2, 1) := by decide +kernel
theorem si_98_92 : decode (sp_b 98) 92 = .ok (.lastore, 1) := by decide +kernel
theorem si_98_93 : decode (sp_b 98) 93 = .ok (.aload_n 0, 1) := by decide +kernel
theorem si_98_94 : decode (sp_b 98) 94 = .ok (.dup, 1) := by decide +kernel
theorem si_98_95 : decode (sp_b 98) 95 = .ok (.getfield 23, 3) := by decide +kernel
theorem sf_98_23 : sp_okF 98 23 3 1 149 = true := by decide +kernel
theorem si_98_98 : decode (sp_b 98) 98 = .ok (.iconst 1, 1) := by decide +kernel
theorem si_98_99 : decode (sp_b 98) 99 = .ok (.iadd, 1) := by decide +kernel
theorem si_98_100 : decode (sp_b 98) 100 = .ok (.putfield 23, 3) := by decide +kernel
theorem si_98_103 : decode (sp_b 98) 103 = .ok (.return_, 1) := by decide +kernel
theorem si_98_104 : decode (sp_b 98) 104 = .ok (.iload 4, 2) := by decide +kernel
theorem si_98_106 : decode (sp_b 98) 106 = .ok (.iconst 1, 1) := by decide +kernel
theorem si_98_107 : decode (sp_b 98) 107 = .ok (.iadd, 1) := by decide +kernel
theorem si_98_108 : decode (sp_b 98) 108 = .ok (.sipush 2047, 3) := by decide +kernel
theorem si_98_111 : decode (sp_b 98) 111 = .ok (.iand, 1) := by decide +kernel
theorem si_98_112 : decode (sp_b 98) 112 = .ok (.istore 4, 2) := by decide +kernel
theorem si_98_114 : decode (sp_b 98) 114 = .ok (.iinc 5 1, 3) := by decide +kernel
theorem si_98_117 : decode (sp_b 98) 117 = .ok (.goto (-67), 3) := by decide +kernel
theorem si_98_120 : decode (sp_b 98) 120 = .ok (.return_, 1) := by decide +kernel
theorem si_99_0 : decode (sp_b 99) 0 = .ok (.aload_n 0, 1) := by decide +kernel
theorem si_99_1 : decode (sp_b 99) 1 = .ok (.getfield 34, 3) := by decide +kernel
theorem sf_99_34 : sp_okF 99 34 4 4 193 = true := by decide +kernel
theorem si_99_4 : decode (sp_b 99) 4 = .ok (.getfield 129, 3) := by decide +kernel
theorem sf_99_129 : sp_okF 99 129 3 1 150 = true := by decide +kernel
theorem si_99_7 : decode (sp_b 99) 7 = .ok (.ireturn, 1) := by decide +kernel
theorem si_100_0 : decode (sp_b 100) 0 = .ok (.aload_n 0, 1) := by decide +kernel
theorem si_100_1 : decode (sp_b 100) 1 = .ok (.getfield 14, 3) := by decide +kernel
theorem sf_100_14 : sp_okF 100 14 7 0 262 = true := by decide +kernel
theorem si_100_4 : decode (sp_b 100) 4 = .ok (.iload_n 1, 1) := by decide +kernel
theorem si_100_5 : decode (sp_b 100) 5 = .ok (.invokevirtual 72, 3) := by decide +kernel
theorem sk_100_72 : sp_okL 100 72 11 312 = true := by decide +kernel
theorem si_100_8 : decode (sp_b 100) 8 = .ok (.ifCond .eq 23, 3) := by decide +kernel
theorem si_100_11 : decode (sp_b 100) 11 = .ok (.aload_n 0, 1) := by decide +kernel
theorem si_100_12 : decode (sp_b 100) 12 = .ok (.getfield 14, 3) := by decide +kernel
theorem si_100_15 : decode (sp_b 100) 15 = .ok (.iload_n 3, 1) := by decide +kernel
theorem si_100_16 : decode (sp_b 100) 16 = .ok (.invokevirtual 72, 3) := by decide +kernel
theorem si_100_19 : decode (sp_b 100) 19 = .ok (.ifCond .eq 12, 3) := by decide +kernel
theorem si_100_22 : decode (sp_b 100) 22 = .ok (.iload_n 2, 1) := by decide +kernel
theorem si_100_23 : decode (sp_b 100) 23 = .ok (.ifCond .lt 8, 3) := by decide +kernel
theorem si_100_26 : decode (sp_b 100) 26 = .ok (.iload_n 2, 1) := by decide +kernel
theorem si_100_27 : decode (sp_b 100) 27 = .ok (.iconst 4, 1) := by decide +kernel
theorem si_100_28 : decode (sp_b 100) 28 = .ok (.if_icmp .le 5, 3) := by decide +kernel
theorem si_100_31 : decode (sp_b 100) 31 = .ok (.iconst (-1), 1) := by decide +kernel
theorem si_100_32 : decode (sp_b 100) 32 = .ok (.ireturn, 1) := by decide +kernel
theorem si_100_33 : decode (sp_b 100) 33 = .ok (.aload_n 0, 1) := by decide +kernel
theorem si_100_34 : decode (sp_b 100) 34 = .ok (.getfield 32, 3) := by decide +kernel
theorem sf_100_32 : sp_okF 100 32 7 3 265 = true := by decide +kernel
theorem si_100_37 : decode (sp_b 100) 37 = .ok (.getfield 145, 3) := by decide +kernel
theorem sf_100_145 : sp_okF 100 145 0 3 130 = true := by decide +kernel
theorem si_100_40 : decode (sp_b 100) 40 = .ok (.ifCond .ne 6, 3) := by decide +kernel
theorem si_100_43 : decode (sp_b 100) 43 = .ok (.bipush (-4), 2) := by decide +kernel
theorem si_100_45 : decode (sp_b 100) 45 = .ok (.ireturn, 1) := by decide +kernel
theorem si_100_46 : decode (sp_b 100) 46 = .ok (.aload_n 0, 1) := by decide +kernel
theorem si_100_47 : decode (sp_b 100) 47 = .ok (.iload_n 1, 1) := by decide +kernel
theorem si_100_48 : decode (sp_b 100) 48 = .ok (.invokevirtual 255, 3) := by decide +kernel
theorem sk_100_255 : sp_okL 100 255 101 698 = true := by decide +kernel
theorem si_100_51 : decode (sp_b 100) 51 = .ok (.istore 4, 2) := by decide +kernel
theorem si_100_53 : decode (sp_b 100) 53 = .ok (.iload 4, 2) := by decide +kernel
theorem si_100_55 : decode (sp_b 100) 55 = .ok (.ifCond .eq 10, 3) := by decide +kernel
theorem si_100_58 : decode (sp_b 100) 58 = .ok (.aload_n 0, 1) := by decide +kernel
theorem si_100_59 : decode (sp_b 100) 59 = .ok (.iload 4, 2) := by decide +kernel
theorem si_100_61 : decode (sp_b 100) 61 = .ok (.invokevirtual 76, 3) := by decide +kernel
theorem sk_100_76 : sp_okL 100 76 12 316 = true := by decide +kernel
theorem si_100_64 : decode (sp_b 100) 64 = .ok (.ireturn, 1) := by decide +kernel
theorem si_100_65 : decode (sp_b 100) 65 = .ok (.aload_n 0, 1) := by decide +kernel
theorem si_100_66 : decode (sp_b 100) 66 = .ok (.getfield 40, 3) := by decide +kernel
theorem sf_100_40 : sp_okF 100 40 7 5 267 = true := by decide +kernel
theorem si_100_69 : decode (sp_b 100) 69 = .ok (.invokevirtual 258, 3) := by decide +kernel
theorem sk_100_258 : sp_okL 100 258 31 702 = true := by decide +kernel
theorem si_100_72 : decode (sp_b 100) 72 = .ok (.iconst 0, 1) := by decide +kernel
theorem si_100_73 : decode (sp_b 100) 73 = .ok (.istore 5, 2) := by decide +kernel
theorem si_100_75 : decode (sp_b 100) 75 = .ok (.iload 5, 2) := by decide +kernel
theorem si_100_77 : decode (sp_b 100) 77 = .ok (.aload_n 0, 1) := by decide +kernel
theorem si_100_78 : decode (sp_b 100) 78 = .ok (.getfield 32, 3) := by decide +kernel
theorem si_100_81 : decode (sp_b 100) 81 = .ok (.getfield 145, 3) := by decide +kernel
theorem si_100_84 : decode (sp_b 100) 84 = .ok (.if_icmp .ge 29, 3) := by decide +kernel
theorem si_100_87 : decode (sp_b 100) 87 = .ok (.aload_n 0, 1) := by decide +kernel
theorem si_100_88 : decode (sp_b 100) 88 = .ok (.getfield 40, 3) := by decide +kernel
theorem si_100_91 : decode (sp_b 100) 91 = .ok (.getfield 158, 3) := by decide +kernel
theorem sf_100_158 : sp_okF 100 158 2 0 167 = true := by decide +kernel
theorem si_100_94 : decode (sp_b 100) 94 = .ok (.iload 5, 2) := by decide +kernel
theorem si_100_96 : decode (sp_b 100) 96 = .ok (.aload_n 0, 1) := by decide +kernel
theorem si_100_97 : decode (sp_b 100) 97 = .ok (.getfield 14, 3) := by decide +kernel
theorem si_100_100 : decode (sp_b 100) 100 = .ok (.iload_n 1, 1) := by decide +kernel
theorem si_100_101 : decode (sp_b 100) 101 = .ok (.iload 5, 2) := by decide +kernel
theorem si_100_103 : decode (sp_b 100) 103 = .ok (.invokevirtual 88, 3) := by decide +kernel
theorem sk_100_88 : sp_okL 100 88 18 339 = true := by decide +kernel
theorem si_100_106 : decode (sp_b 100) 106 = .ok (.iastore, 1) := by decide +kernel
theorem si_100_107 : decode (sp_b 100) 107 = .ok (.iinc 5 1, 3) := by decide +kernel
theorem si_100_110 : decode (sp_b 100) 110 = .ok (.goto (-35), 3) := by decide +kernel
theorem si_100_113 : decode (sp_b 100) 113 = .ok (.aload_n 0, 1) := by decide +kernel
theorem si_100_114 : decode (sp_b 100) 114 = .ok (.getfield 24, 3) := by decide +kernel
theorem sf_100_24 : sp_okF 100 24 7 2 264 = true := by decide +kernel
theorem si_100_117 : decode (sp_b 100) 117 = .ok (.aload_n 0, 1) := by decide +kernel
theorem si_100_118 : decode (sp_b 100) 118 = .ok (.getfield 40, 3) := by decide +kernel
theorem si_100_121 : decode (sp_b 100) 121 = .ok (.aload_n 0, 1) := by decide +kernel
theorem si_100_122 : decode (sp_b 100) 122 = .ok (.getfield 36, 3) := by decide +kernel
theorem sf_100_36 : sp_okF 100 36 7 4 266 = true := by decide +kernel
theorem si_100_125 : decode (sp_b 100) 125 = .ok (.iload_n 2, 1) := by decide +kernel
theorem si_100_126 : decode (sp_b 100) 126 = .ok (.invokevirtual 261, 3) := by decide +kernel
theorem sk_100_261 : sp_okL 100 261 102 703 = true := by decide +kernel
theorem si_100_129 : decode (sp_b 100) 129 = .ok (.istore 5, 2) := by decide +kernel
theorem si_100_131 : decode (sp_b 100) 131 = .ok (.aload_n 0, 1) := by decide +kernel
theorem si_100_132 : decode (sp_b 100) 132 = .ok (.getfield 24, 3) := by decide +kernel
theorem si_100_135 : decode (sp_b 100) 135 = .ok (.aload_n 0, 1) := by decide +kernel
theorem si_100_136 : decode (sp_b 100) 136 = .ok (.getfield 14, 3) := by decide +kernel
theorem si_100_139 : decode (sp_b 100) 139 = .ok (.iload_n 3, 1) := by decide +kernel
theorem si_100_140 : decode (sp_b 100) 140 = .ok (.invokevirtual 237, 3) := by decide +kernel
theorem sk_100_237 : sp_okL 100 237 81 612 = true := by decide +kernel
theorem si_100_143 : decode (sp_b 100) 143 = .ok (.iload 5, 2) := by decide +kernel
theorem si_100_145 : decode (sp_b 100) 145 = .ok (.ireturn, 1) := by decide +kernel
theorem si_101_0 : decode (sp_b 101) 0 = .ok (.aload_n 0, 1) := by decide +kernel
theorem si_101_1 : decode (sp_b 101) 1 = .ok (.getfield 14, 3) := by decide +kernel
theorem sf_101_14 : sp_okF 101 14 7 0 262 = true := by decide +kernel
theorem si_101_4 : decode (sp_b 101) 4 = .ok (.iload_n 1, 1) := by decide +kernel
theorem si_101_5 : decode (sp_b 101) 5 = .ok (.invokevirtual 99, 3) := by decide +kernel
theorem sk_101_99 : sp_okL 101 99 16 331 = true := by decide +kernel
theorem si_101_8 : decode (sp_b 101) 8 = .ok (.ifCond .ne 5, 3) := by decide +kernel
theorem si_101_11 : decode (sp_b 101) 11 = .ok (.iconst 1, 1) := by decide +kernel
theorem si_101_12 : decode (sp_b 101) 12 = .ok (.ireturn, 1) := by decide +kernel
theorem si_101_13 : decode (sp_b 101) 13 = .ok (.aload_n 0, 1) := by decide +kernel
theorem si_101_14 : decode (sp_b 101) 14 = .ok (.getfield 14, 3) := by decide +kernel
theorem si_101_17 : decode (sp_b 101) 17 = .ok (.iload_n 1, 1) := by decide +kernel
theorem si_101_18 : decode (sp_b 101) 18 = .ok (.invokevirtual 114, 3) := by decide +kernel
theorem sk_101_114 : sp_okL 101 114 26 374 = true := by decide +kernel
theorem si_101_21 : decode (sp_b 101) 21 = .ok (.istore_n 2, 1) := by decide +kernel
theorem si_101_22 : decode (sp_b 101) 22 = .ok (.iload_n 2, 1) := by decide +kernel
theorem si_101_23 : decode (sp_b 101) 23 = .ok (.aload_n 0, 1) := by decide +kernel
theorem si_101_24 : decode (sp_b 101) 24 = .ok (.getfield 32, 3) := by decide +kernel
theorem sf_101_32 : sp_okF 101 32 7 3 265 = true := by decide +kernel
theorem si_101_27 : decode (sp_b 101) 27 = .ok (.getfield 145, 3) := by decide +kernel
theorem sf_101_145 : sp_okF 101 145 0 3 130 = true := by decide +kernel
theorem si_101_30 : decode (sp_b 101) 30 = .ok (.if_icmp .eq 5, 3) := by decide +kernel
theorem si_101_33 : decode (sp_b 101) 33 = .ok (.iconst 5, 1) := by decide +kernel
theorem si_101_34 : decode (sp_b 101) 34 = .ok (.ireturn, 1) := by decide +kernel
theorem si_101_35 : decode (sp_b 101) 35 = .ok (.iconst 0, 1) := by decide +kernel
theorem si_101_36 : decode (sp_b 101) 36 = .ok (.istore_n 3, 1) := by decide +kernel
theorem si_101_37 : decode (sp_b 101) 37 = .ok (.iload_n 3, 1) := by decide +kernel
theorem si_101_38 : decode (sp_b 101) 38 = .ok (.iload_n 2, 1) := by decide +kernel
theorem si_101_39 : decode (sp_b 101) 39 = .ok (.if_icmp .ge 35, 3) := by decide +kernel
theorem si_101_42 : decode (sp_b 101) 42 = .ok (.aload_n 0, 1) := by decide +kernel
theorem si_101_43 : decode (sp_b 101) 43 = .ok (.getfield 14, 3) := by decide +kernel
theorem si_101_46 : decode (sp_b 101) 46 = .ok (.iload_n 1, 1) := by decide +kernel
theorem si_101_47 : decode (sp_b 101) 47 = .ok (.iload_n 3, 1) := by decide +kernel
theorem si_101_48 : decode (sp_b 101) 48 = .ok (.invokevirtual 88, 3) := by decide +kernel
theorem sk_101_88 : sp_okL 101 88 18 339 = true := by decide +kernel
theorem si_101_51 : decode (sp_b 101) 51 = .ok (.istore 4, 2) := by decide +kernel
theorem si_101_53 : decode (sp_b 101) 53 = .ok (.iload 4, 2) := by decide +kernel
theorem si_101_55 : decode (sp_b 101) 55 = .ok (.ifCond .lt 11, 3) := by decide +kernel
theorem si_101_58 : decode (sp_b 101) 58 = .ok (.iload 4, 2) := by decide +kernel
theorem si_101_60 : decode (sp_b 101) 60 = .ok (.sipush 999, 3) := by decide +kernel
theorem si_101_63 : decode (sp_b 101) 63 = .ok (.if_icmp .le 5, 3) := by decide +kernel
theorem si_101_66 : decode (sp_b 101) 66 = .ok (.iconst 3, 1) := by decide +kernel
theorem si_101_67 : decode (sp_b 101) 67 = .ok (.ireturn, 1) := by decide +kernel
theorem si_101_68 : decode (sp_b 101) 68 = .ok (.iinc 3 1, 3) := by decide +kernel
theorem si_101_71 : decode (sp_b 101) 71 = .ok (.goto (-34), 3) := by decide +kernel
theorem si_101_74 : decode (sp_b 101) 74 = .ok (.iconst 0, 1) := by decide +kernel
theorem si_101_75 : decode (sp_b 101) 75 = .ok (.ireturn, 1) := by decide +kernel
theorem si_102_0 : decode (sp_b 102) 0 = .ok (.aload_n 0, 1) := by decide +kernel
theorem si_102_1 : decode (sp_b 102) 1 = .ok (.aload_n 1, 1) := by decide +kernel
theorem si_102_2 : decode (sp_b 102) 2 = .ok (.invokevirtual 77, 3) := by decide +kernel
theorem sk_102_77 : sp_okL 102 77 78 595 = true := by decide +kernel
theorem si_102_5 : decode (sp_b 102) 5 = .ok (.aload_n 0, 1) := by decide +kernel
theorem si_102_6 : decode (sp_b 102) 6 = .ok (.iconst 0, 1) := by decide +kernel
theorem si_102_7 : decode (sp_b 102) 7 = .ok (.iload_n 3, 1) := by decide +kernel
theorem si_102_8 : decode (sp_b 102) 8 = .ok (.aload_n 2, 1) := by decide +kernel
theorem si_102_9 : decode (sp_b 102) 9 = .ok (.invokevirtual 133, 3) := by decide +kernel
theorem sk_102_133 : sp_okL 102 133 103 707 = true := by decide +kernel
theorem si_102_12 : decode (sp_b 102) 12 = .ok (.ireturn, 1) := by decide +kernel
theorem si_103_0 : decode (sp_b 103) 0 = .ok (.iload_n 2, 1) := by decide +kernel
theorem si_103_1 : decode (sp_b 103) 1 = .ok (.ifCond .ne 39, 3) := by decide +kernel
theorem si_103_4 : decode (sp_b 103) 4 = .ok (.aload_n 0, 1) := by decide +kernel
theorem si_103_5 : decode (sp_b 103) 5 = .ok (.getfield 20, 3) := by decide +kernel
theorem sf_103_20 : sp_okF 103 20 4 1 190 = true := by decide +kernel
theorem si_103_8 : decode (sp_b 103) 8 = .ok (.iload_n 1, 1) := by decide +kernel
theorem si_103_9 : decode (sp_b 103) 9 = .ok (.aaload, 1) := by decide +kernel
theorem si_103_10 : decode (sp_b 103) 10 = .ok (.aload_n 3, 1) := by decide +kernel
theorem si_103_11 : decode (sp_b 103) 11 = .ok (.aload_n 0, 1) := by decide +kernel
theorem si_103_12 : decode (sp_b 103) 12 = .ok (.getfield 12, 3) := by decide +kernel
theorem sf_103_12 : sp_okF 103 12 4 0 188 = true := by decide +kernel
theorem si_103_15 : decode (sp_b 103) 15 = .ok (.getfield 96, 3) := by decide +kernel
theorem sf_103_96 : sp_okF 103 96 0 3 129 = true := by decide +kernel
theorem si_103_18 : decode (sp_b 103) 18 = .ok (.invokevirtual 137, 3) := by decide +kernel
theorem sk_103_137 : sp_okL 103 137 104 711 = true := by decide +kernel
theorem si_103_21 : decode (sp_b 103) 21 = .ok (.ifCond .ne 5, 3) := by decide +kernel
theorem si_103_24 : decode (sp_b 103) 24 = .ok (.iconst 0, 1) := by decide +kernel
theorem si_103_25 : decode (sp_b 103) 25 = .ok (.ireturn, 1) := by decide +kernel
theorem si_103_26 : decode (sp_b 103) 26 = .ok (.aload_n 0, 1) := by decide +kernel
theorem si_103_27 : decode (sp_b 103) 27 = .ok (.invokevirtual 43, 3) := by decide +kernel
theorem sk_103_43 : sp_okL 103 43 82 616 = true := by decide +kernel
theorem si_103_30 : decode (sp_b 103) 30 = .ok (.ifCond .ne 8, 3) := by decide +kernel
theorem si_103_33 : decode (sp_b 103) 33 = .ok (.aload_n 0, 1) := by decide +kernel
theorem si_103_34 : decode (sp_b 103) 34 = .ok (.iload_n 1, 1) := by decide +kernel
theorem si_103_35 : decode (sp_b 103) 35 = .ok (.invokevirtual 84, 3) := by decide +kernel
theorem sk_103_84 : sp_okL 103 84 80 607 = true := by decide +kernel
theorem si_103_38 : decode (sp_b 103) 38 = .ok (.iconst 1, 1) := by decide +kernel
theorem si_103_39 : decode (sp_b 103) 39 = .ok (.ireturn, 1) := by decide +kernel
theorem si_103_40 : decode (sp_b 103) 40 = .ok (.iconst 0, 1) := by decide +kernel
theorem si_103_41 : decode (sp_b 103) 41 = .ok (.istore 4, 2) := by decide +kernel
theorem si_103_43 : decode (sp_b 103) 43 = .ok (.iconst 0, 1) := by decide +kernel
theorem si_103_44 : decode (sp_b 103) 44 = .ok (.istore 5, 2) := by decide +kernel
theorem si_103_46 : decode (sp_b 103) 46 = .ok (.iload 5, 2) := by decide +kernel
theorem si_103_48 : decode (sp_b 103) 48 = .ok (.aload_n 0, 1) := by decide +kernel
theorem si_103_49 : decode (sp_b 103) 49 = .ok (.getfield 12, 3) := by decide +kernel
theorem si_103_52 : decode (sp_b 103) 52 = .ok (.getfield 96, 3) := by decide +kernel
theorem si_103_55 : decode (sp_b 103) 55 = .ok (.if_icmp .ge 35, 3) := by decide +kernel
theorem si_103_58 : decode (sp_b 103) 58 = .ok (.aload_n 0, 1) := by decide +kernel
theorem si_103_59 : decode (sp_b 103) 59 = .ok (.iload_n 1, 1) := by decide +kernel
theorem si_103_60 : decode (sp_b 103) 60 = .ok (.iload 5, 2) := by decide +kernel
theorem si_103_62 : decode (sp_b 103) 62 = .ok (.invokevirtual 107, 3) := by decide +kernel
theorem sk_103_107 : sp_okL 103 107 88 642 = true := by decide +kernel
theorem si_103_65 : decode (sp_b 103) 65 = .ok (.ifCond .eq 19, 3) := by decide +kernel
theorem si_103_68 : decode (sp_b 103) 68 = .ok (.iload 4, 2) := by decide +kernel
theorem si_103_70 : decode (sp_b 103) 70 = .ok (.aload_n 0, 1) := by decide +kernel
theorem si_103_71 : decode (sp_b 103) 71 = .ok (.iload_n 1, 1) := by decide +kernel
theorem si_103_72 : decode (sp_b 103) 72 = .ok (.iconst 1, 1) := by decide +kernel
theorem si_103_73 : decode (sp_b 103) 73 = .ok (.iadd, 1) := by decide +kernel
theorem si_103_74 : decode (sp_b 103) 74 = .ok (.iload_n 2, 1) := by decide +kernel
theorem si_103_75 : decode (sp_b 103) 75 = .ok (.iconst 1, 1) := by decide +kernel
theorem si_103_76 : decode (sp_b 103) 76 = .ok (.isub, 1) := by decide +kernel
theorem si_103_77 : decode (sp_b 103) 77 = .ok (.aload_n 3, 1) := by decide +kernel
theorem si_103_78 : decode (sp_b 103) 78 = .ok (.invokevirtual 133, 3) := by decide +kernel
theorem sk_103_133 : sp_okL 103 133 103 707 = true := by decide +kernel
theorem si_103_81 : decode (sp_b 103) 81 = .ok (.iadd, 1) := by decide +kernel
theorem si_103_82 : decode (sp_b 103) 82 = .ok (.istore 4, 2) := by decide +kernel
theorem si_103_84 : decode (sp_b 103) 84 = .ok (.iinc 5 1, 3) := by decide +kernel
theorem si_103_87 : decode (sp_b 103) 87 = .ok (.goto (-41), 3) := by decide +kernel
theorem si_103_90 : decode (sp_b 103) 90 = .ok (.iload 4, 2) := by decide +kernel
theorem si_103_92 : decode (sp_b 103) 92 = .ok (.ireturn, 1) := by decide +kernel
theorem si_104_0 : decode (sp_b 104) 0 = .ok (.iconst 0, 1) := by decide +kernel
theorem si_104_1 : decode (sp_b 104) 1 = .ok (.istore_n 3, 1) := by decide +kernel
theorem si_104_2 : decode (sp_b 104) 2 = .ok (.iload_n 3, 1) := by decide +kernel
theorem si_104_3 : decode (sp_b 104) 3 = .ok (.iload_n 2, 1) := by decide +kernel
theorem si_104_4 : decode (sp_b 104) 4 = .ok (.if_icmp .ge 26, 3) := by decide +kernel
theorem si_104_7 : decode (sp_b 104) 7 = .ok (.aload_n 0, 1) := by decide +kernel
theorem si_104_8 : decode (sp_b 104) 8 = .ok (.getfield 9, 3) := by decide +kernel
theorem sf_104_9 : sp_okF 104 9 2 0 162 = true := by decide +kernel
theorem si_104_11 : decode (sp_b 104) 11 = .ok (.iload_n 3, 1) := by decide +kernel
theorem si_104_12 : decode (sp_b 104) 12 = .ok (.iaload, 1) := by decide +kernel
theorem si_104_13 : decode (sp_b 104) 13 = .ok (.aload_n 1, 1) := by decide +kernel
theorem si_104_14 : decode (sp_b 104) 14 = .ok (.getfield 9, 3) := by decide +kernel
theorem si_104_17 : decode (sp_b 104) 17 = .ok (.iload_n 3, 1) := by decide +kernel
theorem si_104_18 : decode (sp_b 104) 18 = .ok (.iaload, 1) := by decide +kernel
theorem si_104_19 : decode (sp_b 104) 19 = .ok (.if_icmp .eq 5, 3) := by decide +kernel
theorem si_104_22 : decode (sp_b 104) 22 = .ok (.iconst 0, 1) := by decide +kernel
theorem si_104_23 : decode (sp_b 104) 23 = .ok (.ireturn, 1) := by decide +kernel
theorem si_104_24 : decode (sp_b 104) 24 = .ok (.iinc 3 1, 3) := by decide +kernel
theorem si_104_27 : decode (sp_b 104) 27 = .ok (.goto (-25), 3) := by decide +kernel
theorem si_104_30 : decode (sp_b 104) 30 = .ok (.iconst 1, 1) := by decide +kernel
theorem si_104_31 : decode (sp_b 104) 31 = .ok (.ireturn, 1) := by decide +kernel
theorem si_105_0 : decode (sp_b 105) 0 = .ok (.aload_n 0, 1) := by decide +kernel
theorem si_105_1 : decode (sp_b 105) 1 = .ok (.getfield 14, 3) := by decide +kernel
theorem sf_105_14 : sp_okF 105 14 7 0 262 = true := by decide +kernel
theorem si_105_4 : decode (sp_b 105) 4 = .ok (.iload_n 1, 1) := by decide +kernel
theorem si_105_5 : decode (sp_b 105) 5 = .ok (.invokevirtual 72, 3) := by decide +kernel
theorem sk_105_72 : sp_okL 105 72 11 312 = true := by decide +kernel
theorem si_105_8 : decode (sp_b 105) 8 = .ok (.ifCond .ne 5, 3) := by decide +kernel
theorem si_105_11 : decode (sp_b 105) 11 = .ok (.iconst (-1), 1) := by decide +kernel
theorem si_105_12 : decode (sp_b 105) 12 = .ok (.ireturn, 1) := by decide +kernel
theorem si_105_13 : decode (sp_b 105) 13 = .ok (.aload_n 0, 1) := by decide +kernel
theorem si_105_14 : decode (sp_b 105) 14 = .ok (.iload_n 1, 1) := by decide +kernel
theorem si_105_15 : decode (sp_b 105) 15 = .ok (.invokevirtual 265, 3) := by decide +kernel
theorem sk_105_265 : sp_okL 105 265 106 719 = true := by decide +kernel
theorem si_105_18 : decode (sp_b 105) 18 = .ok (.istore_n 2, 1) := by decide +kernel
theorem si_105_19 : decode (sp_b 105) 19 = .ok (.iload_n 2, 1) := by decide +kernel
theorem si_105_20 : decode (sp_b 105) 20 = .ok (.ifCond .eq 9, 3) := by decide +kernel
theorem si_105_23 : decode (sp_b 105) 23 = .ok (.aload_n 0, 1) := by decide +kernel
theorem si_105_24 : decode (sp_b 105) 24 = .ok (.iload_n 2, 1) := by decide +kernel
theorem si_105_25 : decode (sp_b 105) 25 = .ok (.invokevirtual 76, 3) := by decide +kernel
theorem sk_105_76 : sp_okL 105 76 12 316 = true := by decide +kernel
theorem si_105_28 : decode (sp_b 105) 28 = .ok (.ireturn, 1) := by decide +kernel
theorem si_105_29 : decode (sp_b 105) 29 = .ok (.aload_n 0, 1) := by decide +kernel
theorem si_105_30 : decode (sp_b 105) 30 = .ok (.iload_n 1, 1) := by decide +kernel
theorem si_105_31 : decode (sp_b 105) 31 = .ok (.invokevirtual 268, 3) := by decide +kernel
theorem sk_105_268 : sp_okL 105 268 107 723 = true := by decide +kernel
theorem si_105_34 : decode (sp_b 105) 34 = .ok (.ireturn, 1) := by decide +kernel
theorem si_106_0 : decode (sp_b 106) 0 = .ok (.aload_n 0, 1) := by decide +kernel
theorem si_106_1 : decode (sp_b 106) 1 = .ok (.getfield 14, 3) := by decide +kernel
theorem sf_106_14 : sp_okF 106 14 7 0 262 = true := by decide +kernel
theorem si_106_4 : decode (sp_b 106) 4 = .ok (.iload_n 1, 1) := by decide +kernel
theorem si_106_5 : decode (sp_b 106) 5 = .ok (.invokevirtual 99, 3) := by decide +kernel
theorem sk_106_99 : sp_okL 106 99 16 331 = true := by decide +kernel
theorem si_106_8 : decode (sp_b 106) 8 = .ok (.ifCond .ne 5, 3) := by decide +kernel
theorem si_106_11 : decode (sp_b 106) 11 = .ok (.iconst 1, 1) := by decide +kernel
theorem si_106_12 : decode (sp_b 106) 12 = .ok (.ireturn, 1) := by decide +kernel
theorem si_106_13 : decode (sp_b 106) 13 = .ok (.aload_n 0, 1) := by decide +kernel
theorem si_106_14 : decode (sp_b 106) 14 = .ok (.getfield 14, 3) := by decide +kernel
theorem si_106_17 : decode (sp_b 106) 17 = .ok (.iload_n 1, 1) := by decide +kernel
theorem si_106_18 : decode (sp_b 106) 18 = .ok (.invokevirtual 114, 3) := by decide +kernel
theorem sk_106_114 : sp_okL 106 114 26 374 = true := by decide +kernel
theorem si_106_21 : decode (sp_b 106) 21 = .ok (.istore_n 2, 1) := by decide +kernel
theorem si_106_22 : decode (sp_b 106) 22 = .ok (.iload_n 2, 1) := by decide +kernel
theorem si_106_23 : decode (sp_b 106) 23 = .ok (.iconst 2, 1) := by decide +kernel
theorem si_106_24 : decode (sp_b 106) 24 = .ok (.irem, 1) := by decide +kernel
theorem si_106_25 : decode (sp_b 106) 25 = .ok (.ifCond .eq 5, 3) := by decide +kernel
theorem si_106_28 : decode (sp_b 106) 28 = .ok (.iconst 5, 1) := by decide +kernel
theorem si_106_29 : decode (sp_b 106) 29 = .ok (.ireturn, 1) := by decide +kernel
theorem si_106_30 : decode (sp_b 106) 30 = .ok (.iconst 0, 1) := by decide +kernel
theorem si_106_31 : decode (sp_b 106) 31 = .ok (.istore_n 3, 1) := by decide +kernel
theorem si_106_32 : decode (sp_b 106) 32 = .ok (.iload_n 3, 1) := by decide +kernel
theorem si_106_33 : decode (sp_b 106) 33 = .ok (.iconst 1, 1) := by decide +kernel
theorem si_106_34 : decode (sp_b 106) 34 = .ok (.iadd, 1) := by decide +kernel
theorem si_106_35 : decode (sp_b 106) 35 = .ok (.iload_n 2, 1) := by decide +kernel
theorem si_106_36 : decode (sp_b 106) 36 = .ok (.if_icmp .ge 54, 3) := by decide +kernel
theorem si_106_39 : decode (sp_b 106) 39 = .ok (.aload_n 0, 1) := by decide +kernel
theorem si_106_40 : decode (sp_b 106) 40 = .ok (.getfield 14, 3) := by decide +kernel
theorem si_106_43 : decode (sp_b 106) 43 = .ok (.iload_n 1, 1) := by decide +kernel
theorem si_106_44 : decode (sp_b 106) 44 = .ok (.iload_n 3, 1) := by decide +kernel
theorem si_106_45 : decode (sp_b 106) 45 = .ok (.iconst 1, 1) := by decide +kernel
theorem si_106_46 : decode (sp_b 106) 46 = .ok (.iadd, 1) := by decide +kernel
theorem si_106_47 : decode (sp_b 106) 47 = .ok (.invokevirtual 88, 3) := by decide +kernel
theorem sk_106_88 : sp_okL 106 88 18 339 = true := by decide +kernel
theorem si_106_50 : decode (sp_b 106) 50 = .ok (.istore 4, 2) := by decide +kernel
theorem si_106_52 : decode (sp_b 106) 52 = .ok (.aload_n 0, 1) := by decide +kernel
theorem si_106_53 : decode (sp_b 106) 53 = .ok (.getfield 32, 3) := by decide +kernel
theorem sf_106_32 : sp_okF 106 32 7 3 265 = true := by decide +kernel
theorem si_106_56 : decode (sp_b 106) 56 = .ok (.aload_n 0, 1) := by decide +kernel
theorem si_106_57 : decode (sp_b 106) 57 = .ok (.getfield 14, 3) := by decide +kernel
theorem si_106_60 : decode (sp_b 106) 60 = .ok (.iload_n 1, 1) := by decide +kernel
theorem si_106_61 : decode (sp_b 106) 61 = .ok (.iload_n 3, 1) := by decide +kernel
theorem si_106_62 : decode (sp_b 106) 62 = .ok (.invokevirtual 88, 3) := by decide +kernel
theorem si_106_65 : decode (sp_b 106) 65 = .ok (.invokevirtual 148, 3) := by decide +kernel
theorem sk_106_148 : sp_okL 106 148 43 447 = true := by decide +kernel
theorem si_106_68 : decode (sp_b 106) 68 = .ok (.ifCond .eq 14, 3) := by decide +kernel
theorem si_106_71 : decode (sp_b 106) 71 = .ok (.iload 4, 2) := by decide +kernel
theorem si_106_73 : decode (sp_b 106) 73 = .ok (.ifCond .lt 9, 3) := by decide +kernel
theorem si_106_76 : decode (sp_b 106) 76 = .ok (.iload 4, 2) := by decide +kernel
theorem si_106_78 : decode (sp_b 106) 78 = .ok (.iconst 1, 1) := by decide +kernel
theorem si_106_79 : decode (sp_b 106) 79 = .ok (.if_icmp .le 5, 3) := by decide +kernel
theorem si_106_82 : decode (sp_b 106) 82 = .ok (.iconst 3, 1) := by decide +kernel
theorem si_106_83 : decode (sp_b 106) 83 = .ok (.ireturn, 1) := by decide +kernel
theorem si_106_84 : decode (sp_b 106) 84 = .ok (.iinc 3 2, 3) := by decide +kernel
theorem si_106_87 : decode (sp_b 106) 87 = .ok (.goto (-55), 3) := by decide +kernel
theorem si_106_90 : decode (sp_b 106) 90 = .ok (.iconst 0, 1) := by decide +kernel
theorem si_106_91 : decode (sp_b 106) 91 = .ok (.ireturn, 1) := by decide +kernel
theorem si_107_0 : decode (sp_b 107) 0 = .ok (.aload_n 0, 1) := by decide +kernel
theorem si_107_1 : decode (sp_b 107) 1 = .ok (.getfield 32, 3) := by decide +kernel
theorem sf_107_32 : sp_okF 107 32 7 3 265 = true := by decide +kernel
theorem si_107_4 : decode (sp_b 107) 4 = .ok (.invokevirtual 310, 3) := by decide +kernel
theorem sk_107_310 : sp_okL 107 310 108 727 = true := by decide +kernel
theorem si_107_7 : decode (sp_b 107) 7 = .ok (.istore_n 2, 1) := by decide +kernel
theorem si_107_8 : decode (sp_b 107) 8 = .ok (.iconst 0, 1) := by decide +kernel
theorem si_107_9 : decode (sp_b 107) 9 = .ok (.istore_n 3, 1) := by decide +kernel
theorem si_107_10 : decode (sp_b 107) 10 = .ok (.iload_n 3, 1) := by decide +kernel
theorem si_107_11 : decode (sp_b 107) 11 = .ok (.iconst 1, 1) := by decide +kernel
theorem si_107_12 : decode (sp_b 107) 12 = .ok (.iadd, 1) := by decide +kernel
theorem si_107_13 : decode (sp_b 107) 13 = .ok (.aload_n 0, 1) := by decide +kernel
theorem si_107_14 : decode (sp_b 107) 14 = .ok (.getfield 14, 3) := by decide +kernel
theorem sf_107_14 : sp_okF 107 14 7 0 262 = true := by decide +kernel
theorem si_107_17 : decode (sp_b 107) 17 = .ok (.iload_n 1, 1) := by decide +kernel
theorem si_107_18 : decode (sp_b 107) 18 = .ok (.invokevirtual 114, 3) := by decide +kernel
theorem sk_107_114 : sp_okL 107 114 26 374 = true := by decide +kernel
theorem si_107_21 : decode (sp_b 107) 21 = .ok (.if_icmp .ge 54, 3) := by decide +kernel
theorem si_107_24 : decode (sp_b 107) 24 = .ok (.aload_n 0, 1) := by decide +kernel
theorem si_107_25 : decode (sp_b 107) 25 = .ok (.getfield 32, 3) := by decide +kernel
theorem si_107_28 : decode (sp_b 107) 28 = .ok (.aload_n 0, 1) := by decide +kernel
theorem si_107_29 : decode (sp_b 107) 29 = .ok (.getfield 14, 3) := by decide +kernel
theorem si_107_32 : decode (sp_b 107) 32 = .ok (.iload_n 1, 1) := by decide +kernel
theorem si_107_33 : decode (sp_b 107) 33 = .ok (.iload_n 3, 1) := by decide +kernel
theorem si_107_34 : decode (sp_b 107) 34 = .ok (.invokevirtual 88, 3) := by decide +kernel
theorem sk_107_88 : sp_okL 107 88 18 339 = true := by decide +kernel
theorem si_107_37 : decode (sp_b 107) 37 = .ok (.invokevirtual 271, 3) := by decide +kernel
theorem sk_107_271 : sp_okL 107 271 109 731 = true := by decide +kernel
theorem si_107_40 : decode (sp_b 107) 40 = .ok (.istore 4, 2) := by decide +kernel
theorem si_107_42 : decode (sp_b 107) 42 = .ok (.iload_n 2, 1) := by decide +kernel
theorem si_107_43 : decode (sp_b 107) 43 = .ok (.aload_n 0, 1) := by decide +kernel
theorem si_107_44 : decode (sp_b 107) 44 = .ok (.getfield 14, 3) := by decide +kernel
theorem si_107_47 : decode (sp_b 107) 47 = .ok (.iload_n 1, 1) := by decide +kernel
theorem si_107_48 : decode (sp_b 107) 48 = .ok (.iload_n 3, 1) := by decide +kernel
theorem si_107_49 : decode (sp_b 107) 49 = .ok (.iconst 1, 1) := by decide +kernel
theorem si_107_50 : decode (sp_b 107) 50 = .ok (.iadd, 1) := by decide +kernel
theorem si_107_51 : decode (sp_b 107) 51 = .ok (.invokevirtual 88, 3) := by decide +kernel
theorem si_107_54 : decode (sp_b 107) 54 = .ok (.iconst 1, 1) := by decide +kernel
theorem si_107_55 : decode (sp_b 107) 55 = .ok (.if_icmp .ne 8, 3) := by decide +kernel
theorem si_107_58 : decode (sp_b 107) 58 = .ok (.iload 4, 2) := by decide +kernel
theorem si_107_60 : decode (sp_b 107) 60 = .ok (.goto 7, 3) := by decide +kernel
theorem si_107_63 : decode (sp_b 107) 63 = .ok (.iload 4, 2) := by decide +kernel
theorem si_107_65 : decode (sp_b 107) 65 = .ok (.iconst (-1), 1) := by decide +kernel
theorem si_107_66 : decode (sp_b 107) 66 = .ok (.ixor, 1) := by decide +kernel
theorem si_107_67 : decode (sp_b 107) 67 = .ok (.iand, 1) := by decide +kernel
theorem si_107_68 : decode (sp_b 107) 68 = .ok (.istore_n 2, 1) := by decide +kernel
theorem si_107_69 : decode (sp_b 107) 69 = .ok (.iinc 3 2, 3) := by decide +kernel
theorem si_107_72 : decode (sp_b 107) 72 = .ok (.goto (-62), 3) := by decide +kernel
theorem si_107_75 : decode (sp_b 107) 75 = .ok (.iload_n 2, 1) := by decide +kernel
theorem si_107_76 : decode (sp_b 107) 76 = .ok (.ireturn, 1) := by decide +kernel
theorem si_108_0 : decode (sp_b 108) 0 = .ok (.iconst 1, 1) := by decide +kernel
theorem si_108_1 : decode (sp_b 108) 1 = .ok (.aload_n 0, 1) := by decide +kernel
theorem si_108_2 : decode (sp_b 108) 2 = .ok (.getfield 21, 3) := by decide +kernel
theorem sf_108_21 : sp_okF 108 21 0 3 127 = true := by decide +kernel
theorem si_108_5 : decode (sp_b 108) 5 = .ok (.ishl, 1) := by decide +kernel
theorem si_108_6 : decode (sp_b 108) 6 = .ok (.iconst 1, 1) := by decide +kernel
theorem si_108_7 : decode (sp_b 108) 7 = .ok (.isub, 1) := by decide +kernel
theorem si_108_8 : decode (sp_b 108) 8 = .ok (.ireturn, 1) := by decide +kernel
theorem si_109_0 : decode (sp_b 109) 0 = .ok (.bipush 7, 2) := by decide +kernel
theorem si_109_2 : decode (sp_b 109) 2 = .ok (.iload_n 1, 1) := by decide +kernel
theorem si_109_3 : decode (sp_b 109) 3 = .ok (.ishl, 1) := by decide +kernel
theorem si_109_4 : decode (sp_b 109) 4 = .ok (.iconst 1, 1) := by decide +kernel
theorem si_109_5 : decode (sp_b 109) 5 = .ok (.ishr, 1) := by decide +kernel
theorem si_109_6 : decode (sp_b 109) 6 = .ok (.aload_n 0, 1) := by decide +kernel
theorem si_109_7 : decode (sp_b 109) 7 = .ok (.invokevirtual 44, 3) := by decide +kernel
theorem sk_109_44 : sp_okL 109 44 108 735 = true := by decide +kernel
theorem si_109_10 : decode (sp_b 109) 10 = .ok (.iand, 1) := by decide +kernel
theorem si_109_11 : decode (sp_b 109) 11 = .ok (.ireturn, 1) := by decide +kernel
theorem si_110_0 : decode (sp_b 110) 0 = .ok (.aload_n 0, 1) := by decide +kernel
theorem si_110_1 : decode (sp_b 110) 1 = .ok (.getfield 14, 3) := by decide +kernel
theorem sf_110_14 : sp_okF 110 14 7 0 262 = true := by decide +kernel
theorem si_110_4 : decode (sp_b 110) 4 = .ok (.iload_n 1, 1) := by decide +kernel
theorem si_110_5 : decode (sp_b 110) 5 = .ok (.invokevirtual 72, 3) := by decide +kernel
theorem sk_110_72 : sp_okL 110 72 11 312 = true := by decide +kernel
theorem si_110_8 : decode (sp_b 110) 8 = .ok (.ifCond .ne 5, 3) := by decide +kernel
theorem si_110_11 : decode (sp_b 110) 11 = .ok (.iconst (-1), 1) := by decide +kernel
theorem si_110_12 : decode (sp_b 110) 12 = .ok (.ireturn, 1) := by decide +kernel
theorem si_110_13 : decode (sp_b 110) 13 = .ok (.aload_n 0, 1) := by decide +kernel
theorem si_110_14 : decode (sp_b 110) 14 = .ok (.iload_n 1, 1) := by decide +kernel
theorem si_110_15 : decode (sp_b 110) 15 = .ok (.invokevirtual 265, 3) := by decide +kernel
theorem sk_110_265 : sp_okL 110 265 106 719 = true := by decide +kernel
theorem si_110_18 : decode (sp_b 110) 18 = .ok (.istore_n 2, 1) := by decide +kernel
theorem si_110_19 : decode (sp_b 110) 19 = .ok (.iload_n 2, 1) := by decide +kernel
theorem si_110_20 : decode (sp_b 110) 20 = .ok (.ifCond .eq 9, 3) := by decide +kernel
theorem si_110_23 : decode (sp_b 110) 23 = .ok (.aload_n 0, 1) := by decide +kernel
theorem si_110_24 : decode (sp_b 110) 24 = .ok (.iload_n 2, 1) := by decide +kernel
theorem si_110_25 : decode (sp_b 110) 25 = .ok (.invokevirtual 76, 3) := by decide +kernel
theorem sk_110_76 : sp_okL 110 76 12 316 = true := by decide +kernel
theorem si_110_28 : decode (sp_b 110) 28 = .ok (.ireturn, 1) := by decide +kernel
theorem si_110_29 : decode (sp_b 110) 29 = .ok (.aload_n 0, 1) := by decide +kernel
theorem si_110_30 : decode (sp_b 110) 30 = .ok (.iload_n 1, 1) := by decide +kernel
theorem si_110_31 : decode (sp_b 110) 31 = .ok (.invokevirtual 268, 3) := by decide +kernel
theorem sk_110_268 : sp_okL 110 268 107 723 = true := by decide +kernel
theorem si_110_34 : decode (sp_b 110) 34 = .ok (.istore_n 3, 1) := by decide +kernel
theorem si_110_35 : decode (sp_b 110) 35 = .ok (.iload_n 3, 1) := by decide +kernel
theorem si_110_36 : decode (sp_b 110) 36 = .ok (.ifCond .ne 6, 3) := by decide +kernel
theorem si_110_39 : decode (sp_b 110) 39 = .ok (.bipush (-9), 2) := by decide +kernel
theorem si_110_41 : decode (sp_b 110) 41 = .ok (.ireturn, 1) := by decide +kernel
theorem si_110_42 : decode (sp_b 110) 42 = .ok (.iconst 0, 1) := by decide +kernel
theorem si_110_43 : decode (sp_b 110) 43 = .ok (.istore 4, 2) := by decide +kernel
theorem si_110_45 : decode (sp_b 110) 45 = .ok (.aload_n 0, 1) := by decide +kernel
theorem si_110_46 : decode (sp_b 110) 46 = .ok (.getfield 32, 3) := by decide +kernel
theorem sf_110_32 : sp_okF 110 32 7 3 265 = true := by decide +kernel
theorem si_110_49 : decode (sp_b 110) 49 = .ok (.getfield 145, 3) := by decide +kernel
theorem sf_110_145 : sp_okF 110 145 0 3 130 = true := by decide +kernel
theorem si_110_52 : decode (sp_b 110) 52 = .ok (.iconst 1, 1) := by decide +kernel
theorem si_110_53 : decode (sp_b 110) 53 = .ok (.iadd, 1) := by decide +kernel
theorem si_110_54 : decode (sp_b 110) 54 = .ok (.istore 5, 2) := by decide +kernel
theorem si_110_56 : decode (sp_b 110) 56 = .ok (.iconst 0, 1) := by decide +kernel
theorem si_110_57 : decode (sp_b 110) 57 = .ok (.istore 6, 2) := by decide +kernel
theorem si_110_59 : decode (sp_b 110) 59 = .ok (.iload 6, 2) := by decide +kernel
theorem si_110_61 : decode (sp_b 110) 61 = .ok (.aload_n 0, 1) := by decide +kernel
theorem si_110_62 : decode (sp_b 110) 62 = .ok (.getfield 32, 3) := by decide +kernel
theorem si_110_65 : decode (sp_b 110) 65 = .ok (.getfield 145, 3) := by decide +kernel
theorem si_110_68 : decode (sp_b 110) 68 = .ok (.if_icmp .ge 56, 3) := by decide +kernel
theorem si_110_71 : decode (sp_b 110) 71 = .ok (.aload_n 0, 1) := by decide +kernel
theorem si_110_72 : decode (sp_b 110) 72 = .ok (.getfield 32, 3) := by decide +kernel
theorem si_110_75 : decode (sp_b 110) 75 = .ok (.iload 6, 2) := by decide +kernel
theorem si_110_77 : decode (sp_b 110) 77 = .ok (.invokevirtual 271, 3) := by decide +kernel
theorem sk_110_271 : sp_okL 110 271 109 731 = true := by decide +kernel
theorem si_110_80 : decode (sp_b 110) 80 = .ok (.istore 7, 2) := by decide +kernel
theorem si_110_82 : decode (sp_b 110) 82 = .ok (.iload_n 3, 1) := by decide +kernel
theorem si_110_83 : decode (sp_b 110) 83 = .ok (.iload 7, 2) := by decide +kernel
theorem si_110_85 : decode (sp_b 110) 85 = .ok (.iand, 1) := by decide +kernel
theorem si_110_86 : decode (sp_b 110) 86 = .ok (.invokestatic 179, 3) := by decide +kernel
theorem sk_110_179 : sp_okL 110 179 51 480 = true := by decide +kernel
theorem si_110_89 : decode (sp_b 110) 89 = .ok (.iload_n 3, 1) := by decide +kernel
theorem si_110_90 : decode (sp_b 110) 90 = .ok (.iload 7, 2) := by decide +kernel
theorem si_110_92 : decode (sp_b 110) 92 = .ok (.iconst (-1), 1) := by decide +kernel
theorem si_110_93 : decode (sp_b 110) 93 = .ok (.ixor, 1) := by decide +kernel
theorem si_110_94 : decode (sp_b 110) 94 = .ok (.iand, 1) := by decide +kernel
theorem si_110_95 : decode (sp_b 110) 95 = .ok (.invokestatic 179, 3) := by decide +kernel
theorem si_110_98 : decode (sp_b 110) 98 = .ok (.invokestatic 169, 3) := by decide +kernel
theorem sk_110_169 : sp_okL 110 169 49 472 = true := by decide +kernel
theorem si_110_101 : decode (sp_b 110) 101 = .ok (.istore 8, 2) := by decide +kernel
theorem si_110_103 : decode (sp_b 110) 103 = .ok (.iload 8, 2) := by decide +kernel
theorem si_110_105 : decode (sp_b 110) 105 = .ok (.iload 5, 2) := by decide +kernel
theorem si_110_107 : decode (sp_b 110) 107 = .ok (.if_icmp .ge 11, 3) := by decide +kernel
theorem si_110_110 : decode (sp_b 110) 110 = .ok (.iload 8, 2) := by decide +kernel
theorem si_110_112 : decode (sp_b 110) 112 = .ok (.istore 5, 2) := by decide +kernel
theorem si_110_114 : decode (sp_b 110) 114 = .ok (.iload 6, 2) := by decide +kernel
theorem si_110_116 : decode (sp_b 110) 116 = .ok (.istore 4, 2) := by decide +kernel
theorem si_110_118 : decode (sp_b 110) 118 = .ok (.iinc 6 1, 3) := by decide +kernel
theorem si_110_121 : decode (sp_b 110) 121 = .ok (.goto (-62), 3) := by decide +kernel
theorem si_110_124 : decode (sp_b 110) 124 = .ok (.aload_n 0, 1) := by decide +kernel
theorem si_110_125 : decode (sp_b 110) 125 = .ok (.iload 5, 2) := by decide +kernel
theorem si_110_127 : decode (sp_b 110) 127 = .ok (.putfield 92, 3) := by decide +kernel
theorem sf_110_92 : sp_okF 110 92 7 12 274 = true := by decide +kernel
theorem si_110_130 : decode (sp_b 110) 130 = .ok (.iload 4, 2) := by decide +kernel
theorem si_110_132 : decode (sp_b 110) 132 = .ok (.ireturn, 1) := by decide +kernel
theorem si_111_0 : decode (sp_b 111) 0 = .ok (.aload_n 0, 1) := by decide +kernel
theorem si_111_1 : decode (sp_b 111) 1 = .ok (.getfield 14, 3) := by decide +kernel
theorem sf_111_14 : sp_okF 111 14 7 0 262 = true := by decide +kernel
theorem si_111_4 : decode (sp_b 111) 4 = .ok (.iload_n 1, 1) := by decide +kernel
theorem si_111_5 : decode (sp_b 111) 5 = .ok (.invokevirtual 72, 3) := by decide +kernel
theorem sk_111_72 : sp_okL 111 72 11 312 = true := by decide +kernel
theorem si_111_8 : decode (sp_b 111) 8 = .ok (.ifCond .ne 5, 3) := by decide +kernel
theorem si_111_11 : decode (sp_b 111) 11 = .ok (.iconst (-1), 1) := by decide +kernel
theorem si_111_12 : decode (sp_b 111) 12 = .ok (.ireturn, 1) := by decide +kernel
theorem si_111_13 : decode (sp_b 111) 13 = .ok (.aload_n 0, 1) := by decide +kernel
theorem si_111_14 : decode (sp_b 111) 14 = .ok (.iload_n 1, 1) := by decide +kernel
theorem si_111_15 : decode (sp_b 111) 15 = .ok (.invokevirtual 223, 3) := by decide +kernel
theorem sk_111_223 : sp_okL 111 223 73 572 = true := by decide +kernel
theorem si_111_18 : decode (sp_b 111) 18 = .ok (.istore_n 2, 1) := by decide +kernel
theorem si_111_19 : decode (sp_b 111) 19 = .ok (.iload_n 2, 1) := by decide +kernel
theorem si_111_20 : decode (sp_b 111) 20 = .ok (.ifCond .eq 9, 3) := by decide +kernel
theorem si_111_23 : decode (sp_b 111) 23 = .ok (.aload_n 0, 1) := by decide +kernel
theorem si_111_24 : decode (sp_b 111) 24 = .ok (.iload_n 2, 1) := by decide +kernel
theorem si_111_25 : decode (sp_b 111) 25 = .ok (.invokevirtual 76, 3) := by decide +kernel
theorem sk_111_76 : sp_okL 111 76 12 316 = true := by decide +kernel
theorem si_111_28 : decode (sp_b 111) 28 = .ok (.ireturn, 1) := by decide +kernel
theorem si_111_29 : decode (sp_b 111) 29 = .ok (.aload_n 0, 1) := by decide +kernel
theorem si_111_30 : decode (sp_b 111) 30 = .ok (.getfield 40, 3) := by decide +kernel
theorem sf_111_40 : sp_okF 111 40 7 5 267 = true := by decide +kernel
theorem si_111_33 : decode (sp_b 111) 33 = .ok (.aload_n 0, 1) := by decide +kernel
theorem si_111_34 : decode (sp_b 111) 34 = .ok (.getfield 36, 3) := by decide +kernel
theorem sf_111_36 : sp_okF 111 36 7 4 266 = true := by decide +kernel
theorem si_111_37 : decode (sp_b 111) 37 = .ok (.invokevirtual 131, 3) := by decide +kernel
theorem sk_111_131 : sp_okL 111 131 39 429 = true := by decide +kernel
theorem si_111_40 : decode (sp_b 111) 40 = .ok (.lconst 1, 1) := by decide +kernel
theorem si_111_41 : decode (sp_b 111) 41 = .ok (.lstore_n 3, 1) := by decide +kernel
theorem si_111_42 : decode (sp_b 111) 42 = .ok (.iconst 0, 1) := by decide +kernel
theorem si_111_43 : decode (sp_b 111) 43 = .ok (.istore 5, 2) := by decide +kernel
theorem si_111_45 : decode (sp_b 111) 45 = .ok (.iload 5, 2) := by decide +kernel
theorem si_111_47 : decode (sp_b 111) 47 = .ok (.aload_n 0, 1) := by decide +kernel
theorem si_111_48 : decode (sp_b 111) 48 = .ok (.getfield 14, 3) := by decide +kernel
theorem si_111_51 : decode (sp_b 111) 51 = .ok (.iload_n 1, 1) := by decide +kernel
theorem si_111_52 : decode (sp_b 111) 52 = .ok (.invokevirtual 114, 3) := by decide +kernel
theorem sk_111_114 : sp_okL 111 114 26 374 = true := by decide +kernel
theorem si_111_55 : decode (sp_b 111) 55 = .ok (.if_icmp .ge 75, 3) := by decide +kernel
theorem si_111_58 : decode (sp_b 111) 58 = .ok (.aload_n 0, 1) := by decide +kernel
theorem si_111_59 : decode (sp_b 111) 59 = .ok (.getfield 14, 3) := by decide +kernel
theorem si_111_62 : decode (sp_b 111) 62 = .ok (.iload_n 1, 1) := by decide +kernel
theorem si_111_63 : decode (sp_b 111) 63 = .ok (.iload 5, 2) := by decide +kernel
theorem si_111_65 : decode (sp_b 111) 65 = .ok (.invokevirtual 88, 3) := by decide +kernel
theorem sk_111_88 : sp_okL 111 88 18 339 = true := by decide +kernel
theorem si_111_68 : decode (sp_b 111) 68 = .ok (.istore 6, 2) := by decide +kernel
theorem si_111_70 : decode (sp_b 111) 70 = .ok (.aload_n 0, 1) := by decide +kernel
theorem si_111_71 : decode (sp_b 111) 71 = .ok (.getfield 32, 3) := by decide +kernel
theorem sf_111_32 : sp_okF 111 32 7 3 265 = true := by decide +kernel
theorem si_111_74 : decode (sp_b 111) 74 = .ok (.iload 6, 2) := by decide +kernel
theorem si_111_76 : decode (sp_b 111) 76 = .ok (.aload_n 0, 1) := by decide +kernel
theorem si_111_77 : decode (sp_b 111) 77 = .ok (.getfield 40, 3) := by decide +kernel
theorem si_111_80 : decode (sp_b 111) 80 = .ok (.invokevirtual 185, 3) := by decide +kernel
theorem sk_111_185 : sp_okL 111 185 45 455 = true := by decide +kernel
theorem si_111_83 : decode (sp_b 111) 83 = .ok (.ifCond .ne 10, 3) := by decide +kernel
theorem si_111_86 : decode (sp_b 111) 86 = .ok (.aload_n 0, 1) := by decide +kernel
theorem si_111_87 : decode (sp_b 111) 87 = .ok (.lconst 0, 1) := by decide +kernel
theorem si_111_88 : decode (sp_b 111) 88 = .ok (.lconst 1, 1) := by decide +kernel
theorem si_111_89 : decode (sp_b 111) 89 = .ok (.invokevirtual 274, 3) := by decide +kernel
theorem sk_111_274 : sp_okL 111 274 112 744 = true := by decide +kernel
theorem si_111_92 : decode (sp_b 111) 92 = .ok (.ireturn, 1) := by decide +kernel
theorem si_111_93 : decode (sp_b 111) 93 = .ok (.lload_n 3, 1) := by decide +kernel
theorem si_111_94 : decode (sp_b 111) 94 = .ok (.aload_n 0, 1) := by decide +kernel
theorem si_111_95 : decode (sp_b 111) 95 = .ok (.getfield 32, 3) := by decide +kernel
theorem si_111_98 : decode (sp_b 111) 98 = .ok (.aload_n 0, 1) := by decide +kernel
theorem si_111_99 : decode (sp_b 111) 99 = .ok (.getfield 40, 3) := by decide +kernel
theorem si_111_102 : decode (sp_b 111) 102 = .ok (.invokevirtual 175, 3) := by decide +kernel
theorem sk_111_175 : sp_okL 111 175 50 475 = true := by decide +kernel
theorem si_111_105 : decode (sp_b 111) 105 = .ok (.invokestatic 179, 3) := by decide +kernel
theorem sk_111_179 : sp_okL 111 179 51 480 = true := by decide +kernel
theorem si_111_108 : decode (sp_b 111) 108 = .ok (.i2l, 1) := by decide +kernel
theorem si_111_109 : decode (sp_b 111) 109 = .ok (.lmul, 1) := by decide +kernel
theorem si_111_110 : decode (sp_b 111) 110 = .ok (.lstore_n 3, 1) := by decide +kernel
theorem si_111_111 : decode (sp_b 111) 111 = .ok (.aload_n 0, 1) := by decide +kernel
theorem si_111_112 : decode (sp_b 111) 112 = .ok (.getfield 32, 3) := by decide +kernel
theorem si_111_115 : decode (sp_b 111) 115 = .ok (.iload 6, 2) := by decide +kernel
theorem si_111_117 : decode (sp_b 111) 117 = .ok (.aload_n 0, 1) := by decide +kernel
theorem si_111_118 : decode (sp_b 111) 118 = .ok (.getfield 40, 3) := by decide +kernel
theorem si_111_121 : decode (sp_b 111) 121 = .ok (.invokevirtual 192, 3) := by decide +kernel
theorem sk_111_192 : sp_okL 111 192 55 498 = true := by decide +kernel
theorem si_111_124 : decode (sp_b 111) 124 = .ok (.iinc 5 1, 3) := by decide +kernel
theorem si_111_127 : decode (sp_b 111) 127 = .ok (.goto (-82), 3) := by decide +kernel
theorem si_111_130 : decode (sp_b 111) 130 = .ok (.aload_n 0, 1) := by decide +kernel
theorem si_111_131 : decode (sp_b 111) 131 = .ok (.lconst 1, 1) := by decide +kernel
theorem si_111_132 : decode (sp_b 111) 132 = .ok (.lload_n 3, 1) := by decide +kernel
theorem si_111_133 : decode (sp_b 111) 133 = .ok (.invokevirtual 274, 3) := by decide +kernel
theorem si_111_136 : decode (sp_b 111) 136 = .ok (.ireturn, 1) := by decide +kernel
theorem si_112_0 : decode (sp_b 112) 0 = .ok (.lload_n 1, 1) := by decide +kernel
theorem si_112_1 : decode (sp_b 112) 1 = .ok (.lload_n 3, 1) := by decide +kernel
theorem si_112_2 : decode (sp_b 112) 2 = .ok (.invokestatic 326, 3) := by decide +kernel
theorem sk_112_326 : sp_okL 112 326 113 748 = true := by decide +kernel
theorem si_112_5 : decode (sp_b 112) 5 = .ok (.lstore 5, 2) := by decide +kernel
theorem si_112_7 : decode (sp_b 112) 7 = .ok (.lload 5, 2) := by decide +kernel
theorem si_112_9 : decode (sp_b 112) 9 = .ok (.lconst 0, 1) := by decide +kernel
theorem si_112_10 : decode (sp_b 112) 10 = .ok (.lcmp, 1) := by decide +kernel
theorem si_112_11 : decode (sp_b 112) 11 = .ok (.ifCond .gt 5, 3) := by decide +kernel
theorem si_112_14 : decode (sp_b 112) 14 = .ok (.iconst 1, 1) := by decide +kernel
theorem si_112_15 : decode (sp_b 112) 15 = .ok (.ireturn, 1) := by decide +kernel
theorem si_112_16 : decode (sp_b 112) 16 = .ok (.aload_n 0, 1) := by decide +kernel
theorem si_112_17 : decode (sp_b 112) 17 = .ok (.lload_n 1, 1) := by decide +kernel
theorem si_112_18 : decode (sp_b 112) 18 = .ok (.lload 5, 2) := by decide +kernel
theorem si_112_20 : decode (sp_b 112) 20 = .ok (.ldiv, 1) := by decide +kernel
theorem si_112_21 : decode (sp_b 112) 21 = .ok (.putfield 293, 3) := by decide +kernel
theorem sf_112_293 : sp_okF 112 293 7 13 275 = true := by decide +kernel
theorem si_112_24 : decode (sp_b 112) 24 = .ok (.aload_n 0, 1) := by decide +kernel
theorem si_112_25 : decode (sp_b 112) 25 = .ok (.lload_n 3, 1) := by decide +kernel
theorem si_112_26 : decode (sp_b 112) 26 = .ok (.lload 5, 2) := by decide +kernel
theorem si_112_28 : decode (sp_b 112) 28 = .ok (.ldiv, 1) := by decide +kernel
theorem si_112_29 : decode (sp_b 112) 29 = .ok (.putfield 68, 3) := by decide +kernel
theorem sf_112_68 : sp_okF 112 68 7 14 276 = true := by decide +kernel
theorem si_112_32 : decode (sp_b 112) 32 = .ok (.iconst 1, 1) := by decide +kernel
theorem si_112_33 : decode (sp_b 112) 33 = .ok (.ireturn, 1) := by decide +kernel
theorem si_113_0 : decode (sp_b 113) 0 = .ok (.lload_n 0, 1) := by decide +kernel
theorem si_113_1 : decode (sp_b 113) 1 = .ok (.lstore 4, 2) := by decide +kernel
theorem si_113_3 : decode (sp_b 113) 3 = .ok (.lload_n 2, 1) := by decide +kernel
theorem si_113_4 : decode (sp_b 113) 4 = .ok (.lstore 6, 2) := by decide +kernel
theorem si_113_6 : decode (sp_b 113) 6 = .ok (.iconst 0, 1) := by decide +kernel
theorem si_113_7 : decode (sp_b 113) 7 = .ok (.istore 8, 2) := by decide +kernel
theorem si_113_9 : decode (sp_b 113) 9 = .ok (.iload 8, 2) := by decide +kernel
theorem si_113_11 : decode (sp_b 113) 11 = .ok (.sipush 200, 3) := by decide +kernel
theorem si_113_14 : decode (sp_b 113) 14 = .ok (.if_icmp .ge 31, 3) := by decide +kernel
theorem si_113_17 : decode (sp_b 113) 17 = .ok (.lload 6, 2) := by decide +kernel
theorem si_113_19 : decode (sp_b 113) 19 = .ok (.lconst 0, 1) := by decide +kernel
theorem si_113_20 : decode (sp_b 113) 20 = .ok (.lcmp, 1) := by decide +kernel
theorem si_113_21 : decode (sp_b 113) 21 = .ok (.ifCond .eq 24, 3) := by decide +kernel
theorem si_113_24 : decode (sp_b 113) 24 = .ok (.lload 4, 2) := by decide +kernel
theorem si_113_26 : decode (sp_b 113) 26 = .ok (.lload 6, 2) := by decide +kernel
theorem si_113_28 : decode (sp_b 113) 28 = .ok (.lrem, 1) := by decide +kernel
theorem si_113_29 : decode (sp_b 113) 29 = .ok (.lstore 9, 2) := by decide +kernel
theorem si_113_31 : decode (sp_b 113) 31 = .ok (.lload 6, 2) := by decide +kernel
theorem si_113_33 : decode (sp_b 113) 33 = .ok (.lstore 4, 2) := by decide +kernel
theorem si_113_35 : decode (sp_b 113) 35 = .ok (.lload 9, 2) := by decide +kernel
theorem si_113_37 : decode (sp_b 113) 37 = .ok (.lstore 6, 2) := by decide +kernel
theorem si_113_39 : decode (sp_b 113) 39 = .ok (.iinc 8 1, 3) := by decide +kernel
theorem si_113_42 : decode (sp_b 113) 42 = .ok (.goto (-33), 3) := by decide +kernel
theorem si_113_45 : decode (sp_b 113) 45 = .ok (.lload 4, 2) := by decide +kernel
theorem si_113_47 : decode (sp_b 113) 47 = .ok (.lreturn, 1) := by decide +kernel
theorem si_114_0 : decode (sp_b 114) 0 = .ok (.aload_n 0, 1) := by decide +kernel
theorem si_114_1 : decode (sp_b 114) 1 = .ok (.getfield 32, 3) := by decide +kernel
theorem sf_114_32 : sp_okF 114 32 7 3 265 = true := by decide +kernel
theorem si_114_4 : decode (sp_b 114) 4 = .ok (.iload_n 1, 1) := by decide +kernel
theorem si_114_5 : decode (sp_b 114) 5 = .ok (.invokevirtual 148, 3) := by decide +kernel
theorem sk_114_148 : sp_okL 114 148 43 447 = true := by decide +kernel
theorem si_114_8 : decode (sp_b 114) 8 = .ok (.ifCond .eq 12, 3) := by decide +kernel
theorem si_114_11 : decode (sp_b 114) 11 = .ok (.iload_n 2, 1) := by decide +kernel
theorem si_114_12 : decode (sp_b 114) 12 = .ok (.ifCond .lt 8, 3) := by decide +kernel
theorem si_114_15 : decode (sp_b 114) 15 = .ok (.iload_n 2, 1) := by decide +kernel
theorem si_114_16 : decode (sp_b 114) 16 = .ok (.iconst 5, 1) := by decide +kernel
theorem si_114_17 : decode (sp_b 114) 17 = .ok (.if_icmp .le 5, 3) := by decide +kernel
theorem si_114_20 : decode (sp_b 114) 20 = .ok (.iconst (-1), 1) := by decide +kernel
theorem si_114_21 : decode (sp_b 114) 21 = .ok (.ireturn, 1) := by decide +kernel
theorem si_114_22 : decode (sp_b 114) 22 = .ok (.aload_n 0, 1) := by decide +kernel
theorem si_114_23 : decode (sp_b 114) 23 = .ok (.aload_n 0, 1) := by decide +kernel
theorem si_114_24 : decode (sp_b 114) 24 = .ok (.getfield 24, 3) := by decide +kernel
theorem sf_114_24 : sp_okF 114 24 7 2 264 = true := by decide +kernel
theorem si_114_27 : decode (sp_b 114) 27 = .ok (.aload_n 0, 1) := by decide +kernel
theorem si_114_28 : decode (sp_b 114) 28 = .ok (.getfield 36, 3) := by decide +kernel
theorem sf_114_36 : sp_okF 114 36 7 4 266 = true := by decide +kernel
theorem si_114_31 : decode (sp_b 114) 31 = .ok (.iload_n 1, 1) := by decide +kernel
theorem si_114_32 : decode (sp_b 114) 32 = .ok (.iload_n 2, 1) := by decide +kernel
theorem si_114_33 : decode (sp_b 114) 33 = .ok (.invokevirtual 278, 3) := by decide +kernel
theorem sk_114_278 : sp_okL 114 278 115 755 = true := by decide +kernel
theorem si_114_36 : decode (sp_b 114) 36 = .ok (.iload_n 2, 1) := by decide +kernel
theorem si_114_37 : decode (sp_b 114) 37 = .ok (.invokestatic 282, 3) := by decide +kernel
theorem sk_114_282 : sp_okL 114 282 117 766 = true := by decide +kernel
theorem si_114_40 : decode (sp_b 114) 40 = .ok (.invokevirtual 274, 3) := by decide +kernel
theorem sk_114_274 : sp_okL 114 274 112 744 = true := by decide +kernel
theorem si_114_43 : decode (sp_b 114) 43 = .ok (.ireturn, 1) := by decide +kernel
theorem si_115_0 : decode (sp_b 115) 0 = .ok (.aload_n 0, 1) := by decide +kernel
theorem si_115_1 : decode (sp_b 115) 1 = .ok (.aload_n 1, 1) := by decide +kernel
theorem si_115_2 : decode (sp_b 115) 2 = .ok (.invokevirtual 77, 3) := by decide +kernel
theorem sk_115_77 : sp_okL 115 77 78 595 = true := by decide +kernel
theorem si_115_5 : decode (sp_b 115) 5 = .ok (.aload_n 0, 1) := by decide +kernel
theorem si_115_6 : decode (sp_b 115) 6 = .ok (.iconst 0, 1) := by decide +kernel
theorem si_115_7 : decode (sp_b 115) 7 = .ok (.iload_n 3, 1) := by decide +kernel
theorem si_115_8 : decode (sp_b 115) 8 = .ok (.iload_n 2, 1) := by decide +kernel
theorem si_115_9 : decode (sp_b 115) 9 = .ok (.invokevirtual 143, 3) := by decide +kernel
theorem sk_115_143 : sp_okL 115 143 116 759 = true := by decide +kernel
theorem si_115_12 : decode (sp_b 115) 12 = .ok (.lreturn, 1) := by decide +kernel
theorem si_116_0 : decode (sp_b 116) 0 = .ok (.iload_n 2, 1) := by decide +kernel
theorem si_116_1 : decode (sp_b 116) 1 = .ok (.ifCond .ne 26, 3) := by decide +kernel
theorem si_116_4 : decode (sp_b 116) 4 = .ok (.aload_n 0, 1) := by decide +kernel
theorem si_116_5 : decode (sp_b 116) 5 = .ok (.getfield 12, 3) := by decide +kernel
theorem sf_116_12 : sp_okF 116 12 4 0 188 = true := by decide +kernel
theorem si_116_8 : decode (sp_b 116) 8 = .ok (.iload_n 3, 1) := by decide +kernel
theorem si_116_9 : decode (sp_b 116) 9 = .ok (.aload_n 0, 1) := by decide +kernel
theorem si_116_10 : decode (sp_b 116) 10 = .ok (.getfield 20, 3) := by decide +kernel
theorem sf_116_20 : sp_okF 116 20 4 1 190 = true := by decide +kernel
theorem si_116_13 : decode (sp_b 116) 13 = .ok (.iload_n 1, 1) := by decide +kernel
theorem si_116_14 : decode (sp_b 116) 14 = .ok (.aaload, 1) := by decide +kernel
theorem si_116_15 : decode (sp_b 116) 15 = .ok (.invokevirtual 69, 3) := by decide +kernel
theorem sk_116_69 : sp_okL 116 69 45 646 = true := by decide +kernel
theorem si_116_18 : decode (sp_b 116) 18 = .ok (.ifCond .eq 7, 3) := by decide +kernel
theorem si_116_21 : decode (sp_b 116) 21 = .ok (.lconst 1, 1) := by decide +kernel
theorem si_116_22 : decode (sp_b 116) 22 = .ok (.goto 4, 3) := by decide +kernel
theorem si_116_25 : decode (sp_b 116) 25 = .ok (.lconst 0, 1) := by decide +kernel
theorem si_116_26 : decode (sp_b 116) 26 = .ok (.lreturn, 1) := by decide +kernel
theorem si_116_27 : decode (sp_b 116) 27 = .ok (.aload_n 0, 1) := by decide +kernel
theorem si_116_28 : decode (sp_b 116) 28 = .ok (.getfield 12, 3) := by decide +kernel
theorem si_116_31 : decode (sp_b 116) 31 = .ok (.aload_n 0, 1) := by decide +kernel
theorem si_116_32 : decode (sp_b 116) 32 = .ok (.getfield 20, 3) := by decide +kernel
theorem si_116_35 : decode (sp_b 116) 35 = .ok (.iload_n 1, 1) := by decide +kernel
theorem si_116_36 : decode (sp_b 116) 36 = .ok (.aaload, 1) := by decide +kernel
theorem si_116_37 : decode (sp_b 116) 37 = .ok (.invokevirtual 147, 3) := by decide +kernel
theorem sk_116_147 : sp_okL 116 147 50 763 = true := by decide +kernel
theorem si_116_40 : decode (sp_b 116) 40 = .ok (.invokestatic 151, 3) := by decide +kernel
theorem sk_116_151 : sp_okL 116 151 51 764 = true := by decide +kernel
theorem si_116_43 : decode (sp_b 116) 43 = .ok (.istore 4, 2) := by decide +kernel
theorem si_116_45 : decode (sp_b 116) 45 = .ok (.iload 4, 2) := by decide +kernel
theorem si_116_47 : decode (sp_b 116) 47 = .ok (.ifCond .ne 5, 3) := by decide +kernel
theorem si_116_50 : decode (sp_b 116) 50 = .ok (.lconst 0, 1) := by decide +kernel
theorem si_116_51 : decode (sp_b 116) 51 = .ok (.lreturn, 1) := by decide +kernel
theorem si_116_52 : decode (sp_b 116) 52 = .ok (.lconst 0, 1) := by decide +kernel
theorem si_116_53 : decode (sp_b 116) 53 = .ok (.lstore 5, 2) := by decide +kernel
theorem si_116_55 : decode (sp_b 116) 55 = .ok (.iconst 0, 1) := by decide +kernel
theorem si_116_56 : decode (sp_b 116) 56 = .ok (.istore 7, 2) := by decide +kernel
theorem si_116_58 : decode (sp_b 116) 58 = .ok (.iload 7, 2) := by decide +kernel
theorem si_116_60 : decode (sp_b 116) 60 = .ok (.aload_n 0, 1) := by decide +kernel
theorem si_116_61 : decode (sp_b 116) 61 = .ok (.getfield 12, 3) := by decide +kernel
theorem si_116_64 : decode (sp_b 116) 64 = .ok (.getfield 96, 3) := by decide +kernel
theorem sf_116_96 : sp_okF 116 96 0 3 129 = true := by decide +kernel
theorem si_116_67 : decode (sp_b 116) 67 = .ok (.if_icmp .ge 35, 3) := by decide +kernel
theorem si_116_70 : decode (sp_b 116) 70 = .ok (.aload_n 0, 1) := by decide +kernel
theorem si_116_71 : decode (sp_b 116) 71 = .ok (.iload_n 1, 1) := by decide +kernel
theorem si_116_72 : decode (sp_b 116) 72 = .ok (.iload 7, 2) := by decide +kernel
theorem si_116_74 : decode (sp_b 116) 74 = .ok (.invokevirtual 107, 3) := by decide +kernel
theorem sk_116_107 : sp_okL 116 107 88 642 = true := by decide +kernel
theorem si_116_77 : decode (sp_b 116) 77 = .ok (.ifCond .eq 19, 3) := by decide +kernel
theorem si_116_80 : decode (sp_b 116) 80 = .ok (.lload 5, 2) := by decide +kernel
theorem si_116_82 : decode (sp_b 116) 82 = .ok (.aload_n 0, 1) := by decide +kernel
theorem si_116_83 : decode (sp_b 116) 83 = .ok (.iload_n 1, 1) := by decide +kernel
theorem si_116_84 : decode (sp_b 116) 84 = .ok (.iconst 1, 1) := by decide +kernel
theorem si_116_85 : decode (sp_b 116) 85 = .ok (.iadd, 1) := by decide +kernel
theorem si_116_86 : decode (sp_b 116) 86 = .ok (.iload_n 2, 1) := by decide +kernel
theorem si_116_87 : decode (sp_b 116) 87 = .ok (.iconst 1, 1) := by decide +kernel
theorem si_116_88 : decode (sp_b 116) 88 = .ok (.isub, 1) := by decide +kernel
theorem si_116_89 : decode (sp_b 116) 89 = .ok (.iload_n 3, 1) := by decide +kernel
theorem si_116_90 : decode (sp_b 116) 90 = .ok (.invokevirtual 143, 3) := by decide +kernel
theorem sk_116_143 : sp_okL 116 143 116 759 = true := by decide +kernel
theorem si_116_93 : decode (sp_b 116) 93 = .ok (.ladd, 1) := by decide +kernel
theorem si_116_94 : decode (sp_b 116) 94 = .ok (.lstore 5, 2) := by decide +kernel
theorem si_116_96 : decode (sp_b 116) 96 = .ok (.iinc 7 1, 3) := by decide +kernel
theorem si_116_99 : decode (sp_b 116) 99 = .ok (.goto (-41), 3) := by decide +kernel
theorem si_116_102 : decode (sp_b 116) 102 = .ok (.lload 5, 2) := by decide +kernel
theorem si_116_104 : decode (sp_b 116) 104 = .ok (.ldc2_w 141, 3) := by decide +kernel
theorem sc_116_141 : sp_okCL 116 141 765 (60) = true := by decide +kernel
theorem si_116_107 : decode (sp_b 116) 107 = .ok (.iload 4, 2) := by decide +kernel
theorem si_116_109 : decode (sp_b 116) 109 = .ok (.i2l, 1) := by decide +kernel
theorem si_116_110 : decode (sp_b 116) 110 = .ok (.ldiv, 1) := by decide +kernel
theorem si_116_111 : decode (sp_b 116) 111 = .ok (.lmul, 1) := by decide +kernel
theorem si_116_112 : decode (sp_b 116) 112 = .ok (.lreturn, 1) := by decide +kernel
theorem si_117_0 : decode (sp_b 117) 0 = .ok (.lconst 1, 1) := by decide +kernel
theorem si_117_1 : decode (sp_b 117) 1 = .ok (.lstore_n 1, 1) := by decide +kernel
theorem si_117_2 : decode (sp_b 117) 2 = .ok (.iconst 0, 1) := by decide +kernel
theorem si_117_3 : decode (sp_b 117) 3 = .ok (.istore_n 3, 1) := by decide +kernel
theorem si_117_4 : decode (sp_b 117) 4 = .ok (.iload_n 3, 1) := by decide +kernel
theorem si_117_5 : decode (sp_b 117) 5 = .ok (.iload_n 0, 1) := by decide +kernel
theorem si_117_6 : decode (sp_b 117) 6 = .ok (.if_icmp .ge 15, 3) := by decide +kernel
theorem si_117_9 : decode (sp_b 117) 9 = .ok (.lload_n 1, 1) := by decide +kernel
theorem si_117_10 : decode (sp_b 117) 10 = .ok (.ldc2_w 141, 3) := by decide +kernel
theorem sc_117_141 : sp_okCL 117 141 765 (60) = true := by decide +kernel
theorem si_117_13 : decode (sp_b 117) 13 = .ok (.lmul, 1) := by decide +kernel
theorem si_117_14 : decode (sp_b 117) 14 = .ok (.lstore_n 1, 1) := by decide +kernel
theorem si_117_15 : decode (sp_b 117) 15 = .ok (.iinc 3 1, 3) := by decide +kernel
theorem si_117_18 : decode (sp_b 117) 18 = .ok (.goto (-14), 3) := by decide +kernel
theorem si_117_21 : decode (sp_b 117) 21 = .ok (.lload_n 1, 1) := by decide +kernel
theorem si_117_22 : decode (sp_b 117) 22 = .ok (.lreturn, 1) := by decide +kernel
theorem si_118_0 : decode (sp_b 118) 0 = .ok (.iload_n 1, 1) := by decide +kernel
theorem si_118_1 : decode (sp_b 118) 1 = .ok (.iconst 1, 1) := by decide +kernel
theorem si_118_2 : decode (sp_b 118) 2 = .ok (.if_icmp .lt 23, 3) := by decide +kernel
theorem si_118_5 : decode (sp_b 118) 5 = .ok (.iload_n 1, 1) := by decide +kernel
theorem si_118_6 : decode (sp_b 118) 6 = .ok (.bipush 60, 2) := by decide +kernel
theorem si_118_8 : decode (sp_b 118) 8 = .ok (.if_icmp .gt 17, 3) := by decide +kernel
theorem si_118_11 : decode (sp_b 118) 11 = .ok (.iload_n 2, 1) := by decide +kernel
theorem si_118_12 : decode (sp_b 118) 12 = .ok (.iconst 1, 1) := by decide +kernel
theorem si_118_13 : decode (sp_b 118) 13 = .ok (.if_icmp .lt 12, 3) := by decide +kernel
theorem si_118_16 : decode (sp_b 118) 16 = .ok (.iload_n 2, 1) := by decide +kernel
theorem si_118_17 : decode (sp_b 118) 17 = .ok (.i2l, 1) := by decide +kernel
theorem si_118_18 : decode (sp_b 118) 18 = .ok (.ldc2_w 286, 3) := by decide +kernel
theorem sc_118_286 : sp_okCL 118 286 773 (2147483647) = true := by decide +kernel
theorem si_118_21 : decode (sp_b 118) 21 = .ok (.lcmp, 1) := by decide +kernel
theorem si_118_22 : decode (sp_b 118) 22 = .ok (.ifCond .lt 5, 3) := by decide +kernel
theorem si_118_25 : decode (sp_b 118) 25 = .ok (.iconst (-1), 1) := by decide +kernel
theorem si_118_26 : decode (sp_b 118) 26 = .ok (.ireturn, 1) := by decide +kernel
theorem si_118_27 : decode (sp_b 118) 27 = .ok (.aload_n 0, 1) := by decide +kernel
theorem si_118_28 : decode (sp_b 118) 28 = .ok (.getfield 32, 3) := by decide +kernel
theorem sf_118_32 : sp_okF 118 32 7 3 265 = true := by decide +kernel
theorem si_118_31 : decode (sp_b 118) 31 = .ok (.getfield 145, 3) := by decide +kernel
theorem sf_118_145 : sp_okF 118 145 0 3 130 = true := by decide +kernel
theorem si_118_34 : decode (sp_b 118) 34 = .ok (.ifCond .ne 6, 3) := by decide +kernel
theorem si_118_37 : decode (sp_b 118) 37 = .ok (.bipush (-4), 2) := by decide +kernel
theorem si_118_39 : decode (sp_b 118) 39 = .ok (.ireturn, 1) := by decide +kernel
theorem si_118_40 : decode (sp_b 118) 40 = .ok (.aload_n 0, 1) := by decide +kernel
theorem si_118_41 : decode (sp_b 118) 41 = .ok (.getfield 49, 3) := by decide +kernel
theorem sf_118_49 : sp_okF 118 49 7 7 269 = true := by decide +kernel
theorem si_118_44 : decode (sp_b 118) 44 = .ok (.iload_n 1, 1) := by decide +kernel
theorem si_118_45 : decode (sp_b 118) 45 = .ok (.invokevirtual 189, 3) := by decide +kernel
theorem sk_118_189 : sp_okL 118 189 54 494 = true := by decide +kernel
theorem si_118_48 : decode (sp_b 118) 48 = .ok (.ifCond .eq 6, 3) := by decide +kernel
theorem si_118_51 : decode (sp_b 118) 51 = .ok (.bipush (-2), 2) := by decide +kernel
theorem si_118_53 : decode (sp_b 118) 53 = .ok (.ireturn, 1) := by decide +kernel
theorem si_118_54 : decode (sp_b 118) 54 = .ok (.iload_n 2, 1) := by decide +kernel
theorem si_118_55 : decode (sp_b 118) 55 = .ok (.i2l, 1) := by decide +kernel
theorem si_118_56 : decode (sp_b 118) 56 = .ok (.lstore_n 3, 1) := by decide +kernel
theorem si_118_57 : decode (sp_b 118) 57 = .ok (.iconst 0, 1) := by decide +kernel
theorem si_118_58 : decode (sp_b 118) 58 = .ok (.istore 5, 2) := by decide +kernel
theorem si_118_60 : decode (sp_b 118) 60 = .ok (.iload 5, 2) := by decide +kernel
theorem si_118_62 : decode (sp_b 118) 62 = .ok (.iload_n 1, 1) := by decide +kernel
theorem si_118_63 : decode (sp_b 118) 63 = .ok (.if_icmp .ge 80, 3) := by decide +kernel
theorem si_118_66 : decode (sp_b 118) 66 = .ok (.aload_n 0, 1) := by decide +kernel
theorem si_118_67 : decode (sp_b 118) 67 = .ok (.getfield 32, 3) := by decide +kernel
theorem si_118_70 : decode (sp_b 118) 70 = .ok (.aload_n 0, 1) := by decide +kernel
theorem si_118_71 : decode (sp_b 118) 71 = .ok (.getfield 36, 3) := by decide +kernel
theorem sf_118_36 : sp_okF 118 36 7 4 266 = true := by decide +kernel
theorem si_118_74 : decode (sp_b 118) 74 = .ok (.invokevirtual 175, 3) := by decide +kernel
theorem sk_118_175 : sp_okL 118 175 50 475 = true := by decide +kernel
theorem si_118_77 : decode (sp_b 118) 77 = .ok (.istore 6, 2) := by decide +kernel
theorem si_118_79 : decode (sp_b 118) 79 = .ok (.iload 6, 2) := by decide +kernel
theorem si_118_81 : decode (sp_b 118) 81 = .ok (.invokestatic 179, 3) := by decide +kernel
theorem sk_118_179 : sp_okL 118 179 51 480 = true := by decide +kernel
theorem si_118_84 : decode (sp_b 118) 84 = .ok (.istore 7, 2) := by decide +kernel
theorem si_118_86 : decode (sp_b 118) 86 = .ok (.iload 7, 2) := by decide +kernel
theorem si_118_88 : decode (sp_b 118) 88 = .ok (.ifCond .ne 6, 3) := by decide +kernel
theorem si_118_91 : decode (sp_b 118) 91 = .ok (.iload 5, 2) := by decide +kernel
theorem si_118_93 : decode (sp_b 118) 93 = .ok (.ireturn, 1) := by decide +kernel
theorem si_118_94 : decode (sp_b 118) 94 = .ok (.lload_n 3, 1) := by decide +kernel
theorem si_118_95 : decode (sp_b 118) 95 = .ok (.ldc2_w 288, 3) := by decide +kernel
theorem sc_118_288 : sp_okCL 118 288 774 (48271) = true := by decide +kernel
theorem si_118_98 : decode (sp_b 118) 98 = .ok (.lmul, 1) := by decide +kernel
theorem si_118_99 : decode (sp_b 118) 99 = .ok (.ldc2_w 286, 3) := by decide +kernel
theorem si_118_102 : decode (sp_b 118) 102 = .ok (.lrem, 1) := by decide +kernel
theorem si_118_103 : decode (sp_b 118) 103 = .ok (.lstore_n 3, 1) := by decide +kernel
theorem si_118_104 : decode (sp_b 118) 104 = .ok (.aload_n 0, 1) := by decide +kernel
theorem si_118_105 : decode (sp_b 118) 105 = .ok (.getfield 32, 3) := by decide +kernel
theorem si_118_108 : decode (sp_b 118) 108 = .ok (.iload 6, 2) := by decide +kernel
theorem si_118_110 : decode (sp_b 118) 110 = .ok (.lload_n 3, 1) := by decide +kernel
theorem si_118_111 : decode (sp_b 118) 111 = .ok (.iload 7, 2) := by decide +kernel
theorem si_118_113 : decode (sp_b 118) 113 = .ok (.i2l, 1) := by decide +kernel
theorem si_118_114 : decode (sp_b 118) 114 = .ok (.lrem, 1) := by decide +kernel
theorem si_118_115 : decode (sp_b 118) 115 = .ok (.l2i, 1) := by decide +kernel
theorem si_118_116 : decode (sp_b 118) 116 = .ok (.invokestatic 290, 3) := by decide +kernel
theorem sk_118_290 : sp_okL 118 290 119 775 = true := by decide +kernel
theorem si_118_119 : decode (sp_b 118) 119 = .ok (.aload_n 0, 1) := by decide +kernel
theorem si_118_120 : decode (sp_b 118) 120 = .ok (.getfield 36, 3) := by decide +kernel
theorem si_118_123 : decode (sp_b 118) 123 = .ok (.invokevirtual 192, 3) := by decide +kernel
theorem sk_118_192 : sp_okL 118 192 55 498 = true := by decide +kernel
theorem si_118_126 : decode (sp_b 118) 126 = .ok (.aload_n 0, 1) := by decide +kernel
theorem si_118_127 : decode (sp_b 118) 127 = .ok (.getfield 49, 3) := by decide +kernel
theorem si_118_130 : decode (sp_b 118) 130 = .ok (.aload_n 0, 1) := by decide +kernel
theorem si_118_131 : decode (sp_b 118) 131 = .ok (.getfield 36, 3) := by decide +kernel
theorem si_118_134 : decode (sp_b 118) 134 = .ok (.invokevirtual 196, 3) := by decide +kernel
theorem sk_118_196 : sp_okL 118 196 58 511 = true := by decide +kernel
theorem si_118_137 : decode (sp_b 118) 137 = .ok (.iinc 5 1, 3) := by decide +kernel
theorem si_118_140 : decode (sp_b 118) 140 = .ok (.goto (-80), 3) := by decide +kernel
theorem si_118_143 : decode (sp_b 118) 143 = .ok (.iload_n 1, 1) := by decide +kernel
theorem si_118_144 : decode (sp_b 118) 144 = .ok (.ireturn, 1) := by decide +kernel
theorem si_119_0 : decode (sp_b 119) 0 = .ok (.iload_n 1, 1) := by decide +kernel
theorem si_119_1 : decode (sp_b 119) 1 = .ok (.istore_n 2, 1) := by decide +kernel
theorem si_119_2 : decode (sp_b 119) 2 = .ok (.iconst 0, 1) := by decide +kernel
theorem si_119_3 : decode (sp_b 119) 3 = .ok (.istore_n 3, 1) := by decide +kernel
theorem si_119_4 : decode (sp_b 119) 4 = .ok (.iload_n 3, 1) := by decide +kernel
theorem si_119_5 : decode (sp_b 119) 5 = .ok (.bipush 6, 2) := by decide +kernel
theorem si_119_7 : decode (sp_b 119) 7 = .ok (.if_icmp .ge 27, 3) := by decide +kernel
theorem si_119_10 : decode (sp_b 119) 10 = .ok (.iload_n 0, 1) := by decide +kernel
theorem si_119_11 : decode (sp_b 119) 11 = .ok (.iload_n 3, 1) := by decide +kernel
theorem si_119_12 : decode (sp_b 119) 12 = .ok (.ishr, 1) := by decide +kernel
theorem si_119_13 : decode (sp_b 119) 13 = .ok (.iconst 1, 1) := by decide +kernel
theorem si_119_14 : decode (sp_b 119) 14 = .ok (.iand, 1) := by decide +kernel
theorem si_119_15 : decode (sp_b 119) 15 = .ok (.iconst 1, 1) := by decide +kernel
theorem si_119_16 : decode (sp_b 119) 16 = .ok (.if_icmp .ne 12, 3) := by decide +kernel
theorem si_119_19 : decode (sp_b 119) 19 = .ok (.iload_n 2, 1) := by decide +kernel
theorem si_119_20 : decode (sp_b 119) 20 = .ok (.ifCond .ne 5, 3) := by decide +kernel
theorem si_119_23 : decode (sp_b 119) 23 = .ok (.iload_n 3, 1) := by decide +kernel
theorem si_119_24 : decode (sp_b 119) 24 = .ok (.ireturn, 1) := by decide +kernel
theorem si_119_25 : decode (sp_b 119) 25 = .ok (.iinc 2 (-1), 3) := by decide +kernel
theorem si_119_28 : decode (sp_b 119) 28 = .ok (.iinc 3 1, 3) := by decide +kernel
theorem si_119_31 : decode (sp_b 119) 31 = .ok (.goto (-27), 3) := by decide +kernel
theorem si_119_34 : decode (sp_b 119) 34 = .ok (.iconst 0, 1) := by decide +kernel
theorem si_119_35 : decode (sp_b 119) 35 = .ok (.ireturn, 1) := by decide +kernel
theorem si_120_0 : decode (sp_b 120) 0 = .ok (.aload_n 0, 1) := by decide +kernel
theorem si_120_1 : decode (sp_b 120) 1 = .ok (.getfield 92, 3) := by decide +kernel
theorem sf_120_92 : sp_okF 120 92 7 12 274 = true := by decide +kernel
theorem si_120_4 : decode (sp_b 120) 4 = .ok (.ireturn, 1) := by decide +kernel
