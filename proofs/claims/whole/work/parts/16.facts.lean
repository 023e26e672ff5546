theorem si_224_0 : decode (sp_b 224) 0 = .ok (.aload_n 0, 1) := by decide +kernel
theorem si_224_1 : decode (sp_b 224) 1 = .ok (.ldc2_w 300, 3) := by decide +kernel
theorem sc_224_300 : sp_okCL 224 300 1310 (17) = true := by decide +kernel
theorem si_224_4 : decode (sp_b 224) 4 = .ok (.putfield 291, 3) := by decide +kernel
theorem sf_224_291 : sp_okF 224 291 8 35 871 = true := by decide +kernel
theorem si_224_7 : decode (sp_b 224) 7 = .ok (.iconst 0, 1) := by decide +kernel
theorem si_224_8 : decode (sp_b 224) 8 = .ok (.istore_n 1, 1) := by decide +kernel
theorem si_224_9 : decode (sp_b 224) 9 = .ok (.iload_n 1, 1) := by decide +kernel
theorem si_224_10 : decode (sp_b 224) 10 = .ok (.bipush 9, 2) := by decide +kernel
theorem si_224_12 : decode (sp_b 224) 12 = .ok (.if_icmp .ge 19, 3) := by decide +kernel
theorem si_224_15 : decode (sp_b 224) 15 = .ok (.aload_n 0, 1) := by decide +kernel
theorem si_224_16 : decode (sp_b 224) 16 = .ok (.aload_n 0, 1) := by decide +kernel
theorem si_224_17 : decode (sp_b 224) 17 = .ok (.iload_n 1, 1) := by decide +kernel
theorem si_224_18 : decode (sp_b 224) 18 = .ok (.invokevirtual 286, 3) := by decide +kernel
theorem sk_224_286 : sp_okL 224 286 223 1302 = true := by decide +kernel
theorem si_224_21 : decode (sp_b 224) 21 = .ok (.i2l, 1) := by decide +kernel
theorem si_224_22 : decode (sp_b 224) 22 = .ok (.invokevirtual 294, 3) := by decide +kernel
theorem sk_224_294 : sp_okL 224 294 225 1311 = true := by decide +kernel
theorem si_224_25 : decode (sp_b 224) 25 = .ok (.iinc 1 1, 3) := by decide +kernel
theorem si_224_28 : decode (sp_b 224) 28 = .ok (.goto (-19), 3) := by decide +kernel
theorem si_224_31 : decode (sp_b 224) 31 = .ok (.aload_n 0, 1) := by decide +kernel
theorem si_224_32 : decode (sp_b 224) 32 = .ok (.invokevirtual 302, 3) := by decide +kernel
theorem sk_224_302 : sp_okL 224 302 226 1316 = true := by decide +kernel
theorem si_224_35 : decode (sp_b 224) 35 = .ok (.iconst 0, 1) := by decide +kernel
theorem si_224_36 : decode (sp_b 224) 36 = .ok (.istore_n 1, 1) := by decide +kernel
theorem si_224_37 : decode (sp_b 224) 37 = .ok (.iload_n 1, 1) := by decide +kernel
theorem si_224_38 : decode (sp_b 224) 38 = .ok (.bipush 6, 2) := by decide +kernel
theorem si_224_40 : decode (sp_b 224) 40 = .ok (.if_icmp .ge 49, 3) := by decide +kernel
theorem si_224_43 : decode (sp_b 224) 43 = .ok (.aload_n 0, 1) := by decide +kernel
theorem si_224_44 : decode (sp_b 224) 44 = .ok (.aload_n 0, 1) := by decide +kernel
theorem si_224_45 : decode (sp_b 224) 45 = .ok (.getfield 17, 3) := by decide +kernel
theorem sf_224_17 : sp_okF 224 17 8 5 841 = true := by decide +kernel
theorem si_224_48 : decode (sp_b 224) 48 = .ok (.iload_n 1, 1) := by decide +kernel
theorem si_224_49 : decode (sp_b 224) 49 = .ok (.iaload, 1) := by decide +kernel
theorem si_224_50 : decode (sp_b 224) 50 = .ok (.i2l, 1) := by decide +kernel
theorem si_224_51 : decode (sp_b 224) 51 = .ok (.invokevirtual 294, 3) := by decide +kernel
theorem si_224_54 : decode (sp_b 224) 54 = .ok (.iconst 0, 1) := by decide +kernel
theorem si_224_55 : decode (sp_b 224) 55 = .ok (.istore_n 2, 1) := by decide +kernel
theorem si_224_56 : decode (sp_b 224) 56 = .ok (.iload_n 2, 1) := by decide +kernel
theorem si_224_57 : decode (sp_b 224) 57 = .ok (.aload_n 0, 1) := by decide +kernel
theorem si_224_58 : decode (sp_b 224) 58 = .ok (.getfield 17, 3) := by decide +kernel
theorem si_224_61 : decode (sp_b 224) 61 = .ok (.iload_n 1, 1) := by decide +kernel
theorem si_224_62 : decode (sp_b 224) 62 = .ok (.iaload, 1) := by decide +kernel
theorem si_224_63 : decode (sp_b 224) 63 = .ok (.if_icmp .ge 20, 3) := by decide +kernel
theorem si_224_66 : decode (sp_b 224) 66 = .ok (.aload_n 0, 1) := by decide +kernel
theorem si_224_67 : decode (sp_b 224) 67 = .ok (.aload_n 0, 1) := by decide +kernel
theorem si_224_68 : decode (sp_b 224) 68 = .ok (.iload_n 1, 1) := by decide +kernel
theorem si_224_69 : decode (sp_b 224) 69 = .ok (.iload_n 2, 1) := by decide +kernel
theorem si_224_70 : decode (sp_b 224) 70 = .ok (.invokevirtual 101, 3) := by decide +kernel
theorem sk_224_101 : sp_okL 224 101 143 985 = true := by decide +kernel
theorem si_224_73 : decode (sp_b 224) 73 = .ok (.i2l, 1) := by decide +kernel
theorem si_224_74 : decode (sp_b 224) 74 = .ok (.invokevirtual 294, 3) := by decide +kernel
theorem si_224_77 : decode (sp_b 224) 77 = .ok (.iinc 2 1, 3) := by decide +kernel
theorem si_224_80 : decode (sp_b 224) 80 = .ok (.goto (-24), 3) := by decide +kernel
theorem si_224_83 : decode (sp_b 224) 83 = .ok (.iinc 1 1, 3) := by decide +kernel
theorem si_224_86 : decode (sp_b 224) 86 = .ok (.goto (-49), 3) := by decide +kernel
theorem si_224_89 : decode (sp_b 224) 89 = .ok (.iconst 0, 1) := by decide +kernel
theorem si_224_90 : decode (sp_b 224) 90 = .ok (.istore_n 1, 1) := by decide +kernel
theorem si_224_91 : decode (sp_b 224) 91 = .ok (.iload_n 1, 1) := by decide +kernel
theorem si_224_92 : decode (sp_b 224) 92 = .ok (.iconst 4, 1) := by decide +kernel
theorem si_224_93 : decode (sp_b 224) 93 = .ok (.if_icmp .ge 49, 3) := by decide +kernel
theorem si_224_96 : decode (sp_b 224) 96 = .ok (.aload_n 0, 1) := by decide +kernel
theorem si_224_97 : decode (sp_b 224) 97 = .ok (.aload_n 0, 1) := by decide +kernel
theorem si_224_98 : decode (sp_b 224) 98 = .ok (.getfield 26, 3) := by decide +kernel
theorem sf_224_26 : sp_okF 224 26 8 8 844 = true := by decide +kernel
theorem si_224_101 : decode (sp_b 224) 101 = .ok (.iload_n 1, 1) := by decide +kernel
theorem si_224_102 : decode (sp_b 224) 102 = .ok (.iaload, 1) := by decide +kernel
theorem si_224_103 : decode (sp_b 224) 103 = .ok (.i2l, 1) := by decide +kernel
theorem si_224_104 : decode (sp_b 224) 104 = .ok (.invokevirtual 294, 3) := by decide +kernel
theorem si_224_107 : decode (sp_b 224) 107 = .ok (.iconst 0, 1) := by decide +kernel
theorem si_224_108 : decode (sp_b 224) 108 = .ok (.istore_n 2, 1) := by decide +kernel
theorem si_224_109 : decode (sp_b 224) 109 = .ok (.iload_n 2, 1) := by decide +kernel
theorem si_224_110 : decode (sp_b 224) 110 = .ok (.aload_n 0, 1) := by decide +kernel
theorem si_224_111 : decode (sp_b 224) 111 = .ok (.getfield 26, 3) := by decide +kernel
theorem si_224_114 : decode (sp_b 224) 114 = .ok (.iload_n 1, 1) := by decide +kernel
theorem si_224_115 : decode (sp_b 224) 115 = .ok (.iaload, 1) := by decide +kernel
theorem si_224_116 : decode (sp_b 224) 116 = .ok (.if_icmp .ge 20, 3) := by decide +kernel
theorem si_224_119 : decode (sp_b 224) 119 = .ok (.aload_n 0, 1) := by decide +kernel
theorem si_224_120 : decode (sp_b 224) 120 = .ok (.aload_n 0, 1) := by decide +kernel
theorem si_224_121 : decode (sp_b 224) 121 = .ok (.iload_n 1, 1) := by decide +kernel
theorem si_224_122 : decode (sp_b 224) 122 = .ok (.iload_n 2, 1) := by decide +kernel
theorem si_224_123 : decode (sp_b 224) 123 = .ok (.invokevirtual 114, 3) := by decide +kernel
theorem sk_224_114 : sp_okL 224 114 154 1028 = true := by decide +kernel
theorem si_224_126 : decode (sp_b 224) 126 = .ok (.i2l, 1) := by decide +kernel
theorem si_224_127 : decode (sp_b 224) 127 = .ok (.invokevirtual 294, 3) := by decide +kernel
theorem si_224_130 : decode (sp_b 224) 130 = .ok (.iinc 2 1, 3) := by decide +kernel
theorem si_224_133 : decode (sp_b 224) 133 = .ok (.goto (-24), 3) := by decide +kernel
theorem si_224_136 : decode (sp_b 224) 136 = .ok (.iinc 1 1, 3) := by decide +kernel
theorem si_224_139 : decode (sp_b 224) 139 = .ok (.goto (-48), 3) := by decide +kernel
theorem si_224_142 : decode (sp_b 224) 142 = .ok (.aload_n 0, 1) := by decide +kernel
theorem si_224_143 : decode (sp_b 224) 143 = .ok (.getfield 291, 3) := by decide +kernel
theorem si_224_146 : decode (sp_b 224) 146 = .ok (.lreturn, 1) := by decide +kernel
theorem si_225_0 : decode (sp_b 225) 0 = .ok (.aload_n 0, 1) := by decide +kernel
theorem si_225_1 : decode (sp_b 225) 1 = .ok (.ldc2_w 289, 3) := by decide +kernel
theorem sc_225_289 : sp_okCL 225 289 1315 (31) = true := by decide +kernel
theorem si_225_4 : decode (sp_b 225) 4 = .ok (.aload_n 0, 1) := by decide +kernel
theorem si_225_5 : decode (sp_b 225) 5 = .ok (.getfield 291, 3) := by decide +kernel
theorem sf_225_291 : sp_okF 225 291 8 35 871 = true := by decide +kernel
theorem si_225_8 : decode (sp_b 225) 8 = .ok (.lmul, 1) := by decide +kernel
theorem si_225_9 : decode (sp_b 225) 9 = .ok (.lload_n 1, 1) := by decide +kernel
theorem si_225_10 : decode (sp_b 225) 10 = .ok (.ladd, 1) := by decide +kernel
theorem si_225_11 : decode (sp_b 225) 11 = .ok (.putfield 291, 3) := by decide +kernel
theorem si_225_14 : decode (sp_b 225) 14 = .ok (.return_, 1) := by decide +kernel
theorem si_226_0 : decode (sp_b 226) 0 = .ok (.aload_n 0, 1) := by decide +kernel
theorem si_226_1 : decode (sp_b 226) 1 = .ok (.aload_n 0, 1) := by decide +kernel
theorem si_226_2 : decode (sp_b 226) 2 = .ok (.getfield 76, 3) := by decide +kernel
theorem sf_226_76 : sp_okF 226 76 8 10 846 = true := by decide +kernel
theorem si_226_5 : decode (sp_b 226) 5 = .ok (.i2l, 1) := by decide +kernel
theorem si_226_6 : decode (sp_b 226) 6 = .ok (.invokevirtual 294, 3) := by decide +kernel
theorem sk_226_294 : sp_okL 226 294 225 1311 = true := by decide +kernel
theorem si_226_9 : decode (sp_b 226) 9 = .ok (.iconst 0, 1) := by decide +kernel
theorem si_226_10 : decode (sp_b 226) 10 = .ok (.istore_n 1, 1) := by decide +kernel
theorem si_226_11 : decode (sp_b 226) 11 = .ok (.iload_n 1, 1) := by decide +kernel
theorem si_226_12 : decode (sp_b 226) 12 = .ok (.aload_n 0, 1) := by decide +kernel
theorem si_226_13 : decode (sp_b 226) 13 = .ok (.getfield 142, 3) := by decide +kernel
theorem sf_226_142 : sp_okF 226 142 8 11 847 = true := by decide +kernel
theorem si_226_16 : decode (sp_b 226) 16 = .ok (.if_icmp .ge 33, 3) := by decide +kernel
theorem si_226_19 : decode (sp_b 226) 19 = .ok (.iconst 0, 1) := by decide +kernel
theorem si_226_20 : decode (sp_b 226) 20 = .ok (.istore_n 2, 1) := by decide +kernel
theorem si_226_21 : decode (sp_b 226) 21 = .ok (.iload_n 2, 1) := by decide +kernel
theorem si_226_22 : decode (sp_b 226) 22 = .ok (.iconst 5, 1) := by decide +kernel
theorem si_226_23 : decode (sp_b 226) 23 = .ok (.if_icmp .ge 20, 3) := by decide +kernel
theorem si_226_26 : decode (sp_b 226) 26 = .ok (.aload_n 0, 1) := by decide +kernel
theorem si_226_27 : decode (sp_b 226) 27 = .ok (.aload_n 0, 1) := by decide +kernel
theorem si_226_28 : decode (sp_b 226) 28 = .ok (.iload_n 1, 1) := by decide +kernel
theorem si_226_29 : decode (sp_b 226) 29 = .ok (.iload_n 2, 1) := by decide +kernel
theorem si_226_30 : decode (sp_b 226) 30 = .ok (.invokevirtual 177, 3) := by decide +kernel
theorem sk_226_177 : sp_okL 226 177 163 1063 = true := by decide +kernel
theorem si_226_33 : decode (sp_b 226) 33 = .ok (.i2l, 1) := by decide +kernel
theorem si_226_34 : decode (sp_b 226) 34 = .ok (.invokevirtual 294, 3) := by decide +kernel
theorem si_226_37 : decode (sp_b 226) 37 = .ok (.iinc 2 1, 3) := by decide +kernel
theorem si_226_40 : decode (sp_b 226) 40 = .ok (.goto (-19), 3) := by decide +kernel
theorem si_226_43 : decode (sp_b 226) 43 = .ok (.iinc 1 1, 3) := by decide +kernel
theorem si_226_46 : decode (sp_b 226) 46 = .ok (.goto (-35), 3) := by decide +kernel
theorem si_226_49 : decode (sp_b 226) 49 = .ok (.iconst 0, 1) := by decide +kernel
theorem si_226_50 : decode (sp_b 226) 50 = .ok (.istore_n 1, 1) := by decide +kernel
theorem si_226_51 : decode (sp_b 226) 51 = .ok (.iload_n 1, 1) := by decide +kernel
theorem si_226_52 : decode (sp_b 226) 52 = .ok (.iconst 3, 1) := by decide +kernel
theorem si_226_53 : decode (sp_b 226) 53 = .ok (.if_icmp .ge 35, 3) := by decide +kernel
theorem si_226_56 : decode (sp_b 226) 56 = .ok (.aload_n 0, 1) := by decide +kernel
theorem si_226_57 : decode (sp_b 226) 57 = .ok (.aload_n 0, 1) := by decide +kernel
theorem si_226_58 : decode (sp_b 226) 58 = .ok (.getfield 51, 3) := by decide +kernel
theorem sf_226_51 : sp_okF 226 51 8 23 859 = true := by decide +kernel
theorem si_226_61 : decode (sp_b 226) 61 = .ok (.iload_n 1, 1) := by decide +kernel
theorem si_226_62 : decode (sp_b 226) 62 = .ok (.baload, 1) := by decide +kernel
theorem si_226_63 : decode (sp_b 226) 63 = .ok (.ifCond .eq 13, 3) := by decide +kernel
theorem si_226_66 : decode (sp_b 226) 66 = .ok (.aload_n 0, 1) := by decide +kernel
theorem si_226_67 : decode (sp_b 226) 67 = .ok (.getfield 55, 3) := by decide +kernel
theorem sf_226_55 : sp_okF 226 55 8 24 860 = true := by decide +kernel
theorem si_226_70 : decode (sp_b 226) 70 = .ok (.iload_n 1, 1) := by decide +kernel
theorem si_226_71 : decode (sp_b 226) 71 = .ok (.iaload, 1) := by decide +kernel
theorem si_226_72 : decode (sp_b 226) 72 = .ok (.i2l, 1) := by decide +kernel
theorem si_226_73 : decode (sp_b 226) 73 = .ok (.goto 6, 3) := by decide +kernel
theorem si_226_76 : decode (sp_b 226) 76 = .ok (.ldc2_w 298, 3) := by decide +kernel
theorem sc_226_298 : sp_okCL 226 298 1320 (-1) = true := by decide +kernel
theorem si_226_79 : decode (sp_b 226) 79 = .ok (.invokevirtual 294, 3) := by decide +kernel
theorem si_226_82 : decode (sp_b 226) 82 = .ok (.iinc 1 1, 3) := by decide +kernel
theorem si_226_85 : decode (sp_b 226) 85 = .ok (.goto (-34), 3) := by decide +kernel
theorem si_226_88 : decode (sp_b 226) 88 = .ok (.return_, 1) := by decide +kernel
theorem ss_3 : sp_okS 3 2 97 96 68 = true := by decide +kernel
theorem sv_11 : sp_okV 11 1 315 313 314 67 = true := by decide +kernel
theorem sv_12 : sp_okV 12 1 319 318 0 66 = true := by decide +kernel
theorem sv_13 : sp_okV 13 3 323 321 322 67 = true := by decide +kernel
theorem ss_15 : sp_okS 15 3 330 329 66 = true := by decide +kernel
theorem sv_16 : sp_okV 16 1 334 332 333 67 = true := by decide +kernel
theorem sv_17 : sp_okV 17 3 338 336 337 67 = true := by decide +kernel
theorem sv_18 : sp_okV 18 2 342 340 341 67 = true := by decide +kernel
theorem sv_19 : sp_okV 19 3 346 344 345 67 = true := by decide +kernel
theorem sv_22 : sp_okV 22 1 358 356 357 67 = true := by decide +kernel
theorem sv_24 : sp_okV 24 5 366 364 365 67 = true := by decide +kernel
theorem sv_26 : sp_okV 26 1 377 375 376 67 = true := by decide +kernel
theorem sv_30 : sp_okV 30 2 393 391 392 74 = true := by decide +kernel
theorem sv_31 : sp_okV 31 0 398 396 397 72 = true := by decide +kernel
theorem ss_32 : sp_okS 32 3 402 401 74 = true := by decide +kernel
theorem ss_33 : sp_okS 33 3 406 405 74 = true := by decide +kernel
theorem sv_34 : sp_okV 34 3 410 409 1 74 = true := by decide +kernel
theorem sv_35 : sp_okV 35 4 414 413 2 74 = true := by decide +kernel
theorem ss_36 : sp_okS 36 1 417 416 74 = true := by decide +kernel
theorem sv_38 : sp_okV 38 1 427 425 426 70 = true := by decide +kernel
theorem sv_39 : sp_okV 39 1 432 430 431 72 = true := by decide +kernel
theorem sv_40 : sp_okV 40 2 437 435 436 73 = true := by decide +kernel
theorem sv_41 : sp_okV 41 1 441 440 3 73 = true := by decide +kernel
theorem sv_43 : sp_okV 43 1 450 448 449 70 = true := by decide +kernel
theorem sv_44 : sp_okV 44 2 454 453 4 66 = true := by decide +kernel
theorem sv_45 : sp_okV 45 2 458 456 457 70 = true := by decide +kernel
theorem sv_47 : sp_okV 47 2 466 464 465 70 = true := by decide +kernel
theorem sv_50 : sp_okV 50 1 478 476 477 70 = true := by decide +kernel
theorem ss_51 : sp_okS 51 1 482 481 78 = true := by decide +kernel
theorem sv_54 : sp_okV 54 1 497 495 496 73 = true := by decide +kernel
theorem sv_55 : sp_okV 55 2 501 499 500 70 = true := by decide +kernel
theorem sv_56 : sp_okV 56 4 505 503 504 72 = true := by decide +kernel
theorem sv_57 : sp_okV 57 0 510 508 509 72 = true := by decide +kernel
theorem sv_58 : sp_okV 58 1 514 512 513 73 = true := by decide +kernel
theorem sv_60 : sp_okV 60 2 523 521 522 72 = true := by decide +kernel
theorem sv_62 : sp_okV 62 1 531 529 530 72 = true := by decide +kernel
theorem sv_63 : sp_okV 63 1 535 533 534 72 = true := by decide +kernel
theorem sv_65 : sp_okV 65 2 543 541 542 72 = true := by decide +kernel
theorem sv_67 : sp_okV 67 1 551 549 550 73 = true := by decide +kernel
theorem sv_70 : sp_okV 70 1 563 561 562 73 = true := by decide +kernel
theorem sv_73 : sp_okV 73 1 575 574 5 66 = true := by decide +kernel
theorem sv_74 : sp_okV 74 3 579 577 578 70 = true := by decide +kernel
theorem sv_77 : sp_okV 77 4 594 592 593 69 = true := by decide +kernel
theorem sv_78 : sp_okV 78 1 598 597 6 69 = true := by decide +kernel
theorem sv_79 : sp_okV 79 6 603 602 7 69 = true := by decide +kernel
theorem sv_80 : sp_okV 80 1 610 609 8 69 = true := by decide +kernel
theorem sv_81 : sp_okV 81 2 615 613 614 69 = true := by decide +kernel
theorem sv_82 : sp_okV 82 0 619 618 9 69 = true := by decide +kernel
theorem sv_86 : sp_okV 86 1 637 635 636 69 = true := by decide +kernel
theorem sv_87 : sp_okV 87 2 641 640 10 69 = true := by decide +kernel
theorem sv_88 : sp_okV 88 2 645 644 11 69 = true := by decide +kernel
theorem sv_90 : sp_okV 90 2 655 653 654 69 = true := by decide +kernel
theorem sv_91 : sp_okV 91 0 659 657 658 70 = true := by decide +kernel
theorem sv_92 : sp_okV 92 2 664 663 12 69 = true := by decide +kernel
theorem sv_94 : sp_okV 94 2 672 670 671 69 = true := by decide +kernel
theorem sv_95 : sp_okV 95 0 676 674 675 71 = true := by decide +kernel
theorem ss_96 : sp_okS 96 2 680 679 68 = true := by decide +kernel
theorem sv_97 : sp_okV 97 2 684 683 13 69 = true := by decide +kernel
theorem sv_98 : sp_okV 98 1 688 686 687 71 = true := by decide +kernel
theorem sv_99 : sp_okV 99 0 693 691 692 69 = true := by decide +kernel
theorem sv_101 : sp_okV 101 1 701 700 14 66 = true := by decide +kernel
theorem sv_102 : sp_okV 102 3 706 704 705 69 = true := by decide +kernel
theorem sv_103 : sp_okV 103 3 710 709 15 69 = true := by decide +kernel
theorem sv_104 : sp_okV 104 2 714 712 713 72 = true := by decide +kernel
theorem sv_106 : sp_okV 106 1 722 721 16 66 = true := by decide +kernel
theorem sv_107 : sp_okV 107 1 726 725 17 66 = true := by decide +kernel
theorem sv_108 : sp_okV 108 0 730 728 729 70 = true := by decide +kernel
theorem sv_109 : sp_okV 109 1 734 732 733 70 = true := by decide +kernel
theorem sv_112 : sp_okV 112 2 747 746 18 66 = true := by decide +kernel
theorem ss_113 : sp_okS 113 2 750 749 66 = true := by decide +kernel
theorem sv_115 : sp_okV 115 3 758 756 757 69 = true := by decide +kernel
theorem sv_116 : sp_okV 116 3 762 761 19 69 = true := by decide +kernel
theorem ss_117 : sp_okS 117 1 768 767 69 = true := by decide +kernel
theorem ss_119 : sp_okS 119 2 777 776 66 = true := by decide +kernel
theorem sv_124 : sp_okV 124 1 797 796 20 66 = true := by decide +kernel
theorem sv_125 : sp_okV 125 1 801 799 800 70 = true := by decide +kernel
theorem sv_126 : sp_okV 126 0 806 804 805 67 = true := by decide +kernel
theorem sv_127 : sp_okV 127 0 810 809 21 66 = true := by decide +kernel
theorem sv_131 : sp_okV 131 1 828 826 827 67 = true := by decide +kernel
theorem ss_135 : sp_okS 135 3 957 956 75 = true := by decide +kernel
theorem ss_140 : sp_okS 140 1 976 975 75 = true := by decide +kernel
theorem sv_141 : sp_okV 141 1 980 979 22 75 = true := by decide +kernel
theorem sv_143 : sp_okV 143 2 988 987 23 75 = true := by decide +kernel
theorem sv_144 : sp_okV 144 2 992 991 24 75 = true := by decide +kernel
theorem ss_150 : sp_okS 150 1 1015 1014 75 = true := by decide +kernel
theorem sv_153 : sp_okV 153 1 1027 1026 25 75 = true := by decide +kernel
theorem sv_154 : sp_okV 154 2 1031 1030 26 75 = true := by decide +kernel
theorem sv_155 : sp_okV 155 1 1035 1034 27 75 = true := by decide +kernel
theorem sv_156 : sp_okV 156 2 1039 1038 28 75 = true := by decide +kernel
theorem sv_157 : sp_okV 157 1 1043 1042 29 75 = true := by decide +kernel
theorem ss_158 : sp_okS 158 1 1046 1045 75 = true := by decide +kernel
theorem sv_160 : sp_okV 160 3 1054 1053 30 75 = true := by decide +kernel
theorem sv_162 : sp_okV 162 1 1062 1061 31 75 = true := by decide +kernel
theorem sv_163 : sp_okV 163 2 1066 1065 32 75 = true := by decide +kernel
theorem sv_164 : sp_okV 164 2 1070 1069 33 75 = true := by decide +kernel
theorem sv_165 : sp_okV 165 2 1074 1073 34 75 = true := by decide +kernel
theorem ss_167 : sp_okS 167 2 1081 1080 75 = true := by decide +kernel
theorem ss_168 : sp_okS 168 2 1084 1083 75 = true := by decide +kernel
theorem sv_169 : sp_okV 169 1 1088 1087 35 75 = true := by decide +kernel
theorem sv_170 : sp_okV 170 1 1092 1091 36 75 = true := by decide +kernel
theorem ss_171 : sp_okS 171 1 1095 1094 75 = true := by decide +kernel
theorem sv_174 : sp_okV 174 0 1107 1106 37 75 = true := by decide +kernel
theorem sv_175 : sp_okV 175 2 1111 1110 38 75 = true := by decide +kernel
theorem sv_176 : sp_okV 176 1 1115 1114 39 75 = true := by decide +kernel
theorem sv_177 : sp_okV 177 4 1119 1118 40 75 = true := by decide +kernel
theorem sv_178 : sp_okV 178 3 1123 1122 41 75 = true := by decide +kernel
theorem sv_180 : sp_okV 180 0 1131 1130 42 75 = true := by decide +kernel
theorem sv_181 : sp_okV 181 2 1135 1134 43 75 = true := by decide +kernel
theorem sv_183 : sp_okV 183 2 1143 1142 44 75 = true := by decide +kernel
theorem sv_190 : sp_okV 190 1 1171 1170 45 75 = true := by decide +kernel
theorem sv_191 : sp_okV 191 1 1175 1174 46 75 = true := by decide +kernel
theorem sv_192 : sp_okV 192 2 1179 1178 47 75 = true := by decide +kernel
theorem sv_193 : sp_okV 193 2 1183 1182 48 75 = true := by decide +kernel
theorem sv_196 : sp_okV 196 3 1195 1194 49 75 = true := by decide +kernel
theorem sv_197 : sp_okV 197 3 1199 1198 50 75 = true := by decide +kernel
theorem sv_201 : sp_okV 201 2 1215 1214 51 75 = true := by decide +kernel
theorem sv_202 : sp_okV 202 1 1219 1218 52 75 = true := by decide +kernel
theorem ss_203 : sp_okS 203 2 1222 1221 75 = true := by decide +kernel
theorem sv_205 : sp_okV 205 2 1230 1229 53 75 = true := by decide +kernel
theorem sv_207 : sp_okV 207 2 1238 1237 54 75 = true := by decide +kernel
theorem sv_208 : sp_okV 208 1 1242 1241 55 75 = true := by decide +kernel
theorem sv_210 : sp_okV 210 2 1250 1249 56 75 = true := by decide +kernel
theorem sv_211 : sp_okV 211 1 1254 1253 57 75 = true := by decide +kernel
theorem sv_213 : sp_okV 213 1 1262 1261 58 75 = true := by decide +kernel
theorem sv_214 : sp_okV 214 1 1266 1265 59 75 = true := by decide +kernel
theorem ss_215 : sp_okS 215 2 1269 1268 75 = true := by decide +kernel
theorem sv_218 : sp_okV 218 2 1281 1280 60 75 = true := by decide +kernel
theorem sv_220 : sp_okV 220 4 1290 1289 61 75 = true := by decide +kernel
theorem sv_223 : sp_okV 223 1 1305 1304 62 75 = true := by decide +kernel
theorem sv_225 : sp_okV 225 1 1314 1313 63 75 = true := by decide +kernel
theorem sv_226 : sp_okV 226 0 1319 1318 64 75 = true := by decide +kernel
theorem sn_1 : sp_has 369 (.native arraycopyName) = true := by decide +kernel
theorem sn_2 : sp_has 368 (.static arraycopyName) = true := by decide +kernel
theorem sn_3 : sp_has 76 (.initialized "java/lang/System") = true := by decide +kernel
