theorem dX10_mark_38 : decode cX10_mark 38 = .ok (.ifCond .ne 7, 3) := by decide +kernel
theorem dX10_mark_41 : decode cX10_mark 41 = .ok (.ldc_w 317, 3) := by decide +kernel
theorem dX10_mark_44 : decode cX10_mark 44 = .ok (.ireturn, 1) := by decide +kernel
theorem dX10_mark_45 : decode cX10_mark 45 = .ok (.aload_n 0, 1) := by decide +kernel
theorem dX10_mark_46 : decode cX10_mark 46 = .ok (.getfield 19, 3) := by decide +kernel
theorem dX10_mark_49 : decode cX10_mark 49 = .ok (.iload_n 1, 1) := by decide +kernel
theorem dX10_mark_50 : decode cX10_mark 50 = .ok (.iaload, 1) := by decide +kernel
theorem dX10_mark_51 : decode cX10_mark 51 = .ok (.ifCond .ne 12, 3) := by decide +kernel
theorem dX10_mark_54 : decode cX10_mark 54 = .ok (.iload_n 3, 1) := by decide +kernel
theorem dX10_mark_55 : decode cX10_mark 55 = .ok (.ldc 70, 2) := by decide +kernel
theorem dX10_mark_57 : decode cX10_mark 57 = .ok (.if_icmp .ne 6, 3) := by decide +kernel
theorem dX10_mark_60 : decode cX10_mark 60 = .ok (.ldc 135, 2) := by decide +kernel
theorem dX10_mark_62 : decode cX10_mark 62 = .ok (.ireturn, 1) := by decide +kernel
theorem dX10_mark_63 : decode cX10_mark 63 = .ok (.aload_n 0, 1) := by decide +kernel
theorem dX10_mark_64 : decode cX10_mark 64 = .ok (.getfield 19, 3) := by decide +kernel
theorem dX10_mark_67 : decode cX10_mark 67 = .ok (.iload_n 1, 1) := by decide +kernel
theorem dX10_mark_68 : decode cX10_mark 68 = .ok (.iaload, 1) := by decide +kernel
theorem dX10_mark_69 : decode cX10_mark 69 = .ok (.iconst 1, 1) := by decide +kernel
theorem dX10_mark_70 : decode cX10_mark 70 = .ok (.if_icmp .ne 26, 3) := by decide +kernel
theorem dX10_mark_73 : decode cX10_mark 73 = .ok (.iload_n 3, 1) := by decide +kernel
theorem dX10_mark_74 : decode cX10_mark 74 = .ok (.ldc 70, 2) := by decide +kernel
theorem dX10_mark_76 : decode cX10_mark 76 = .ok (.if_icmp .eq 20, 3) := by decide +kernel
theorem dX10_mark_79 : decode cX10_mark 79 = .ok (.iload_n 3, 1) := by decide +kernel
theorem dX10_mark_80 : decode cX10_mark 80 = .ok (.i2l, 1) := by decide +kernel
theorem dX10_mark_81 : decode cX10_mark 81 = .ok (.ldc2_w 318, 3) := by decide +kernel
theorem dX10_mark_84 : decode cX10_mark 84 = .ok (.ldc2_w 320, 3) := by decide +kernel
theorem dX10_mark_87 : decode cX10_mark 87 = .ok (.invokestatic 71, 3) := by decide +kernel
theorem dX10_mark_90 : decode cX10_mark 90 = .ok (.ifCond .ne 6, 3) := by decide +kernel
theorem dX10_mark_93 : decode cX10_mark 93 = .ok (.ldc 93, 2) := by decide +kernel
theorem dX10_mark_95 : decode cX10_mark 95 = .ok (.ireturn, 1) := by decide +kernel
theorem dX10_mark_96 : decode cX10_mark 96 = .ok (.aload_n 0, 1) := by decide +kernel
theorem dX10_mark_97 : decode cX10_mark 97 = .ok (.getfield 25, 3) := by decide +kernel
theorem dX10_mark_100 : decode cX10_mark 100 = .ok (.bipush 24, 2) := by decide +kernel
theorem dX10_mark_102 : decode cX10_mark 102 = .ok (.iload_n 1, 1) := by decide +kernel
theorem dX10_mark_103 : decode cX10_mark 103 = .ok (.imul, 1) := by decide +kernel
theorem dX10_mark_104 : decode cX10_mark 104 = .ok (.iload_n 2, 1) := by decide +kernel
theorem dX10_mark_105 : decode cX10_mark 105 = .ok (.iadd, 1) := by decide +kernel
theorem dX10_mark_106 : decode cX10_mark 106 = .ok (.aload_n 0, 1) := by decide +kernel
theorem dX10_mark_107 : decode cX10_mark 107 = .ok (.getfield 19, 3) := by decide +kernel
theorem dX10_mark_110 : decode cX10_mark 110 = .ok (.iload_n 1, 1) := by decide +kernel
theorem dX10_mark_111 : decode cX10_mark 111 = .ok (.iaload, 1) := by decide +kernel
theorem dX10_mark_112 : decode cX10_mark 112 = .ok (.ifCond .ne 13, 3) := by decide +kernel
theorem dX10_mark_115 : decode cX10_mark 115 = .ok (.iload_n 3, 1) := by decide +kernel
theorem dX10_mark_116 : decode cX10_mark 116 = .ok (.bipush 16, 2) := by decide +kernel
theorem dX10_mark_118 : decode cX10_mark 118 = .ok (.ishl, 1) := by decide +kernel
theorem dX10_mark_119 : decode cX10_mark 119 = .ok (.bipush 16, 2) := by decide +kernel
theorem dX10_mark_121 : decode cX10_mark 121 = .ok (.ishr, 1) := by decide +kernel
theorem dX10_mark_122 : decode cX10_mark 122 = .ok (.goto 4, 3) := by decide +kernel
theorem dX10_mark_125 : decode cX10_mark 125 = .ok (.iload_n 3, 1) := by decide +kernel
theorem dX10_mark_126 : decode cX10_mark 126 = .ok (.iastore, 1) := by decide +kernel
theorem dX10_mark_127 : decode cX10_mark 127 = .ok (.iconst 1, 1) := by decide +kernel
theorem dX10_mark_128 : decode cX10_mark 128 = .ok (.ireturn, 1) := by decide +kernel
theorem dX10_pour_0 : decode cX10_pour 0 = .ok (.iload_n 1, 1) := by decide +kernel
theorem dX10_pour_1 : decode cX10_pour 1 = .ok (.invokestatic 310, 3) := by decide +kernel
theorem dX10_pour_4 : decode cX10_pour 4 = .ok (.ifCond .ne 6, 3) := by decide +kernel
theorem dX10_pour_7 : decode cX10_pour 7 = .ok (.ldc 93, 2) := by decide +kernel
theorem dX10_pour_9 : decode cX10_pour 9 = .ok (.ireturn, 1) := by decide +kernel
theorem dX10_pour_10 : decode cX10_pour 10 = .ok (.aload_n 0, 1) := by decide +kernel
theorem dX10_pour_11 : decode cX10_pour 11 = .ok (.getfield 19, 3) := by decide +kernel
theorem dX10_pour_14 : decode cX10_pour 14 = .ok (.iload_n 1, 1) := by decide +kernel
theorem dX10_pour_15 : decode cX10_pour 15 = .ok (.iaload, 1) := by decide +kernel
theorem dX10_pour_16 : decode cX10_pour 16 = .ok (.ifCond .ge 7, 3) := by decide +kernel
theorem dX10_pour_19 : decode cX10_pour 19 = .ok (.ldc_w 316, 3) := by decide +kernel
theorem dX10_pour_22 : decode cX10_pour 22 = .ok (.ireturn, 1) := by decide +kernel
theorem dX10_pour_23 : decode cX10_pour 23 = .ok (.iconst 0, 1) := by decide +kernel
theorem dX10_pour_24 : decode cX10_pour 24 = .ok (.istore_n 2, 1) := by decide +kernel
theorem dX10_pour_25 : decode cX10_pour 25 = .ok (.iconst 0, 1) := by decide +kernel
theorem dX10_pour_26 : decode cX10_pour 26 = .ok (.istore_n 3, 1) := by decide +kernel
theorem dX10_pour_27 : decode cX10_pour 27 = .ok (.iload_n 3, 1) := by decide +kernel
theorem dX10_pour_28 : decode cX10_pour 28 = .ok (.aload_n 0, 1) := by decide +kernel
theorem dX10_pour_29 : decode cX10_pour 29 = .ok (.getfield 22, 3) := by decide +kernel
theorem dX10_pour_32 : decode cX10_pour 32 = .ok (.iload_n 1, 1) := by decide +kernel
theorem dX10_pour_33 : decode cX10_pour 33 = .ok (.iaload, 1) := by decide +kernel
theorem dX10_pour_34 : decode cX10_pour 34 = .ok (.if_icmp .ge 91, 3) := by decide +kernel
theorem dX10_pour_37 : decode cX10_pour 37 = .ok (.iload_n 3, 1) := by decide +kernel
theorem dX10_pour_38 : decode cX10_pour 38 = .ok (.aload_n 0, 1) := by decide +kernel
theorem dX10_pour_39 : decode cX10_pour 39 = .ok (.getfield 7, 3) := by decide +kernel
theorem dX10_pour_42 : decode cX10_pour 42 = .ok (.iconst 0, 1) := by decide +kernel
theorem dX10_pour_43 : decode cX10_pour 43 = .ok (.iaload, 1) := by decide +kernel
theorem dX10_pour_44 : decode cX10_pour 44 = .ok (.if_icmp .ge 81, 3) := by decide +kernel
theorem dX10_pour_47 : decode cX10_pour 47 = .ok (.aload_n 0, 1) := by decide +kernel
theorem dX10_pour_48 : decode cX10_pour 48 = .ok (.getfield 25, 3) := by decide +kernel
theorem dX10_pour_51 : decode cX10_pour 51 = .ok (.bipush 24, 2) := by decide +kernel
theorem dX10_pour_53 : decode cX10_pour 53 = .ok (.iload_n 1, 1) := by decide +kernel
theorem dX10_pour_54 : decode cX10_pour 54 = .ok (.imul, 1) := by decide +kernel
theorem dX10_pour_55 : decode cX10_pour 55 = .ok (.iload_n 3, 1) := by decide +kernel
theorem dX10_pour_56 : decode cX10_pour 56 = .ok (.iadd, 1) := by decide +kernel
theorem dX10_pour_57 : decode cX10_pour 57 = .ok (.iaload, 1) := by decide +kernel
theorem dX10_pour_58 : decode cX10_pour 58 = .ok (.istore 4, 2) := by decide +kernel
theorem dX10_pour_60 : decode cX10_pour 60 = .ok (.iload 4, 2) := by decide +kernel
theorem dX10_pour_62 : decode cX10_pour 62 = .ok (.ldc 70, 2) := by decide +kernel
theorem dX10_pour_64 : decode cX10_pour 64 = .ok (.if_icmp .ne 19, 3) := by decide +kernel
theorem dX10_pour_67 : decode cX10_pour 67 = .ok (.aload_n 0, 1) := by decide +kernel
theorem dX10_pour_68 : decode cX10_pour 68 = .ok (.getfield 7, 3) := by decide +kernel
theorem dX10_pour_71 : decode cX10_pour 71 = .ok (.bipush 10, 2) := by decide +kernel
theorem dX10_pour_73 : decode cX10_pour 73 = .ok (.iconst 5, 1) := by decide +kernel
theorem dX10_pour_74 : decode cX10_pour 74 = .ok (.iload_n 3, 1) := by decide +kernel
theorem dX10_pour_75 : decode cX10_pour 75 = .ok (.imul, 1) := by decide +kernel
theorem dX10_pour_76 : decode cX10_pour 76 = .ok (.iadd, 1) := by decide +kernel
theorem dX10_pour_77 : decode cX10_pour 77 = .ok (.iconst 2, 1) := by decide +kernel
theorem dX10_pour_78 : decode cX10_pour 78 = .ok (.iadd, 1) := by decide +kernel
theorem dX10_pour_79 : decode cX10_pour 79 = .ok (.iaload, 1) := by decide +kernel
theorem dX10_pour_80 : decode cX10_pour 80 = .ok (.goto 10, 3) := by decide +kernel
theorem dX10_pour_83 : decode cX10_pour 83 = .ok (.iload 4, 2) := by decide +kernel
theorem dX10_pour_85 : decode cX10_pour 85 = .ok (.bipush 99, 2) := by decide +kernel
theorem dX10_pour_87 : decode cX10_pour 87 = .ok (.invokestatic 106, 3) := by decide +kernel
theorem dX10_pour_90 : decode cX10_pour 90 = .ok (.istore 5, 2) := by decide +kernel
theorem dX10_pour_92 : decode cX10_pour 92 = .ok (.iload_n 2, 1) := by decide +kernel
theorem dX10_pour_93 : decode cX10_pour 93 = .ok (.iload 5, 2) := by decide +kernel
theorem dX10_pour_95 : decode cX10_pour 95 = .ok (.aload_n 0, 1) := by decide +kernel
theorem dX10_pour_96 : decode cX10_pour 96 = .ok (.bipush 10, 2) := by decide +kernel
theorem dX10_pour_98 : decode cX10_pour 98 = .ok (.iconst 5, 1) := by decide +kernel
theorem dX10_pour_99 : decode cX10_pour 99 = .ok (.iload_n 3, 1) := by decide +kernel
theorem dX10_pour_100 : decode cX10_pour 100 = .ok (.imul, 1) := by decide +kernel
theorem dX10_pour_101 : decode cX10_pour 101 = .ok (.iadd, 1) := by decide +kernel
theorem dX10_pour_102 : decode cX10_pour 102 = .ok (.iconst 2, 1) := by decide +kernel
theorem dX10_pour_103 : decode cX10_pour 103 = .ok (.iadd, 1) := by decide +kernel
theorem dX10_pour_104 : decode cX10_pour 104 = .ok (.iload 5, 2) := by decide +kernel
theorem dX10_pour_106 : decode cX10_pour 106 = .ok (.invokevirtual 136, 3) := by decide +kernel
theorem dX10_pour_109 : decode cX10_pour 109 = .ok (.if_icmp .ne 7, 3) := by decide +kernel
theorem dX10_pour_112 : decode cX10_pour 112 = .ok (.iconst 0, 1) := by decide +kernel
theorem dX10_pour_113 : decode cX10_pour 113 = .ok (.goto 4, 3) := by decide +kernel
theorem dX10_pour_116 : decode cX10_pour 116 = .ok (.iconst 1, 1) := by decide +kernel
theorem dX10_pour_117 : decode cX10_pour 117 = .ok (.iadd, 1) := by decide +kernel
theorem dX10_pour_118 : decode cX10_pour 118 = .ok (.istore_n 2, 1) := by decide +kernel
theorem dX10_pour_119 : decode cX10_pour 119 = .ok (.iinc 3 1, 3) := by decide +kernel
theorem dX10_pour_122 : decode cX10_pour 122 = .ok (.goto (-95), 3) := by decide +kernel
theorem dX10_pour_125 : decode cX10_pour 125 = .ok (.iload_n 2, 1) := by decide +kernel
theorem dX10_pour_126 : decode cX10_pour 126 = .ok (.ireturn, 1) := by decide +kernel
theorem dX10_reads_0 : decode cX10_reads 0 = .ok (.iload_n 1, 1) := by decide +kernel
theorem dX10_reads_1 : decode cX10_reads 1 = .ok (.invokestatic 310, 3) := by decide +kernel
theorem dX10_reads_4 : decode cX10_reads 4 = .ok (.ifCond .ne 6, 3) := by decide +kernel
theorem dX10_reads_7 : decode cX10_reads 7 = .ok (.ldc 93, 2) := by decide +kernel
theorem dX10_reads_9 : decode cX10_reads 9 = .ok (.ireturn, 1) := by decide +kernel
theorem dX10_reads_10 : decode cX10_reads 10 = .ok (.aload_n 0, 1) := by decide +kernel
theorem dX10_reads_11 : decode cX10_reads 11 = .ok (.getfield 19, 3) := by decide +kernel
theorem dX10_reads_14 : decode cX10_reads 14 = .ok (.iload_n 1, 1) := by decide +kernel
theorem dX10_reads_15 : decode cX10_reads 15 = .ok (.iaload, 1) := by decide +kernel
theorem dX10_reads_16 : decode cX10_reads 16 = .ok (.ifCond .ge 7, 3) := by decide +kernel
theorem dX10_reads_19 : decode cX10_reads 19 = .ok (.ldc_w 316, 3) := by decide +kernel
theorem dX10_reads_22 : decode cX10_reads 22 = .ok (.ireturn, 1) := by decide +kernel
theorem dX10_reads_23 : decode cX10_reads 23 = .ok (.iconst 0, 1) := by decide +kernel
theorem dX10_reads_24 : decode cX10_reads 24 = .ok (.istore_n 2, 1) := by decide +kernel
theorem dX10_reads_25 : decode cX10_reads 25 = .ok (.iload_n 2, 1) := by decide +kernel
theorem dX10_reads_26 : decode cX10_reads 26 = .ok (.aload_n 0, 1) := by decide +kernel
theorem dX10_reads_27 : decode cX10_reads 27 = .ok (.getfield 22, 3) := by decide +kernel
theorem dX10_reads_30 : decode cX10_reads 30 = .ok (.iload_n 1, 1) := by decide +kernel
theorem dX10_reads_31 : decode cX10_reads 31 = .ok (.iaload, 1) := by decide +kernel
theorem dX10_reads_32 : decode cX10_reads 32 = .ok (.if_icmp .ge 49, 3) := by decide +kernel
theorem dX10_reads_35 : decode cX10_reads 35 = .ok (.aload_n 0, 1) := by decide +kernel
theorem dX10_reads_36 : decode cX10_reads 36 = .ok (.getfield 25, 3) := by decide +kernel
theorem dX10_reads_39 : decode cX10_reads 39 = .ok (.bipush 24, 2) := by decide +kernel
theorem dX10_reads_41 : decode cX10_reads 41 = .ok (.iload_n 1, 1) := by decide +kernel
theorem dX10_reads_42 : decode cX10_reads 42 = .ok (.imul, 1) := by decide +kernel
theorem dX10_reads_43 : decode cX10_reads 43 = .ok (.iload_n 2, 1) := by decide +kernel
theorem dX10_reads_44 : decode cX10_reads 44 = .ok (.iadd, 1) := by decide +kernel
theorem dX10_reads_45 : decode cX10_reads 45 = .ok (.iaload, 1) := by decide +kernel
theorem dX10_reads_46 : decode cX10_reads 46 = .ok (.istore_n 3, 1) := by decide +kernel
theorem dX10_reads_47 : decode cX10_reads 47 = .ok (.iload_n 3, 1) := by decide +kernel
theorem dX10_reads_48 : decode cX10_reads 48 = .ok (.ldc 70, 2) := by decide +kernel
theorem dX10_reads_50 : decode cX10_reads 50 = .ok (.if_icmp .eq 25, 3) := by decide +kernel
theorem dX10_reads_53 : decode cX10_reads 53 = .ok (.iload_n 2, 1) := by decide +kernel
theorem dX10_reads_54 : decode cX10_reads 54 = .ok (.aload_n 0, 1) := by decide +kernel
theorem dX10_reads_55 : decode cX10_reads 55 = .ok (.getfield 7, 3) := by decide +kernel
theorem dX10_reads_58 : decode cX10_reads 58 = .ok (.iconst 0, 1) := by decide +kernel
theorem dX10_reads_59 : decode cX10_reads 59 = .ok (.iaload, 1) := by decide +kernel
theorem dX10_reads_60 : decode cX10_reads 60 = .ok (.if_icmp .ge 13, 3) := by decide +kernel
theorem dX10_reads_63 : decode cX10_reads 63 = .ok (.iload_n 3, 1) := by decide +kernel
theorem dX10_reads_64 : decode cX10_reads 64 = .ok (.aload_n 0, 1) := by decide +kernel
theorem dX10_reads_65 : decode cX10_reads 65 = .ok (.iload_n 2, 1) := by decide +kernel
theorem dX10_reads_66 : decode cX10_reads 66 = .ok (.iconst 1, 1) := by decide +kernel
theorem dX10_reads_67 : decode cX10_reads 67 = .ok (.invokevirtual 114, 3) := by decide +kernel
theorem dX10_reads_70 : decode cX10_reads 70 = .ok (.if_icmp .eq 5, 3) := by decide +kernel
theorem dX10_reads_73 : decode cX10_reads 73 = .ok (.iload_n 2, 1) := by decide +kernel
theorem dX10_reads_74 : decode cX10_reads 74 = .ok (.ireturn, 1) := by decide +kernel
theorem dX10_reads_75 : decode cX10_reads 75 = .ok (.iinc 2 1, 3) := by decide +kernel
theorem dX10_reads_78 : decode cX10_reads 78 = .ok (.goto (-53), 3) := by decide +kernel
theorem dX10_reads_81 : decode cX10_reads 81 = .ok (.ldc 70, 2) := by decide +kernel
theorem dX10_reads_83 : decode cX10_reads 83 = .ok (.ireturn, 1) := by decide +kernel
theorem dX10_likeOnes_0 : decode cX10_likeOnes 0 = .ok (.aload_n 0, 1) := by decide +kernel
theorem dX10_likeOnes_1 : decode cX10_likeOnes 1 = .ok (.invokevirtual 200, 3) := by decide +kernel
theorem dX10_likeOnes_4 : decode cX10_likeOnes 4 = .ok (.iconst 0, 1) := by decide +kernel
theorem dX10_likeOnes_5 : decode cX10_likeOnes 5 = .ok (.istore_n 3, 1) := by decide +kernel
theorem dX10_likeOnes_6 : decode cX10_likeOnes 6 = .ok (.iconst 0, 1) := by decide +kernel
theorem dX10_likeOnes_7 : decode cX10_likeOnes 7 = .ok (.istore 4, 2) := by decide +kernel
theorem dX10_likeOnes_9 : decode cX10_likeOnes 9 = .ok (.iload 4, 2) := by decide +kernel
theorem dX10_likeOnes_11 : decode cX10_likeOnes 11 = .ok (.aload_n 0, 1) := by decide +kernel
theorem dX10_likeOnes_12 : decode cX10_likeOnes 12 = .ok (.getfield 22, 3) := by decide +kernel
theorem dX10_likeOnes_15 : decode cX10_likeOnes 15 = .ok (.iload_n 1, 1) := by decide +kernel
theorem dX10_likeOnes_16 : decode cX10_likeOnes 16 = .ok (.iaload, 1) := by decide +kernel
theorem dX10_likeOnes_17 : decode cX10_likeOnes 17 = .ok (.if_icmp .ge 53, 3) := by decide +kernel
theorem dX10_likeOnes_20 : decode cX10_likeOnes 20 = .ok (.aload_n 0, 1) := by decide +kernel
theorem dX10_likeOnes_21 : decode cX10_likeOnes 21 = .ok (.getfield 25, 3) := by decide +kernel
theorem dX10_likeOnes_24 : decode cX10_likeOnes 24 = .ok (.bipush 24, 2) := by decide +kernel
theorem dX10_likeOnes_26 : decode cX10_likeOnes 26 = .ok (.iload_n 1, 1) := by decide +kernel
theorem dX10_likeOnes_27 : decode cX10_likeOnes 27 = .ok (.imul, 1) := by decide +kernel
theorem dX10_likeOnes_28 : decode cX10_likeOnes 28 = .ok (.iload 4, 2) := by decide +kernel
theorem dX10_likeOnes_30 : decode cX10_likeOnes 30 = .ok (.iadd, 1) := by decide +kernel
theorem dX10_likeOnes_31 : decode cX10_likeOnes 31 = .ok (.iaload, 1) := by decide +kernel
theorem dX10_likeOnes_32 : decode cX10_likeOnes 32 = .ok (.istore 5, 2) := by decide +kernel
theorem dX10_likeOnes_34 : decode cX10_likeOnes 34 = .ok (.iload_n 3, 1) := by decide +kernel
theorem dX10_likeOnes_35 : decode cX10_likeOnes 35 = .ok (.iload 5, 2) := by decide +kernel
theorem dX10_likeOnes_37 : decode cX10_likeOnes 37 = .ok (.ldc 70, 2) := by decide +kernel
theorem dX10_likeOnes_39 : decode cX10_likeOnes 39 = .ok (.if_icmp .eq 18, 3) := by decide +kernel
theorem dX10_likeOnes_42 : decode cX10_likeOnes 42 = .ok (.iload 5, 2) := by decide +kernel
theorem dX10_likeOnes_44 : decode cX10_likeOnes 44 = .ok (.aload_n 0, 1) := by decide +kernel
theorem dX10_likeOnes_45 : decode cX10_likeOnes 45 = .ok (.iload_n 2, 1) := by decide +kernel
theorem dX10_likeOnes_46 : decode cX10_likeOnes 46 = .ok (.iconst 1, 1) := by decide +kernel
theorem dX10_likeOnes_47 : decode cX10_likeOnes 47 = .ok (.invokevirtual 114, 3) := by decide +kernel
theorem dX10_likeOnes_50 : decode cX10_likeOnes 50 = .ok (.if_icmp .ne 7, 3) := by decide +kernel
theorem dX10_likeOnes_53 : decode cX10_likeOnes 53 = .ok (.iconst 1, 1) := by decide +kernel
theorem dX10_likeOnes_54 : decode cX10_likeOnes 54 = .ok (.goto 4, 3) := by decide +kernel
theorem dX10_likeOnes_57 : decode cX10_likeOnes 57 = .ok (.iconst 0, 1) := by decide +kernel
theorem dX10_likeOnes_58 : decode cX10_likeOnes 58 = .ok (.iadd, 1) := by decide +kernel
theorem dX10_likeOnes_59 : decode cX10_likeOnes 59 = .ok (.istore_n 3, 1) := by decide +kernel
theorem dX10_likeOnes_60 : decode cX10_likeOnes 60 = .ok (.aload_n 0, 1) := by decide +kernel
theorem dX10_likeOnes_61 : decode cX10_likeOnes 61 = .ok (.invokevirtual 182, 3) := by decide +kernel
theorem dX10_likeOnes_64 : decode cX10_likeOnes 64 = .ok (.iinc 4 1, 3) := by decide +kernel
theorem dX10_likeOnes_67 : decode cX10_likeOnes 67 = .ok (.goto (-58), 3) := by decide +kernel
theorem dX10_likeOnes_70 : decode cX10_likeOnes 70 = .ok (.aload_n 0, 1) := by decide +kernel
theorem dX10_likeOnes_71 : decode cX10_likeOnes 71 = .ok (.invokevirtual 203, 3) := by decide +kernel
theorem dX10_likeOnes_74 : decode cX10_likeOnes 74 = .ok (.iload_n 3, 1) := by decide +kernel
theorem dX10_likeOnes_75 : decode cX10_likeOnes 75 = .ok (.ireturn, 1) := by decide +kernel
theorem dX10_like_0 : decode cX10_like 0 = .ok (.iload_n 1, 1) := by decide +kernel
theorem dX10_like_1 : decode cX10_like 1 = .ok (.invokestatic 310, 3) := by decide +kernel
theorem dX10_like_4 : decode cX10_like 4 = .ok (.ifCond .eq 13, 3) := by decide +kernel
theorem dX10_like_7 : decode cX10_like 7 = .ok (.iload_n 2, 1) := by decide +kernel
theorem dX10_like_8 : decode cX10_like 8 = .ok (.i2l, 1) := by decide +kernel
theorem dX10_like_9 : decode cX10_like 9 = .ok (.lconst 0, 1) := by decide +kernel
theorem dX10_like_10 : decode cX10_like 10 = .ok (.lconst 1, 1) := by decide +kernel
theorem dX10_like_11 : decode cX10_like 11 = .ok (.invokestatic 71, 3) := by decide +kernel
theorem dX10_like_14 : decode cX10_like 14 = .ok (.ifCond .ne 6, 3) := by decide +kernel
theorem dX10_like_17 : decode cX10_like 17 = .ok (.ldc 93, 2) := by decide +kernel
theorem dX10_like_19 : decode cX10_like 19 = .ok (.ireturn, 1) := by decide +kernel
theorem dX10_like_20 : decode cX10_like 20 = .ok (.aload_n 0, 1) := by decide +kernel
theorem dX10_like_21 : decode cX10_like 21 = .ok (.getfield 19, 3) := by decide +kernel
theorem dX10_like_24 : decode cX10_like 24 = .ok (.iload_n 1, 1) := by decide +kernel
theorem dX10_like_25 : decode cX10_like 25 = .ok (.iaload, 1) := by decide +kernel
theorem dX10_like_26 : decode cX10_like 26 = .ok (.ifCond .ge 7, 3) := by decide +kernel
theorem dX10_like_29 : decode cX10_like 29 = .ok (.ldc_w 316, 3) := by decide +kernel
theorem dX10_like_32 : decode cX10_like 32 = .ok (.ireturn, 1) := by decide +kernel
theorem dX10_like_33 : decode cX10_like 33 = .ok (.iconst (-1), 1) := by decide +kernel
theorem dX10_like_34 : decode cX10_like 34 = .ok (.istore_n 3, 1) := by decide +kernel
theorem dX10_like_35 : decode cX10_like 35 = .ok (.iconst (-1), 1) := by decide +kernel
theorem dX10_like_36 : decode cX10_like 36 = .ok (.istore 4, 2) := by decide +kernel
theorem dX10_like_38 : decode cX10_like 38 = .ok (.iconst 0, 1) := by decide +kernel
theorem dX10_like_39 : decode cX10_like 39 = .ok (.istore 5, 2) := by decide +kernel
theorem dX10_like_41 : decode cX10_like 41 = .ok (.iload 5, 2) := by decide +kernel
theorem dX10_like_43 : decode cX10_like 43 = .ok (.aload_n 0, 1) := by decide +kernel
theorem dX10_like_44 : decode cX10_like 44 = .ok (.getfield 7, 3) := by decide +kernel
theorem dX10_like_47 : decode cX10_like 47 = .ok (.iconst 0, 1) := by decide +kernel
theorem dX10_like_48 : decode cX10_like 48 = .ok (.iaload, 1) := by decide +kernel
theorem dX10_like_49 : decode cX10_like 49 = .ok (.if_icmp .ge 48, 3) := by decide +kernel
theorem dX10_like_52 : decode cX10_like 52 = .ok (.aload_n 0, 1) := by decide +kernel
theorem dX10_like_53 : decode cX10_like 53 = .ok (.iload_n 1, 1) := by decide +kernel
theorem dX10_like_54 : decode cX10_like 54 = .ok (.iload 5, 2) := by decide +kernel
theorem dX10_like_56 : decode cX10_like 56 = .ok (.invokevirtual 322, 3) := by decide +kernel
theorem dX10_like_59 : decode cX10_like 59 = .ok (.istore 6, 2) := by decide +kernel
theorem dX10_like_61 : decode cX10_like 61 = .ok (.iload 6, 2) := by decide +kernel
theorem dX10_like_63 : decode cX10_like 63 = .ok (.iload 4, 2) := by decide +kernel
theorem dX10_like_65 : decode cX10_like 65 = .ok (.if_icmp .le 8, 3) := by decide +kernel
theorem dX10_like_68 : decode cX10_like 68 = .ok (.iload 5, 2) := by decide +kernel
theorem dX10_like_70 : decode cX10_like 70 = .ok (.goto 4, 3) := by decide +kernel
theorem dX10_like_73 : decode cX10_like 73 = .ok (.iload_n 3, 1) := by decide +kernel
theorem dX10_like_74 : decode cX10_like 74 = .ok (.istore_n 3, 1) := by decide +kernel
theorem dX10_like_75 : decode cX10_like 75 = .ok (.iload 6, 2) := by decide +kernel
theorem dX10_like_77 : decode cX10_like 77 = .ok (.iload 4, 2) := by decide +kernel
theorem dX10_like_79 : decode cX10_like 79 = .ok (.if_icmp .le 8, 3) := by decide +kernel
theorem dX10_like_82 : decode cX10_like 82 = .ok (.iload 6, 2) := by decide +kernel
theorem dX10_like_84 : decode cX10_like 84 = .ok (.goto 5, 3) := by decide +kernel
theorem dX10_like_87 : decode cX10_like 87 = .ok (.iload 4, 2) := by decide +kernel
theorem dX10_like_89 : decode cX10_like 89 = .ok (.istore 4, 2) := by decide +kernel
theorem dX10_like_91 : decode cX10_like 91 = .ok (.iinc 5 1, 3) := by decide +kernel
theorem dX10_like_94 : decode cX10_like 94 = .ok (.goto (-53), 3) := by decide +kernel
theorem dX10_like_97 : decode cX10_like 97 = .ok (.iload_n 3, 1) := by decide +kernel
theorem dX10_like_98 : decode cX10_like 98 = .ok (.ifCond .ge 8, 3) := by decide +kernel
theorem dX10_like_101 : decode cX10_like 101 = .ok (.ldc 70, 2) := by decide +kernel
theorem dX10_like_103 : decode cX10_like 103 = .ok (.goto 13, 3) := by decide +kernel
theorem dX10_like_106 : decode cX10_like 106 = .ok (.iload_n 2, 1) := by decide +kernel
theorem dX10_like_107 : decode cX10_like 107 = .ok (.ifCond .ne 7, 3) := by decide +kernel
theorem dX10_like_110 : decode cX10_like 110 = .ok (.iload_n 3, 1) := by decide +kernel
theorem dX10_like_111 : decode cX10_like 111 = .ok (.goto 5, 3) := by decide +kernel
theorem dX10_like_114 : decode cX10_like 114 = .ok (.iload 4, 2) := by decide +kernel
theorem dX10_like_116 : decode cX10_like 116 = .ok (.ireturn, 1) := by decide +kernel
theorem dX10_copy_0 : decode cX10_copy 0 = .ok (.iload_n 1, 1) := by decide +kernel
theorem dX10_copy_1 : decode cX10_copy 1 = .ok (.invokestatic 310, 3) := by decide +kernel
theorem dX10_copy_4 : decode cX10_copy 4 = .ok (.ifCond .eq 10, 3) := by decide +kernel
theorem dX10_copy_7 : decode cX10_copy 7 = .ok (.iload_n 3, 1) := by decide +kernel
theorem dX10_copy_8 : decode cX10_copy 8 = .ok (.invokestatic 310, 3) := by decide +kernel
theorem dX10_copy_11 : decode cX10_copy 11 = .ok (.ifCond .ne 6, 3) := by decide +kernel
theorem dX10_copy_14 : decode cX10_copy 14 = .ok (.ldc 93, 2) := by decide +kernel
theorem dX10_copy_16 : decode cX10_copy 16 = .ok (.ireturn, 1) := by decide +kernel
theorem dX10_copy_17 : decode cX10_copy 17 = .ok (.aload_n 0, 1) := by decide +kernel
theorem dX10_copy_18 : decode cX10_copy 18 = .ok (.getfield 19, 3) := by decide +kernel
theorem dX10_copy_21 : decode cX10_copy 21 = .ok (.iload_n 1, 1) := by decide +kernel
theorem dX10_copy_22 : decode cX10_copy 22 = .ok (.iaload, 1) := by decide +kernel
theorem dX10_copy_23 : decode cX10_copy 23 = .ok (.ifCond .lt 12, 3) := by decide +kernel
theorem dX10_copy_26 : decode cX10_copy 26 = .ok (.aload_n 0, 1) := by decide +kernel
theorem dX10_copy_27 : decode cX10_copy 27 = .ok (.getfield 19, 3) := by decide +kernel
theorem dX10_copy_30 : decode cX10_copy 30 = .ok (.iload_n 3, 1) := by decide +kernel
theorem dX10_copy_31 : decode cX10_copy 31 = .ok (.iaload, 1) := by decide +kernel
theorem dX10_copy_32 : decode cX10_copy 32 = .ok (.ifCond .ge 7, 3) := by decide +kernel
theorem dX10_copy_35 : decode cX10_copy 35 = .ok (.ldc_w 316, 3) := by decide +kernel
theorem dX10_copy_38 : decode cX10_copy 38 = .ok (.ireturn, 1) := by decide +kernel
theorem dX10_copy_39 : decode cX10_copy 39 = .ok (.aload_n 0, 1) := by decide +kernel
theorem dX10_copy_40 : decode cX10_copy 40 = .ok (.getfield 19, 3) := by decide +kernel
theorem dX10_copy_43 : decode cX10_copy 43 = .ok (.iload_n 1, 1) := by decide +kernel
theorem dX10_copy_44 : decode cX10_copy 44 = .ok (.iaload, 1) := by decide +kernel
theorem dX10_copy_45 : decode cX10_copy 45 = .ok (.aload_n 0, 1) := by decide +kernel
theorem dX10_copy_46 : decode cX10_copy 46 = .ok (.getfield 19, 3) := by decide +kernel
theorem dX10_copy_49 : decode cX10_copy 49 = .ok (.iload_n 3, 1) := by decide +kernel
theorem dX10_copy_50 : decode cX10_copy 50 = .ok (.iaload, 1) := by decide +kernel
theorem dX10_copy_51 : decode cX10_copy 51 = .ok (.if_icmp .eq 6, 3) := by decide +kernel
theorem dX10_copy_54 : decode cX10_copy 54 = .ok (.ldc 135, 2) := by decide +kernel
theorem dX10_copy_56 : decode cX10_copy 56 = .ok (.ireturn, 1) := by decide +kernel
theorem dX10_copy_57 : decode cX10_copy 57 = .ok (.iload_n 2, 1) := by decide +kernel
theorem dX10_copy_58 : decode cX10_copy 58 = .ok (.ifCond .lt 48, 3) := by decide +kernel
theorem dX10_copy_61 : decode cX10_copy 61 = .ok (.iload 4, 2) := by decide +kernel
theorem dX10_copy_63 : decode cX10_copy 63 = .ok (.ifCond .lt 43, 3) := by decide +kernel
theorem dX10_copy_66 : decode cX10_copy 66 = .ok (.iload 5, 2) := by decide +kernel
theorem dX10_copy_68 : decode cX10_copy 68 = .ok (.ifCond .lt 38, 3) := by decide +kernel
theorem dX10_copy_71 : decode cX10_copy 71 = .ok (.iload_n 2, 1) := by decide +kernel
theorem dX10_copy_72 : decode cX10_copy 72 = .ok (.i2l, 1) := by decide +kernel
theorem dX10_copy_73 : decode cX10_copy 73 = .ok (.iload 5, 2) := by decide +kernel
theorem dX10_copy_75 : decode cX10_copy 75 = .ok (.i2l, 1) := by decide +kernel
theorem dX10_copy_76 : decode cX10_copy 76 = .ok (.ladd, 1) := by decide +kernel
theorem dX10_copy_77 : decode cX10_copy 77 = .ok (.aload_n 0, 1) := by decide +kernel
theorem dX10_copy_78 : decode cX10_copy 78 = .ok (.getfield 22, 3) := by decide +kernel
theorem dX10_copy_81 : decode cX10_copy 81 = .ok (.iload_n 1, 1) := by decide +kernel
theorem dX10_copy_82 : decode cX10_copy 82 = .ok (.iaload, 1) := by decide +kernel
theorem dX10_copy_83 : decode cX10_copy 83 = .ok (.i2l, 1) := by decide +kernel
theorem dX10_copy_84 : decode cX10_copy 84 = .ok (.lcmp, 1) := by decide +kernel
theorem dX10_copy_85 : decode cX10_copy 85 = .ok (.ifCond .gt 21, 3) := by decide +kernel
theorem dX10_copy_88 : decode cX10_copy 88 = .ok (.iload 4, 2) := by decide +kernel
theorem dX10_copy_90 : decode cX10_copy 90 = .ok (.i2l, 1) := by decide +kernel
theorem dX10_copy_91 : decode cX10_copy 91 = .ok (.iload 5, 2) := by decide +kernel
theorem dX10_copy_93 : decode cX10_copy 93 = .ok (.i2l, 1) := by decide +kernel
theorem dX10_copy_94 : decode cX10_copy 94 = .ok (.ladd, 1) := by decide +kernel
theorem dX10_copy_95 : decode cX10_copy 95 = .ok (.aload_n 0, 1) := by decide +kernel
theorem dX10_copy_96 : decode cX10_copy 96 = .ok (.getfield 22, 3) := by decide +kernel
theorem dX10_copy_99 : decode cX10_copy 99 = .ok (.iload_n 3, 1) := by decide +kernel
theorem dX10_copy_100 : decode cX10_copy 100 = .ok (.iaload, 1) := by decide +kernel
theorem dX10_copy_101 : decode cX10_copy 101 = .ok (.i2l, 1) := by decide +kernel
theorem dX10_copy_102 : decode cX10_copy 102 = .ok (.lcmp, 1) := by decide +kernel
theorem dX10_copy_103 : decode cX10_copy 103 = .ok (.ifCond .le 7, 3) := by decide +kernel
theorem dX10_copy_106 : decode cX10_copy 106 = .ok (.ldc_w 317, 3) := by decide +kernel
theorem dX10_copy_109 : decode cX10_copy 109 = .ok (.ireturn, 1) := by decide +kernel
theorem dX10_copy_110 : decode cX10_copy 110 = .ok (.iconst 0, 1) := by decide +kernel
theorem dX10_copy_111 : decode cX10_copy 111 = .ok (.istore 6, 2) := by decide +kernel
theorem dX10_copy_113 : decode cX10_copy 113 = .ok (.iload 6, 2) := by decide +kernel
theorem dX10_copy_115 : decode cX10_copy 115 = .ok (.iload 5, 2) := by decide +kernel
theorem dX10_copy_117 : decode cX10_copy 117 = .ok (.if_icmp .ge 30, 3) := by decide +kernel
theorem dX10_copy_120 : decode cX10_copy 120 = .ok (.aload_n 0, 1) := by decide +kernel
theorem dX10_copy_121 : decode cX10_copy 121 = .ok (.getfield 61, 3) := by decide +kernel
theorem dX10_copy_124 : decode cX10_copy 124 = .ok (.iload 6, 2) := by decide +kernel
theorem dX10_copy_126 : decode cX10_copy 126 = .ok (.aload_n 0, 1) := by decide +kernel
theorem dX10_copy_127 : decode cX10_copy 127 = .ok (.getfield 25, 3) := by decide +kernel
theorem dX10_copy_130 : decode cX10_copy 130 = .ok (.bipush 24, 2) := by decide +kernel
theorem dX10_copy_132 : decode cX10_copy 132 = .ok (.iload_n 1, 1) := by decide +kernel
theorem dX10_copy_133 : decode cX10_copy 133 = .ok (.imul, 1) := by decide +kernel
theorem dX10_copy_134 : decode cX10_copy 134 = .ok (.iload_n 2, 1) := by decide +kernel
theorem dX10_copy_135 : decode cX10_copy 135 = .ok (.iadd, 1) := by decide +kernel
theorem dX10_copy_136 : decode cX10_copy 136 = .ok (.iload 6, 2) := by decide +kernel
theorem dX10_copy_138 : decode cX10_copy 138 = .ok (.iadd, 1) := by decide +kernel
theorem dX10_copy_139 : decode cX10_copy 139 = .ok (.iaload, 1) := by decide +kernel
theorem dX10_copy_140 : decode cX10_copy 140 = .ok (.iastore, 1) := by decide +kernel
theorem dX10_copy_141 : decode cX10_copy 141 = .ok (.iinc 6 1, 3) := by decide +kernel
theorem dX10_copy_144 : decode cX10_copy 144 = .ok (.goto (-31), 3) := by decide +kernel
theorem dX10_copy_147 : decode cX10_copy 147 = .ok (.iconst 0, 1) := by decide +kernel
theorem dX10_copy_148 : decode cX10_copy 148 = .ok (.istore 6, 2) := by decide +kernel
theorem dX10_copy_150 : decode cX10_copy 150 = .ok (.iload 6, 2) := by decide +kernel
theorem dX10_copy_152 : decode cX10_copy 152 = .ok (.iload 5, 2) := by decide +kernel
theorem dX10_copy_154 : decode cX10_copy 154 = .ok (.if_icmp .ge 31, 3) := by decide +kernel
theorem dX10_copy_157 : decode cX10_copy 157 = .ok (.aload_n 0, 1) := by decide +kernel
theorem dX10_copy_158 : decode cX10_copy 158 = .ok (.getfield 25, 3) := by decide +kernel
theorem dX10_copy_161 : decode cX10_copy 161 = .ok (.bipush 24, 2) := by decide +kernel
theorem dX10_copy_163 : decode cX10_copy 163 = .ok (.iload_n 3, 1) := by decide +kernel
theorem dX10_copy_164 : decode cX10_copy 164 = .ok (.imul, 1) := by decide +kernel
theorem dX10_copy_165 : decode cX10_copy 165 = .ok (.iload 4, 2) := by decide +kernel
theorem dX10_copy_167 : decode cX10_copy 167 = .ok (.iadd, 1) := by decide +kernel
theorem dX10_copy_168 : decode cX10_copy 168 = .ok (.iload 6, 2) := by decide +kernel
theorem dX10_copy_170 : decode cX10_copy 170 = .ok (.iadd, 1) := by decide +kernel
theorem dX10_copy_171 : decode cX10_copy 171 = .ok (.aload_n 0, 1) := by decide +kernel
theorem dX10_copy_172 : decode cX10_copy 172 = .ok (.getfield 61, 3) := by decide +kernel
theorem dX10_copy_175 : decode cX10_copy 175 = .ok (.iload 6, 2) := by decide +kernel
theorem dX10_copy_177 : decode cX10_copy 177 = .ok (.iaload, 1) := by decide +kernel
theorem dX10_copy_178 : decode cX10_copy 178 = .ok (.iastore, 1) := by decide +kernel
theorem dX10_copy_179 : decode cX10_copy 179 = .ok (.iinc 6 1, 3) := by decide +kernel
theorem dX10_copy_182 : decode cX10_copy 182 = .ok (.goto (-32), 3) := by decide +kernel
theorem dX10_copy_185 : decode cX10_copy 185 = .ok (.iload 5, 2) := by decide +kernel
theorem dX10_copy_187 : decode cX10_copy 187 = .ok (.ireturn, 1) := by decide +kernel
theorem dX10_isSlot_0 : decode cX10_isSlot 0 = .ok (.iload_n 0, 1) := by decide +kernel
theorem dX10_isSlot_1 : decode cX10_isSlot 1 = .ok (.i2l, 1) := by decide +kernel
theorem dX10_isSlot_2 : decode cX10_isSlot 2 = .ok (.lconst 0, 1) := by decide +kernel
theorem dX10_isSlot_3 : decode cX10_isSlot 3 = .ok (.ldc2_w 139, 3) := by decide +kernel
theorem dX10_isSlot_6 : decode cX10_isSlot 6 = .ok (.invokestatic 71, 3) := by decide +kernel
theorem dX10_isSlot_9 : decode cX10_isSlot 9 = .ok (.ireturn, 1) := by decide +kernel
theorem dX10_lay_0 : decode cX10_lay 0 = .ok (.iload_n 2, 1) := by decide +kernel
theorem dX10_lay_1 : decode cX10_lay 1 = .ok (.ifCond .eq 33, 3) := by decide +kernel
theorem dX10_lay_4 : decode cX10_lay 4 = .ok (.iload_n 2, 1) := by decide +kernel
theorem dX10_lay_5 : decode cX10_lay 5 = .ok (.iconst 3, 1) := by decide +kernel
theorem dX10_lay_6 : decode cX10_lay 6 = .ok (.if_icmp .eq 28, 3) := by decide +kernel
theorem dX10_lay_9 : decode cX10_lay 9 = .ok (.iload_n 2, 1) := by decide +kernel
theorem dX10_lay_10 : decode cX10_lay 10 = .ok (.iconst 1, 1) := by decide +kernel
theorem dX10_lay_11 : decode cX10_lay 11 = .ok (.if_icmp .ne 11, 3) := by decide +kernel
theorem dX10_lay_14 : decode cX10_lay 14 = .ok (.aload_n 0, 1) := by decide +kernel
theorem dX10_lay_15 : decode cX10_lay 15 = .ok (.iload_n 3, 1) := by decide +kernel
theorem dX10_lay_16 : decode cX10_lay 16 = .ok (.invokevirtual 120, 3) := by decide +kernel
theorem dX10_lay_19 : decode cX10_lay 19 = .ok (.ifCond .ne 15, 3) := by decide +kernel
theorem dX10_lay_22 : decode cX10_lay 22 = .ok (.iload_n 2, 1) := by decide +kernel
theorem dX10_lay_23 : decode cX10_lay 23 = .ok (.iconst 2, 1) := by decide +kernel
theorem dX10_lay_24 : decode cX10_lay 24 = .ok (.if_icmp .ne 14, 3) := by decide +kernel
theorem dX10_lay_27 : decode cX10_lay 27 = .ok (.iload_n 3, 1) := by decide +kernel
theorem dX10_lay_28 : decode cX10_lay 28 = .ok (.invokestatic 310, 3) := by decide +kernel
theorem dX10_lay_31 : decode cX10_lay 31 = .ok (.ifCond .eq 7, 3) := by decide +kernel
theorem dX10_lay_34 : decode cX10_lay 34 = .ok (.iconst 1, 1) := by decide +kernel
theorem dX10_lay_35 : decode cX10_lay 35 = .ok (.goto 4, 3) := by decide +kernel
theorem dX10_lay_38 : decode cX10_lay 38 = .ok (.iconst 0, 1) := by decide +kernel
theorem dX10_lay_39 : decode cX10_lay 39 = .ok (.istore 4, 2) := by decide +kernel
theorem dX10_lay_41 : decode cX10_lay 41 = .ok (.iload_n 1, 1) := by decide +kernel
theorem dX10_lay_42 : decode cX10_lay 42 = .ok (.invokestatic 325, 3) := by decide +kernel
theorem dX10_lay_45 : decode cX10_lay 45 = .ok (.ifCond .eq 8, 3) := by decide +kernel
theorem dX10_lay_48 : decode cX10_lay 48 = .ok (.iload 4, 2) := by decide +kernel
theorem dX10_lay_50 : decode cX10_lay 50 = .ok (.ifCond .ne 6, 3) := by decide +kernel
theorem dX10_lay_53 : decode cX10_lay 53 = .ok (.ldc 93, 2) := by decide +kernel
theorem dX10_lay_55 : decode cX10_lay 55 = .ok (.ireturn, 1) := by decide +kernel
theorem dX10_lay_56 : decode cX10_lay 56 = .ok (.iload_n 2, 1) := by decide +kernel
theorem dX10_lay_57 : decode cX10_lay 57 = .ok (.iconst 2, 1) := by decide +kernel
theorem dX10_lay_58 : decode cX10_lay 58 = .ok (.if_icmp .ne 16, 3) := by decide +kernel
theorem dX10_lay_61 : decode cX10_lay 61 = .ok (.aload_n 0, 1) := by decide +kernel
theorem dX10_lay_62 : decode cX10_lay 62 = .ok (.getfield 19, 3) := by decide +kernel
theorem dX10_lay_65 : decode cX10_lay 65 = .ok (.iload_n 3, 1) := by decide +kernel
theorem dX10_lay_66 : decode cX10_lay 66 = .ok (.iaload, 1) := by decide +kernel
theorem dX10_lay_67 : decode cX10_lay 67 = .ok (.ifCond .ge 7, 3) := by decide +kernel
theorem dX10_lay_70 : decode cX10_lay 70 = .ok (.ldc_w 316, 3) := by decide +kernel
theorem dX10_lay_73 : decode cX10_lay 73 = .ok (.ireturn, 1) := by decide +kernel
theorem dX10_lay_74 : decode cX10_lay 74 = .ok (.aload_n 0, 1) := by decide +kernel
theorem dX10_lay_75 : decode cX10_lay 75 = .ok (.getfield 28, 3) := by decide +kernel
theorem dX10_lay_78 : decode cX10_lay 78 = .ok (.iload_n 1, 1) := by decide +kernel
theorem dX10_lay_79 : decode cX10_lay 79 = .ok (.iaload, 1) := by decide +kernel
theorem dX10_lay_80 : decode cX10_lay 80 = .ok (.istore 5, 2) := by decide +kernel
theorem dX10_lay_82 : decode cX10_lay 82 = .ok (.aload_n 0, 1) := by decide +kernel
theorem dX10_lay_83 : decode cX10_lay 83 = .ok (.getfield 28, 3) := by decide +kernel
theorem dX10_lay_86 : decode cX10_lay 86 = .ok (.iload_n 1, 1) := by decide +kernel
theorem dX10_lay_87 : decode cX10_lay 87 = .ok (.iload_n 2, 1) := by decide +kernel
theorem dX10_lay_88 : decode cX10_lay 88 = .ok (.iastore, 1) := by decide +kernel
theorem dX10_lay_89 : decode cX10_lay 89 = .ok (.aload_n 0, 1) := by decide +kernel
theorem dX10_lay_90 : decode cX10_lay 90 = .ok (.getfield 31, 3) := by decide +kernel
theorem dX10_lay_93 : decode cX10_lay 93 = .ok (.iload_n 1, 1) := by decide +kernel
theorem dX10_lay_94 : decode cX10_lay 94 = .ok (.iload_n 2, 1) := by decide +kernel
theorem dX10_lay_95 : decode cX10_lay 95 = .ok (.iconst 1, 1) := by decide +kernel
theorem dX10_lay_96 : decode cX10_lay 96 = .ok (.if_icmp .ne 12, 3) := by decide +kernel
theorem dX10_lay_99 : decode cX10_lay 99 = .ok (.aload_n 0, 1) := by decide +kernel
theorem dX10_lay_100 : decode cX10_lay 100 = .ok (.iload_n 3, 1) := by decide +kernel
theorem dX10_lay_101 : decode cX10_lay 101 = .ok (.iconst 0, 1) := by decide +kernel
theorem dX10_lay_102 : decode cX10_lay 102 = .ok (.invokevirtual 114, 3) := by decide +kernel
theorem dX10_lay_105 : decode cX10_lay 105 = .ok (.goto 4, 3) := by decide +kernel
theorem dX10_lay_108 : decode cX10_lay 108 = .ok (.iload_n 3, 1) := by decide +kernel
theorem dX10_lay_109 : decode cX10_lay 109 = .ok (.iastore, 1) := by decide +kernel
theorem dX10_lay_110 : decode cX10_lay 110 = .ok (.aload_n 0, 1) := by decide +kernel
theorem dX10_lay_111 : decode cX10_lay 111 = .ok (.getfield 34, 3) := by decide +kernel
theorem dX10_lay_114 : decode cX10_lay 114 = .ok (.iload_n 1, 1) := by decide +kernel
theorem dX10_lay_115 : decode cX10_lay 115 = .ok (.iload_n 2, 1) := by decide +kernel
theorem dX10_lay_116 : decode cX10_lay 116 = .ok (.iconst 1, 1) := by decide +kernel
theorem dX10_lay_117 : decode cX10_lay 117 = .ok (.if_icmp .ne 11, 3) := by decide +kernel
theorem dX10_lay_120 : decode cX10_lay 120 = .ok (.aload_n 0, 1) := by decide +kernel
theorem dX10_lay_121 : decode cX10_lay 121 = .ok (.iload_n 3, 1) := by decide +kernel
theorem dX10_lay_122 : decode cX10_lay 122 = .ok (.invokevirtual 125, 3) := by decide +kernel
theorem dX10_lay_125 : decode cX10_lay 125 = .ok (.goto 4, 3) := by decide +kernel
theorem dX10_lay_128 : decode cX10_lay 128 = .ok (.iconst 0, 1) := by decide +kernel
theorem dX10_lay_129 : decode cX10_lay 129 = .ok (.iastore, 1) := by decide +kernel
theorem dX10_lay_130 : decode cX10_lay 130 = .ok (.iload_n 2, 1) := by decide +kernel
theorem dX10_lay_131 : decode cX10_lay 131 = .ok (.iconst 2, 1) := by decide +kernel
theorem dX10_lay_132 : decode cX10_lay 132 = .ok (.if_icmp .ne 55, 3) := by decide +kernel
theorem dX10_lay_135 : decode cX10_lay 135 = .ok (.aload_n 0, 1) := by decide +kernel
theorem dX10_lay_136 : decode cX10_lay 136 = .ok (.getfield 37, 3) := by decide +kernel
theorem dX10_lay_139 : decode cX10_lay 139 = .ok (.iload_n 1, 1) := by decide +kernel
theorem dX10_lay_140 : decode cX10_lay 140 = .ok (.aload_n 0, 1) := by decide +kernel
theorem dX10_lay_141 : decode cX10_lay 141 = .ok (.getfield 22, 3) := by decide +kernel
theorem dX10_lay_144 : decode cX10_lay 144 = .ok (.iload_n 3, 1) := by decide +kernel
theorem dX10_lay_145 : decode cX10_lay 145 = .ok (.iaload, 1) := by decide +kernel
theorem dX10_lay_146 : decode cX10_lay 146 = .ok (.iastore, 1) := by decide +kernel
theorem dX10_lay_147 : decode cX10_lay 147 = .ok (.iconst 0, 1) := by decide +kernel
theorem dX10_lay_148 : decode cX10_lay 148 = .ok (.istore 6, 2) := by decide +kernel
theorem dX10_lay_150 : decode cX10_lay 150 = .ok (.iload 6, 2) := by decide +kernel
theorem dX10_lay_152 : decode cX10_lay 152 = .ok (.bipush 24, 2) := by decide +kernel
theorem dX10_lay_154 : decode cX10_lay 154 = .ok (.if_icmp .ge 33, 3) := by decide +kernel
theorem dX10_lay_157 : decode cX10_lay 157 = .ok (.aload_n 0, 1) := by decide +kernel
theorem dX10_lay_158 : decode cX10_lay 158 = .ok (.getfield 40, 3) := by decide +kernel
theorem dX10_lay_161 : decode cX10_lay 161 = .ok (.bipush 24, 2) := by decide +kernel
theorem dX10_lay_163 : decode cX10_lay 163 = .ok (.iload_n 1, 1) := by decide +kernel
theorem dX10_lay_164 : decode cX10_lay 164 = .ok (.imul, 1) := by decide +kernel
theorem dX10_lay_165 : decode cX10_lay 165 = .ok (.iload 6, 2) := by decide +kernel
theorem dX10_lay_167 : decode cX10_lay 167 = .ok (.iadd, 1) := by decide +kernel
theorem dX10_lay_168 : decode cX10_lay 168 = .ok (.aload_n 0, 1) := by decide +kernel
theorem dX10_lay_169 : decode cX10_lay 169 = .ok (.getfield 25, 3) := by decide +kernel
theorem dX10_lay_172 : decode cX10_lay 172 = .ok (.bipush 24, 2) := by decide +kernel
theorem dX10_lay_174 : decode cX10_lay 174 = .ok (.iload_n 3, 1) := by decide +kernel
theorem dX10_lay_175 : decode cX10_lay 175 = .ok (.imul, 1) := by decide +kernel
theorem dX10_lay_176 : decode cX10_lay 176 = .ok (.iload 6, 2) := by decide +kernel
theorem dX10_lay_178 : decode cX10_lay 178 = .ok (.iadd, 1) := by decide +kernel
theorem dX10_lay_179 : decode cX10_lay 179 = .ok (.iaload, 1) := by decide +kernel
theorem dX10_lay_180 : decode cX10_lay 180 = .ok (.iastore, 1) := by decide +kernel
theorem dX10_lay_181 : decode cX10_lay 181 = .ok (.iinc 6 1, 3) := by decide +kernel
theorem dX10_lay_184 : decode cX10_lay 184 = .ok (.goto (-34), 3) := by decide +kernel
theorem dX10_lay_187 : decode cX10_lay 187 = .ok (.iload 5, 2) := by decide +kernel
theorem dX10_lay_189 : decode cX10_lay 189 = .ok (.ireturn, 1) := by decide +kernel
theorem dX10_ask_0 : decode cX10_ask 0 = .ok (.iload_n 1, 1) := by decide +kernel
theorem dX10_ask_1 : decode cX10_ask 1 = .ok (.invokestatic 325, 3) := by decide +kernel
theorem dX10_ask_4 : decode cX10_ask 4 = .ok (.ifCond .eq 15, 3) := by decide +kernel
theorem dX10_ask_7 : decode cX10_ask 7 = .ok (.iload_n 2, 1) := by decide +kernel
theorem dX10_ask_8 : decode cX10_ask 8 = .ok (.i2l, 1) := by decide +kernel
theorem dX10_ask_9 : decode cX10_ask 9 = .ok (.lconst 0, 1) := by decide +kernel
theorem dX10_ask_10 : decode cX10_ask 10 = .ok (.ldc2_w 84, 3) := by decide +kernel
theorem dX10_ask_13 : decode cX10_ask 13 = .ok (.invokestatic 71, 3) := by decide +kernel
theorem dX10_ask_16 : decode cX10_ask 16 = .ok (.ifCond .ne 6, 3) := by decide +kernel
theorem dX10_ask_19 : decode cX10_ask 19 = .ok (.ldc 93, 2) := by decide +kernel
theorem dX10_ask_21 : decode cX10_ask 21 = .ok (.ireturn, 1) := by decide +kernel
theorem dX10_ask_22 : decode cX10_ask 22 = .ok (.aload_n 0, 1) := by decide +kernel
theorem dX10_ask_23 : decode cX10_ask 23 = .ok (.getfield 28, 3) := by decide +kernel
theorem dX10_ask_26 : decode cX10_ask 26 = .ok (.iload_n 1, 1) := by decide +kernel
theorem dX10_ask_27 : decode cX10_ask 27 = .ok (.iaload, 1) := by decide +kernel
theorem dX10_ask_28 : decode cX10_ask 28 = .ok (.ifCond .ne 7, 3) := by decide +kernel
theorem dX10_ask_31 : decode cX10_ask 31 = .ok (.ldc_w 316, 3) := by decide +kernel
theorem dX10_ask_34 : decode cX10_ask 34 = .ok (.ireturn, 1) := by decide +kernel
theorem dX10_ask_35 : decode cX10_ask 35 = .ok (.aload_n 0, 1) := by decide +kernel
theorem dX10_ask_36 : decode cX10_ask 36 = .ok (.getfield 28, 3) := by decide +kernel
theorem dX10_ask_39 : decode cX10_ask 39 = .ok (.iload_n 1, 1) := by decide +kernel
theorem dX10_ask_40 : decode cX10_ask 40 = .ok (.iaload, 1) := by decide +kernel
theorem dX10_ask_41 : decode cX10_ask 41 = .ok (.iconst 1, 1) := by decide +kernel
theorem dX10_ask_42 : decode cX10_ask 42 = .ok (.if_icmp .ne 25, 3) := by decide +kernel
theorem dX10_ask_45 : decode cX10_ask 45 = .ok (.aload_n 0, 1) := by decide +kernel
theorem dX10_ask_46 : decode cX10_ask 46 = .ok (.getfield 31, 3) := by decide +kernel
theorem dX10_ask_49 : decode cX10_ask 49 = .ok (.iload_n 1, 1) := by decide +kernel
theorem dX10_ask_50 : decode cX10_ask 50 = .ok (.iaload, 1) := by decide +kernel
theorem dX10_ask_51 : decode cX10_ask 51 = .ok (.iload_n 2, 1) := by decide +kernel
theorem dX10_ask_52 : decode cX10_ask 52 = .ok (.invokestatic 131, 3) := by decide +kernel
theorem dX10_ask_55 : decode cX10_ask 55 = .ok (.ifCond .eq 12, 3) := by decide +kernel
theorem dX10_ask_58 : decode cX10_ask 58 = .ok (.aload_n 0, 1) := by decide +kernel
theorem dX10_ask_59 : decode cX10_ask 59 = .ok (.getfield 34, 3) := by decide +kernel
theorem dX10_ask_62 : decode cX10_ask 62 = .ok (.iload_n 1, 1) := by decide +kernel
theorem dX10_ask_63 : decode cX10_ask 63 = .ok (.iaload, 1) := by decide +kernel
theorem dX10_ask_64 : decode cX10_ask 64 = .ok (.goto 5, 3) := by decide +kernel
theorem dX10_ask_67 : decode cX10_ask 67 = .ok (.ldc 135, 2) := by decide +kernel
theorem dX10_ask_69 : decode cX10_ask 69 = .ok (.ireturn, 1) := by decide +kernel
theorem dX10_item_0 : decode cX10_item 0 = .ok (.iload_n 1, 1) := by decide +kernel
theorem dX10_item_1 : decode cX10_item 1 = .ok (.invokestatic 325, 3) := by decide +kernel
theorem dX10_item_4 : decode cX10_item 4 = .ok (.ifCond .ne 6, 3) := by decide +kernel
theorem dX10_item_7 : decode cX10_item 7 = .ok (.ldc 93, 2) := by decide +kernel
theorem dX10_item_9 : decode cX10_item 9 = .ok (.ireturn, 1) := by decide +kernel
theorem dX10_item_10 : decode cX10_item 10 = .ok (.aload_n 0, 1) := by decide +kernel
theorem dX10_item_11 : decode cX10_item 11 = .ok (.getfield 28, 3) := by decide +kernel
theorem dX10_item_14 : decode cX10_item 14 = .ok (.iload_n 1, 1) := by decide +kernel
theorem dX10_item_15 : decode cX10_item 15 = .ok (.iaload, 1) := by decide +kernel
theorem dX10_item_16 : decode cX10_item 16 = .ok (.iconst 2, 1) := by decide +kernel
theorem dX10_item_17 : decode cX10_item 17 = .ok (.if_icmp .eq 21, 3) := by decide +kernel
theorem dX10_item_20 : decode cX10_item 20 = .ok (.aload_n 0, 1) := by decide +kernel
theorem dX10_item_21 : decode cX10_item 21 = .ok (.getfield 28, 3) := by decide +kernel
theorem dX10_item_24 : decode cX10_item 24 = .ok (.iload_n 1, 1) := by decide +kernel
theorem dX10_item_25 : decode cX10_item 25 = .ok (.iaload, 1) := by decide +kernel
theorem dX10_item_26 : decode cX10_item 26 = .ok (.ifCond .ne 9, 3) := by decide +kernel
theorem dX10_item_29 : decode cX10_item 29 = .ok (.ldc_w 316, 3) := by decide +kernel
theorem dX10_item_32 : decode cX10_item 32 = .ok (.goto 5, 3) := by decide +kernel
theorem dX10_item_35 : decode cX10_item 35 = .ok (.ldc 135, 2) := by decide +kernel
theorem dX10_item_37 : decode cX10_item 37 = .ok (.ireturn, 1) := by decide +kernel
theorem dX10_item_38 : decode cX10_item 38 = .ok (.iload_n 2, 1) := by decide +kernel
theorem dX10_item_39 : decode cX10_item 39 = .ok (.i2l, 1) := by decide +kernel
theorem dX10_item_40 : decode cX10_item 40 = .ok (.lconst 0, 1) := by decide +kernel
theorem dX10_item_41 : decode cX10_item 41 = .ok (.aload_n 0, 1) := by decide +kernel
theorem dX10_item_42 : decode cX10_item 42 = .ok (.getfield 37, 3) := by decide +kernel
theorem dX10_item_45 : decode cX10_item 45 = .ok (.iload_n 1, 1) := by decide +kernel
theorem dX10_item_46 : decode cX10_item 46 = .ok (.iaload, 1) := by decide +kernel
theorem dX10_item_47 : decode cX10_item 47 = .ok (.iconst 1, 1) := by decide +kernel
theorem dX10_item_48 : decode cX10_item 48 = .ok (.isub, 1) := by decide +kernel
theorem dX10_item_49 : decode cX10_item 49 = .ok (.i2l, 1) := by decide +kernel
theorem dX10_item_50 : decode cX10_item 50 = .ok (.invokestatic 71, 3) := by decide +kernel
theorem dX10_item_53 : decode cX10_item 53 = .ok (.ifCond .ne 7, 3) := by decide +kernel
theorem dX10_item_56 : decode cX10_item 56 = .ok (.ldc_w 317, 3) := by decide +kernel
theorem dX10_item_59 : decode cX10_item 59 = .ok (.ireturn, 1) := by decide +kernel
theorem dX10_item_60 : decode cX10_item 60 = .ok (.aload_n 0, 1) := by decide +kernel
theorem dX10_item_61 : decode cX10_item 61 = .ok (.getfield 40, 3) := by decide +kernel
theorem dX10_item_64 : decode cX10_item 64 = .ok (.bipush 24, 2) := by decide +kernel
theorem dX10_item_66 : decode cX10_item 66 = .ok (.iload_n 1, 1) := by decide +kernel
theorem dX10_item_67 : decode cX10_item 67 = .ok (.imul, 1) := by decide +kernel
theorem dX10_item_68 : decode cX10_item 68 = .ok (.iload_n 2, 1) := by decide +kernel
theorem dX10_item_69 : decode cX10_item 69 = .ok (.iadd, 1) := by decide +kernel
theorem dX10_item_70 : decode cX10_item 70 = .ok (.iaload, 1) := by decide +kernel
theorem dX10_item_71 : decode cX10_item 71 = .ok (.istore_n 3, 1) := by decide +kernel
theorem dX10_item_72 : decode cX10_item 72 = .ok (.iload_n 3, 1) := by decide +kernel
theorem dX10_item_73 : decode cX10_item 73 = .ok (.ldc 70, 2) := by decide +kernel
theorem dX10_item_75 : decode cX10_item 75 = .ok (.if_icmp .ne 8, 3) := by decide +kernel
theorem dX10_item_78 : decode cX10_item 78 = .ok (.ldc 135, 2) := by decide +kernel
theorem dX10_item_80 : decode cX10_item 80 = .ok (.goto 4, 3) := by decide +kernel
theorem dX10_item_83 : decode cX10_item 83 = .ok (.iload_n 3, 1) := by decide +kernel
theorem dX10_item_84 : decode cX10_item 84 = .ok (.ireturn, 1) := by decide +kernel
theorem dX10_rest_0 : decode cX10_rest 0 = .ok (.iload_n 1, 1) := by decide +kernel
theorem dX10_rest_1 : decode cX10_rest 1 = .ok (.invokestatic 325, 3) := by decide +kernel
theorem dX10_rest_4 : decode cX10_rest 4 = .ok (.ifCond .ne 6, 3) := by decide +kernel
theorem dX10_rest_7 : decode cX10_rest 7 = .ok (.ldc 93, 2) := by decide +kernel
theorem dX10_rest_9 : decode cX10_rest 9 = .ok (.ireturn, 1) := by decide +kernel
theorem dX10_rest_10 : decode cX10_rest 10 = .ok (.aload_n 0, 1) := by decide +kernel
theorem dX10_rest_11 : decode cX10_rest 11 = .ok (.getfield 28, 3) := by decide +kernel
theorem dX10_rest_14 : decode cX10_rest 14 = .ok (.iload_n 1, 1) := by decide +kernel
theorem dX10_rest_15 : decode cX10_rest 15 = .ok (.iaload, 1) := by decide +kernel
theorem dX10_rest_16 : decode cX10_rest 16 = .ok (.iconst 3, 1) := by decide +kernel
theorem dX10_rest_17 : decode cX10_rest 17 = .ok (.if_icmp .eq 21, 3) := by decide +kernel
theorem dX10_rest_20 : decode cX10_rest 20 = .ok (.aload_n 0, 1) := by decide +kernel
theorem dX10_rest_21 : decode cX10_rest 21 = .ok (.getfield 28, 3) := by decide +kernel
theorem dX10_rest_24 : decode cX10_rest 24 = .ok (.iload_n 1, 1) := by decide +kernel
theorem dX10_rest_25 : decode cX10_rest 25 = .ok (.iaload, 1) := by decide +kernel
theorem dX10_rest_26 : decode cX10_rest 26 = .ok (.ifCond .ne 9, 3) := by decide +kernel
theorem dX10_rest_29 : decode cX10_rest 29 = .ok (.ldc_w 316, 3) := by decide +kernel
theorem dX10_rest_32 : decode cX10_rest 32 = .ok (.goto 5, 3) := by decide +kernel
theorem dX10_rest_35 : decode cX10_rest 35 = .ok (.ldc 135, 2) := by decide +kernel
theorem dX10_rest_37 : decode cX10_rest 37 = .ok (.ireturn, 1) := by decide +kernel
theorem dX10_rest_38 : decode cX10_rest 38 = .ok (.iload_n 2, 1) := by decide +kernel
theorem dX10_rest_39 : decode cX10_rest 39 = .ok (.ifCond .ne 8, 3) := by decide +kernel
theorem dX10_rest_42 : decode cX10_rest 42 = .ok (.ldc 158, 2) := by decide +kernel
theorem dX10_rest_44 : decode cX10_rest 44 = .ok (.goto 11, 3) := by decide +kernel
theorem dX10_rest_47 : decode cX10_rest 47 = .ok (.aload_n 0, 1) := by decide +kernel
theorem dX10_rest_48 : decode cX10_rest 48 = .ok (.getfield 31, 3) := by decide +kernel
theorem dX10_rest_51 : decode cX10_rest 51 = .ok (.iload_n 1, 1) := by decide +kernel
theorem dX10_rest_52 : decode cX10_rest 52 = .ok (.iaload, 1) := by decide +kernel
theorem dX10_rest_53 : decode cX10_rest 53 = .ok (.iload_n 2, 1) := by decide +kernel
theorem dX10_rest_54 : decode cX10_rest 54 = .ok (.irem, 1) := by decide +kernel
theorem dX10_rest_55 : decode cX10_rest 55 = .ok (.ireturn, 1) := by decide +kernel
theorem dX10_tell_0 : decode cX10_tell 0 = .ok (.aload_n 0, 1) := by decide +kernel
theorem dX10_tell_1 : decode cX10_tell 1 = .ok (.getfield 328, 3) := by decide +kernel
theorem dX10_tell_4 : decode cX10_tell 4 = .ok (.bipush 60, 2) := by decide +kernel
theorem dX10_tell_6 : decode cX10_tell 6 = .ok (.if_icmp .ne 6, 3) := by decide +kernel
theorem dX10_tell_9 : decode cX10_tell 9 = .ok (.ldc 94, 2) := by decide +kernel
theorem dX10_tell_11 : decode cX10_tell 11 = .ok (.ireturn, 1) := by decide +kernel
theorem dX10_tell_12 : decode cX10_tell 12 = .ok (.aload_n 0, 1) := by decide +kernel
theorem dX10_tell_13 : decode cX10_tell 13 = .ok (.getfield 64, 3) := by decide +kernel
theorem dX10_tell_16 : decode cX10_tell 16 = .ok (.aload_n 0, 1) := by decide +kernel
theorem dX10_tell_17 : decode cX10_tell 17 = .ok (.getfield 328, 3) := by decide +kernel
theorem dX10_tell_20 : decode cX10_tell 20 = .ok (.iload_n 1, 1) := by decide +kernel
theorem dX10_tell_21 : decode cX10_tell 21 = .ok (.iastore, 1) := by decide +kernel
theorem dX10_tell_22 : decode cX10_tell 22 = .ok (.aload_n 0, 1) := by decide +kernel
theorem dX10_tell_23 : decode cX10_tell 23 = .ok (.dup, 1) := by decide +kernel
theorem dX10_tell_24 : decode cX10_tell 24 = .ok (.getfield 328, 3) := by decide +kernel
theorem dX10_tell_27 : decode cX10_tell 27 = .ok (.iconst 1, 1) := by decide +kernel
theorem dX10_tell_28 : decode cX10_tell 28 = .ok (.iadd, 1) := by decide +kernel
theorem dX10_tell_29 : decode cX10_tell 29 = .ok (.putfield 328, 3) := by decide +kernel
theorem dX10_tell_32 : decode cX10_tell 32 = .ok (.aload_n 0, 1) := by decide +kernel
theorem dX10_tell_33 : decode cX10_tell 33 = .ok (.getfield 328, 3) := by decide +kernel
theorem dX10_tell_36 : decode cX10_tell 36 = .ok (.ireturn, 1) := by decide +kernel
theorem dX10_setAside_0 : decode cX10_setAside 0 = .ok (.iconst 0, 1) := by decide +kernel
theorem dX10_setAside_1 : decode cX10_setAside 1 = .ok (.istore_n 3, 1) := by decide +kernel
theorem dX10_setAside_2 : decode cX10_setAside 2 = .ok (.iload_n 3, 1) := by decide +kernel
theorem dX10_setAside_3 : decode cX10_setAside 3 = .ok (.sipush 2900, 3) := by decide +kernel
theorem dX10_setAside_6 : decode cX10_setAside 6 = .ok (.if_icmp .ge 15, 3) := by decide +kernel
theorem dX10_setAside_9 : decode cX10_setAside 9 = .ok (.aload_n 2, 1) := by decide +kernel
theorem dX10_setAside_10 : decode cX10_setAside 10 = .ok (.iload_n 3, 1) := by decide +kernel
theorem dX10_setAside_11 : decode cX10_setAside 11 = .ok (.aload_n 1, 1) := by decide +kernel
theorem dX10_setAside_12 : decode cX10_setAside 12 = .ok (.iload_n 3, 1) := by decide +kernel
theorem dX10_setAside_13 : decode cX10_setAside 13 = .ok (.iaload, 1) := by decide +kernel
theorem dX10_setAside_14 : decode cX10_setAside 14 = .ok (.iastore, 1) := by decide +kernel
theorem dX10_setAside_15 : decode cX10_setAside 15 = .ok (.iinc 3 1, 3) := by decide +kernel
theorem dX10_setAside_18 : decode cX10_setAside 18 = .ok (.goto (-16), 3) := by decide +kernel
theorem dX10_setAside_21 : decode cX10_setAside 21 = .ok (.return_, 1) := by decide +kernel
theorem dX10_check_0 : decode cX10_check 0 = .ok (.aload_n 0, 1) := by decide +kernel
theorem dX10_check_1 : decode cX10_check 1 = .ok (.getfield 328, 3) := by decide +kernel
theorem dX10_check_4 : decode cX10_check 4 = .ok (.istore_n 2, 1) := by decide +kernel
theorem dX10_check_5 : decode cX10_check 5 = .ok (.aload_n 0, 1) := by decide +kernel
theorem dX10_check_6 : decode cX10_check 6 = .ok (.iconst 0, 1) := by decide +kernel
theorem dX10_check_7 : decode cX10_check 7 = .ok (.putfield 328, 3) := by decide +kernel
theorem dX10_check_10 : decode cX10_check 10 = .ok (.iload_n 1, 1) := by decide +kernel
theorem dX10_check_11 : decode cX10_check 11 = .ok (.i2l, 1) := by decide +kernel
theorem dX10_check_12 : decode cX10_check 12 = .ok (.lconst 1, 1) := by decide +kernel
theorem dX10_check_13 : decode cX10_check 13 = .ok (.ldc2_w 331, 3) := by decide +kernel
theorem dX10_check_16 : decode cX10_check 16 = .ok (.invokestatic 71, 3) := by decide +kernel
theorem dX10_check_19 : decode cX10_check 19 = .ok (.ifCond .ne 6, 3) := by decide +kernel
theorem dX10_check_22 : decode cX10_check 22 = .ok (.ldc 93, 2) := by decide +kernel
theorem dX10_check_24 : decode cX10_check 24 = .ok (.ireturn, 1) := by decide +kernel
theorem dX10_check_25 : decode cX10_check 25 = .ok (.aload_n 0, 1) := by decide +kernel
theorem dX10_check_26 : decode cX10_check 26 = .ok (.getfield 333, 3) := by decide +kernel
theorem dX10_check_29 : decode cX10_check 29 = .ok (.ifCond .ne 6, 3) := by decide +kernel
theorem dX10_check_32 : decode cX10_check 32 = .ok (.ldc 158, 2) := by decide +kernel
theorem dX10_check_34 : decode cX10_check 34 = .ok (.ireturn, 1) := by decide +kernel
theorem dX10_check_35 : decode cX10_check 35 = .ok (.aload_n 0, 1) := by decide +kernel
theorem dX10_check_36 : decode cX10_check 36 = .ok (.aload_n 0, 1) := by decide +kernel
theorem dX10_check_37 : decode cX10_check 37 = .ok (.getfield 7, 3) := by decide +kernel
theorem dX10_check_40 : decode cX10_check 40 = .ok (.aload_n 0, 1) := by decide +kernel
theorem dX10_check_41 : decode cX10_check 41 = .ok (.getfield 16, 3) := by decide +kernel
theorem dX10_check_44 : decode cX10_check 44 = .ok (.invokevirtual 337, 3) := by decide +kernel
theorem dX10_check_47 : decode cX10_check 47 = .ok (.aload_n 0, 1) := by decide +kernel
theorem dX10_check_48 : decode cX10_check 48 = .ok (.aload_n 0, 1) := by decide +kernel
theorem dX10_check_49 : decode cX10_check 49 = .ok (.getfield 13, 3) := by decide +kernel
theorem dX10_check_52 : decode cX10_check 52 = .ok (.aload_n 0, 1) := by decide +kernel
theorem dX10_check_53 : decode cX10_check 53 = .ok (.getfield 7, 3) := by decide +kernel
theorem dX10_check_56 : decode cX10_check 56 = .ok (.invokevirtual 337, 3) := by decide +kernel
theorem dX10_check_59 : decode cX10_check 59 = .ok (.iconst 0, 1) := by decide +kernel
theorem dX10_check_60 : decode cX10_check 60 = .ok (.istore_n 3, 1) := by decide +kernel
theorem dX10_check_61 : decode cX10_check 61 = .ok (.iconst 0, 1) := by decide +kernel
theorem dX10_check_62 : decode cX10_check 62 = .ok (.istore 4, 2) := by decide +kernel
theorem dX10_check_64 : decode cX10_check 64 = .ok (.iload 4, 2) := by decide +kernel
theorem dX10_check_66 : decode cX10_check 66 = .ok (.iload_n 1, 1) := by decide +kernel
theorem dX10_check_67 : decode cX10_check 67 = .ok (.if_icmp .ge 52, 3) := by decide +kernel
theorem dX10_check_70 : decode cX10_check 70 = .ok (.aload_n 0, 1) := by decide +kernel
theorem dX10_check_71 : decode cX10_check 71 = .ok (.getfield 7, 3) := by decide +kernel
theorem dX10_check_74 : decode cX10_check 74 = .ok (.iconst 2, 1) := by decide +kernel
theorem dX10_check_75 : decode cX10_check 75 = .ok (.iaload, 1) := by decide +kernel
theorem dX10_check_76 : decode cX10_check 76 = .ok (.sipush 9999, 3) := by decide +kernel
theorem dX10_check_79 : decode cX10_check 79 = .ok (.if_icmp .ge 40, 3) := by decide +kernel
theorem dX10_check_82 : decode cX10_check 82 = .ok (.aload_n 0, 1) := by decide +kernel
theorem dX10_check_83 : decode cX10_check 83 = .ok (.invokevirtual 182, 3) := by decide +kernel
theorem dX10_check_86 : decode cX10_check 86 = .ok (.aload_n 0, 1) := by decide +kernel
theorem dX10_check_87 : decode cX10_check 87 = .ok (.getfield 67, 3) := by decide +kernel
theorem dX10_check_90 : decode cX10_check 90 = .ok (.iload_n 3, 1) := by decide +kernel
theorem dX10_check_91 : decode cX10_check 91 = .ok (.aload_n 0, 1) := by decide +kernel
theorem dX10_check_92 : decode cX10_check 92 = .ok (.getfield 7, 3) := by decide +kernel
theorem dX10_check_95 : decode cX10_check 95 = .ok (.iconst 3, 1) := by decide +kernel
theorem dX10_check_96 : decode cX10_check 96 = .ok (.iaload, 1) := by decide +kernel
theorem dX10_check_97 : decode cX10_check 97 = .ok (.iastore, 1) := by decide +kernel
theorem dX10_check_98 : decode cX10_check 98 = .ok (.aload_n 0, 1) := by decide +kernel
theorem dX10_check_99 : decode cX10_check 99 = .ok (.getfield 67, 3) := by decide +kernel
theorem dX10_check_102 : decode cX10_check 102 = .ok (.iload_n 3, 1) := by decide +kernel
theorem dX10_check_103 : decode cX10_check 103 = .ok (.iconst 1, 1) := by decide +kernel
theorem dX10_check_104 : decode cX10_check 104 = .ok (.iadd, 1) := by decide +kernel
theorem dX10_check_105 : decode cX10_check 105 = .ok (.aload_n 0, 1) := by decide +kernel
theorem dX10_check_106 : decode cX10_check 106 = .ok (.invokevirtual 188, 3) := by decide +kernel
theorem dX10_check_109 : decode cX10_check 109 = .ok (.iastore, 1) := by decide +kernel
theorem dX10_check_110 : decode cX10_check 110 = .ok (.iinc 3 2, 3) := by decide +kernel
theorem dX10_check_113 : decode cX10_check 113 = .ok (.iinc 4 1, 3) := by decide +kernel
theorem dX10_check_116 : decode cX10_check 116 = .ok (.goto (-52), 3) := by decide +kernel
theorem dX10_check_119 : decode cX10_check 119 = .ok (.aload_n 0, 1) := by decide +kernel
theorem dX10_check_120 : decode cX10_check 120 = .ok (.aload_n 0, 1) := by decide +kernel
theorem dX10_check_121 : decode cX10_check 121 = .ok (.getfield 16, 3) := by decide +kernel
theorem dX10_check_124 : decode cX10_check 124 = .ok (.aload_n 0, 1) := by decide +kernel
theorem dX10_check_125 : decode cX10_check 125 = .ok (.getfield 7, 3) := by decide +kernel
theorem dX10_check_128 : decode cX10_check 128 = .ok (.invokevirtual 337, 3) := by decide +kernel
theorem dX10_check_131 : decode cX10_check 131 = .ok (.iconst 0, 1) := by decide +kernel
theorem dX10_check_132 : decode cX10_check 132 = .ok (.istore 4, 2) := by decide +kernel
theorem dX10_check_134 : decode cX10_check 134 = .ok (.iload 4, 2) := by decide +kernel
theorem dX10_check_136 : decode cX10_check 136 = .ok (.iload_n 2, 1) := by decide +kernel
theorem dX10_check_137 : decode cX10_check 137 = .ok (.if_icmp .ge 32, 3) := by decide +kernel
theorem dX10_check_140 : decode cX10_check 140 = .ok (.iload 4, 2) := by decide +kernel
theorem dX10_check_142 : decode cX10_check 142 = .ok (.iload_n 3, 1) := by decide +kernel
theorem dX10_check_143 : decode cX10_check 143 = .ok (.if_icmp .ge 26, 3) := by decide +kernel
theorem dX10_check_146 : decode cX10_check 146 = .ok (.aload_n 0, 1) := by decide +kernel
theorem dX10_check_147 : decode cX10_check 147 = .ok (.getfield 64, 3) := by decide +kernel
theorem dX10_check_150 : decode cX10_check 150 = .ok (.iload 4, 2) := by decide +kernel
theorem dX10_check_152 : decode cX10_check 152 = .ok (.iaload, 1) := by decide +kernel
theorem dX10_check_153 : decode cX10_check 153 = .ok (.aload_n 0, 1) := by decide +kernel
theorem dX10_check_154 : decode cX10_check 154 = .ok (.getfield 67, 3) := by decide +kernel
theorem dX10_check_157 : decode cX10_check 157 = .ok (.iload 4, 2) := by decide +kernel
theorem dX10_check_159 : decode cX10_check 159 = .ok (.iaload, 1) := by decide +kernel
theorem dX10_check_160 : decode cX10_check 160 = .ok (.if_icmp .ne 9, 3) := by decide +kernel
theorem dX10_check_163 : decode cX10_check 163 = .ok (.iinc 4 1, 3) := by decide +kernel
theorem dX10_check_166 : decode cX10_check 166 = .ok (.goto (-32), 3) := by decide +kernel
theorem dX10_check_169 : decode cX10_check 169 = .ok (.iload 4, 2) := by decide +kernel
theorem dX10_check_171 : decode cX10_check 171 = .ok (.iload_n 2, 1) := by decide +kernel
theorem dX10_check_172 : decode cX10_check 172 = .ok (.if_icmp .ne 13, 3) := by decide +kernel
theorem dX10_check_175 : decode cX10_check 175 = .ok (.iload 4, 2) := by decide +kernel
theorem dX10_check_177 : decode cX10_check 177 = .ok (.iload_n 3, 1) := by decide +kernel
theorem dX10_check_178 : decode cX10_check 178 = .ok (.if_icmp .ne 7, 3) := by decide +kernel
theorem dX10_check_181 : decode cX10_check 181 = .ok (.iconst 0, 1) := by decide +kernel
theorem dX10_check_182 : decode cX10_check 182 = .ok (.goto 7, 3) := by decide +kernel
theorem dX10_check_185 : decode cX10_check 185 = .ok (.iconst 1, 1) := by decide +kernel
theorem dX10_check_186 : decode cX10_check 186 = .ok (.iload 4, 2) := by decide +kernel
theorem dX10_check_188 : decode cX10_check 188 = .ok (.iadd, 1) := by decide +kernel
theorem dX10_check_189 : decode cX10_check 189 = .ok (.ireturn, 1) := by decide +kernel
theorem dX10_keep_0 : decode cX10_keep 0 = .ok (.aload_n 0, 1) := by decide +kernel
theorem dX10_keep_1 : decode cX10_keep 1 = .ok (.iconst 1, 1) := by decide +kernel
theorem dX10_keep_2 : decode cX10_keep 2 = .ok (.putfield 333, 3) := by decide +kernel
theorem dX10_keep_5 : decode cX10_keep 5 = .ok (.aload_n 0, 1) := by decide +kernel
theorem dX10_keep_6 : decode cX10_keep 6 = .ok (.aload_n 0, 1) := by decide +kernel
theorem dX10_keep_7 : decode cX10_keep 7 = .ok (.getfield 7, 3) := by decide +kernel
theorem dX10_keep_10 : decode cX10_keep 10 = .ok (.aload_n 0, 1) := by decide +kernel
theorem dX10_keep_11 : decode cX10_keep 11 = .ok (.getfield 13, 3) := by decide +kernel
theorem dX10_keep_14 : decode cX10_keep 14 = .ok (.invokevirtual 337, 3) := by decide +kernel
theorem dX10_keep_17 : decode cX10_keep 17 = .ok (.aload_n 0, 1) := by decide +kernel
theorem dX10_keep_18 : decode cX10_keep 18 = .ok (.getfield 7, 3) := by decide +kernel
theorem dX10_keep_21 : decode cX10_keep 21 = .ok (.iconst 0, 1) := by decide +kernel
theorem dX10_keep_22 : decode cX10_keep 22 = .ok (.iaload, 1) := by decide +kernel
theorem dX10_keep_23 : decode cX10_keep 23 = .ok (.ireturn, 1) := by decide +kernel
theorem dX10_back_0 : decode cX10_back 0 = .ok (.aload_n 0, 1) := by decide +kernel
theorem dX10_back_1 : decode cX10_back 1 = .ok (.getfield 333, 3) := by decide +kernel
theorem dX10_back_4 : decode cX10_back 4 = .ok (.ifCond .ne 6, 3) := by decide +kernel
theorem dX10_back_7 : decode cX10_back 7 = .ok (.ldc 158, 2) := by decide +kernel
theorem dX10_back_9 : decode cX10_back 9 = .ok (.ireturn, 1) := by decide +kernel
theorem dX10_back_10 : decode cX10_back 10 = .ok (.aload_n 0, 1) := by decide +kernel
theorem dX10_back_11 : decode cX10_back 11 = .ok (.aload_n 0, 1) := by decide +kernel
theorem dX10_back_12 : decode cX10_back 12 = .ok (.getfield 13, 3) := by decide +kernel
theorem dX10_back_15 : decode cX10_back 15 = .ok (.aload_n 0, 1) := by decide +kernel
theorem dX10_back_16 : decode cX10_back 16 = .ok (.getfield 7, 3) := by decide +kernel
theorem dX10_back_19 : decode cX10_back 19 = .ok (.invokevirtual 337, 3) := by decide +kernel
theorem dX10_back_22 : decode cX10_back 22 = .ok (.aload_n 0, 1) := by decide +kernel
theorem dX10_back_23 : decode cX10_back 23 = .ok (.getfield 7, 3) := by decide +kernel
theorem dX10_back_26 : decode cX10_back 26 = .ok (.iconst 0, 1) := by decide +kernel
theorem dX10_back_27 : decode cX10_back 27 = .ok (.iaload, 1) := by decide +kernel
theorem dX10_back_28 : decode cX10_back 28 = .ok (.ireturn, 1) := by decide +kernel
theorem dX10_count_0 : decode cX10_count 0 = .ok (.iload_n 1, 1) := by decide +kernel
theorem dX10_count_1 : decode cX10_count 1 = .ok (.tableswitch 114 0 8 #[51, 58, 65, 73, 81, 89, 96, 101, 106], 51) := by decide +kernel
theorem dX10_count_52 : decode cX10_count 52 = .ok (.aload_n 0, 1) := by decide +kernel
theorem dX10_count_53 : decode cX10_count 53 = .ok (.getfield 7, 3) := by decide +kernel
theorem dX10_count_56 : decode cX10_count 56 = .ok (.iconst 0, 1) := by decide +kernel
theorem dX10_count_57 : decode cX10_count 57 = .ok (.iaload, 1) := by decide +kernel
theorem dX10_count_58 : decode cX10_count 58 = .ok (.ireturn, 1) := by decide +kernel
theorem dX10_count_59 : decode cX10_count 59 = .ok (.aload_n 0, 1) := by decide +kernel
theorem dX10_count_60 : decode cX10_count 60 = .ok (.getfield 7, 3) := by decide +kernel
theorem dX10_count_63 : decode cX10_count 63 = .ok (.iconst 2, 1) := by decide +kernel
theorem dX10_count_64 : decode cX10_count 64 = .ok (.iaload, 1) := by decide +kernel
theorem dX10_count_65 : decode cX10_count 65 = .ok (.ireturn, 1) := by decide +kernel
theorem dX10_count_66 : decode cX10_count 66 = .ok (.aload_n 0, 1) := by decide +kernel
theorem dX10_count_67 : decode cX10_count 67 = .ok (.getfield 7, 3) := by decide +kernel
theorem dX10_count_70 : decode cX10_count 70 = .ok (.bipush 8, 2) := by decide +kernel
theorem dX10_count_72 : decode cX10_count 72 = .ok (.iaload, 1) := by decide +kernel
theorem dX10_count_73 : decode cX10_count 73 = .ok (.ireturn, 1) := by decide +kernel
theorem dX10_count_74 : decode cX10_count 74 = .ok (.aload_n 0, 1) := by decide +kernel
theorem dX10_count_75 : decode cX10_count 75 = .ok (.getfield 7, 3) := by decide +kernel
theorem dX10_count_78 : decode cX10_count 78 = .ok (.bipush 6, 2) := by decide +kernel
theorem dX10_count_80 : decode cX10_count 80 = .ok (.iaload, 1) := by decide +kernel
theorem dX10_count_81 : decode cX10_count 81 = .ok (.ireturn, 1) := by decide +kernel
theorem dX10_count_82 : decode cX10_count 82 = .ok (.aload_n 0, 1) := by decide +kernel
theorem dX10_count_83 : decode cX10_count 83 = .ok (.getfield 7, 3) := by decide +kernel
theorem dX10_count_86 : decode cX10_count 86 = .ok (.bipush 7, 2) := by decide +kernel
theorem dX10_count_88 : decode cX10_count 88 = .ok (.iaload, 1) := by decide +kernel
theorem dX10_count_89 : decode cX10_count 89 = .ok (.ireturn, 1) := by decide +kernel
theorem dX10_count_90 : decode cX10_count 90 = .ok (.aload_n 0, 1) := by decide +kernel
theorem dX10_count_91 : decode cX10_count 91 = .ok (.getfield 7, 3) := by decide +kernel
theorem dX10_count_94 : decode cX10_count 94 = .ok (.iconst 1, 1) := by decide +kernel
theorem dX10_count_95 : decode cX10_count 95 = .ok (.iaload, 1) := by decide +kernel
theorem dX10_count_96 : decode cX10_count 96 = .ok (.ireturn, 1) := by decide +kernel
theorem dX10_count_97 : decode cX10_count 97 = .ok (.aload_n 0, 1) := by decide +kernel
theorem dX10_count_98 : decode cX10_count 98 = .ok (.getfield 328, 3) := by decide +kernel
theorem dX10_count_101 : decode cX10_count 101 = .ok (.ireturn, 1) := by decide +kernel
theorem dX10_count_102 : decode cX10_count 102 = .ok (.aload_n 0, 1) := by decide +kernel
theorem dX10_count_103 : decode cX10_count 103 = .ok (.getfield 211, 3) := by decide +kernel
theorem dX10_count_106 : decode cX10_count 106 = .ok (.ireturn, 1) := by decide +kernel
theorem dX10_count_107 : decode cX10_count 107 = .ok (.aload_n 0, 1) := by decide +kernel
theorem dX10_count_108 : decode cX10_count 108 = .ok (.getfield 7, 3) := by decide +kernel
theorem dX10_count_111 : decode cX10_count 111 = .ok (.bipush 9, 2) := by decide +kernel
theorem dX10_count_113 : decode cX10_count 113 = .ok (.iaload, 1) := by decide +kernel
theorem dX10_count_114 : decode cX10_count 114 = .ok (.ireturn, 1) := by decide +kernel
theorem dX10_count_115 : decode cX10_count 115 = .ok (.ldc 93, 2) := by decide +kernel
theorem dX10_count_117 : decode cX10_count 117 = .ok (.ireturn, 1) := by decide +kernel
