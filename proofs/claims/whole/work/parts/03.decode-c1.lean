theorem dX9_fine_43 : decode cX9_fine 43 = .ok (.aload_n 2, 1) := by decide +kernel
theorem dX9_fine_44 : decode cX9_fine 44 = .ok (.invokevirtual 252, 3) := by decide +kernel
theorem dX9_fine_47 : decode cX9_fine 47 = .ok (.aload_n 2, 1) := by decide +kernel
theorem dX9_fine_48 : decode cX9_fine 48 = .ok (.getfield 93, 3) := by decide +kernel
theorem dX9_fine_51 : decode cX9_fine 51 = .ok (.iconst 0, 1) := by decide +kernel
theorem dX9_fine_52 : decode cX9_fine 52 = .ok (.invokevirtual 246, 3) := by decide +kernel
theorem dX9_fine_55 : decode cX9_fine 55 = .ok (.ireturn, 1) := by decide +kernel
theorem dX9_feed_0 : decode cX9_feed 0 = .ok (.aload_n 0, 1) := by decide +kernel
theorem dX9_feed_1 : decode cX9_feed 1 = .ok (.getfield 253, 3) := by decide +kernel
theorem dX9_feed_4 : decode cX9_feed 4 = .ok (.bipush 12, 2) := by decide +kernel
theorem dX9_feed_6 : decode cX9_feed 6 = .ok (.iadd, 1) := by decide +kernel
theorem dX9_feed_7 : decode cX9_feed 7 = .ok (.bipush 96, 2) := by decide +kernel
theorem dX9_feed_9 : decode cX9_feed 9 = .ok (.if_icmp .le 6, 3) := by decide +kernel
theorem dX9_feed_12 : decode cX9_feed 12 = .ok (.ldc 76, 2) := by decide +kernel
theorem dX9_feed_14 : decode cX9_feed 14 = .ok (.ireturn, 1) := by decide +kernel
theorem dX9_feed_15 : decode cX9_feed 15 = .ok (.aload_n 0, 1) := by decide +kernel
theorem dX9_feed_16 : decode cX9_feed 16 = .ok (.iload_n 1, 1) := by decide +kernel
theorem dX9_feed_17 : decode cX9_feed 17 = .ok (.invokevirtual 256, 3) := by decide +kernel
theorem dX9_feed_20 : decode cX9_feed 20 = .ok (.aload_n 0, 1) := by decide +kernel
theorem dX9_feed_21 : decode cX9_feed 21 = .ok (.iload_n 2, 1) := by decide +kernel
theorem dX9_feed_22 : decode cX9_feed 22 = .ok (.invokevirtual 256, 3) := by decide +kernel
theorem dX9_feed_25 : decode cX9_feed 25 = .ok (.aload_n 0, 1) := by decide +kernel
theorem dX9_feed_26 : decode cX9_feed 26 = .ok (.iload_n 3, 1) := by decide +kernel
theorem dX9_feed_27 : decode cX9_feed 27 = .ok (.invokevirtual 256, 3) := by decide +kernel
theorem dX9_feed_30 : decode cX9_feed 30 = .ok (.aload_n 0, 1) := by decide +kernel
theorem dX9_feed_31 : decode cX9_feed 31 = .ok (.getfield 253, 3) := by decide +kernel
theorem dX9_feed_34 : decode cX9_feed 34 = .ok (.ireturn, 1) := by decide +kernel
theorem dX9_trim_0 : decode cX9_trim 0 = .ok (.iload_n 1, 1) := by decide +kernel
theorem dX9_trim_1 : decode cX9_trim 1 = .ok (.ifCond .lt 11, 3) := by decide +kernel
theorem dX9_trim_4 : decode cX9_trim 4 = .ok (.iload_n 1, 1) := by decide +kernel
theorem dX9_trim_5 : decode cX9_trim 5 = .ok (.aload_n 0, 1) := by decide +kernel
theorem dX9_trim_6 : decode cX9_trim 6 = .ok (.getfield 253, 3) := by decide +kernel
theorem dX9_trim_9 : decode cX9_trim 9 = .ok (.if_icmp .le 6, 3) := by decide +kernel
theorem dX9_trim_12 : decode cX9_trim 12 = .ok (.ldc 71, 2) := by decide +kernel
theorem dX9_trim_14 : decode cX9_trim 14 = .ok (.ireturn, 1) := by decide +kernel
theorem dX9_trim_15 : decode cX9_trim 15 = .ok (.aload_n 0, 1) := by decide +kernel
theorem dX9_trim_16 : decode cX9_trim 16 = .ok (.iload_n 1, 1) := by decide +kernel
theorem dX9_trim_17 : decode cX9_trim 17 = .ok (.putfield 253, 3) := by decide +kernel
theorem dX9_trim_20 : decode cX9_trim 20 = .ok (.iload_n 1, 1) := by decide +kernel
theorem dX9_trim_21 : decode cX9_trim 21 = .ok (.ireturn, 1) := by decide +kernel
theorem dX9_text_0 : decode cX9_text 0 = .ok (.aload_n 0, 1) := by decide +kernel
theorem dX9_text_1 : decode cX9_text 1 = .ok (.getfield 32, 3) := by decide +kernel
theorem dX9_text_4 : decode cX9_text 4 = .ok (.aload_n 0, 1) := by decide +kernel
theorem dX9_text_5 : decode cX9_text 5 = .ok (.getfield 36, 3) := by decide +kernel
theorem dX9_text_8 : decode cX9_text 8 = .ok (.aload_n 0, 1) := by decide +kernel
theorem dX9_text_9 : decode cX9_text 9 = .ok (.getfield 253, 3) := by decide +kernel
theorem dX9_text_12 : decode cX9_text 12 = .ok (.invokevirtual 260, 3) := by decide +kernel
theorem dX9_text_15 : decode cX9_text 15 = .ok (.istore_n 1, 1) := by decide +kernel
theorem dX9_text_16 : decode cX9_text 16 = .ok (.aload_n 0, 1) := by decide +kernel
theorem dX9_text_17 : decode cX9_text 17 = .ok (.iconst 0, 1) := by decide +kernel
theorem dX9_text_18 : decode cX9_text 18 = .ok (.putfield 253, 3) := by decide +kernel
theorem dX9_text_21 : decode cX9_text 21 = .ok (.iload_n 1, 1) := by decide +kernel
theorem dX9_text_22 : decode cX9_text 22 = .ok (.iconst (-1), 1) := by decide +kernel
theorem dX9_text_23 : decode cX9_text 23 = .ok (.if_icmp .eq 8, 3) := by decide +kernel
theorem dX9_text_26 : decode cX9_text 26 = .ok (.bipush (-100), 2) := by decide +kernel
theorem dX9_text_28 : decode cX9_text 28 = .ok (.iload_n 1, 1) := by decide +kernel
theorem dX9_text_29 : decode cX9_text 29 = .ok (.isub, 1) := by decide +kernel
theorem dX9_text_30 : decode cX9_text 30 = .ok (.ireturn, 1) := by decide +kernel
theorem dX9_text_31 : decode cX9_text 31 = .ok (.aload_n 0, 1) := by decide +kernel
theorem dX9_text_32 : decode cX9_text 32 = .ok (.getfield 10, 3) := by decide +kernel
theorem dX9_text_35 : decode cX9_text 35 = .ok (.getfield 264, 3) := by decide +kernel
theorem dX9_text_38 : decode cX9_text 38 = .ok (.bipush 14, 2) := by decide +kernel
theorem dX9_text_40 : decode cX9_text 40 = .ok (.if_icmp .lt 6, 3) := by decide +kernel
theorem dX9_text_43 : decode cX9_text 43 = .ok (.ldc 76, 2) := by decide +kernel
theorem dX9_text_45 : decode cX9_text 45 = .ok (.ireturn, 1) := by decide +kernel
theorem dX9_text_46 : decode cX9_text 46 = .ok (.aload_n 0, 1) := by decide +kernel
theorem dX9_text_47 : decode cX9_text 47 = .ok (.getfield 32, 3) := by decide +kernel
theorem dX9_text_50 : decode cX9_text 50 = .ok (.aload_n 0, 1) := by decide +kernel
theorem dX9_text_51 : decode cX9_text 51 = .ok (.getfield 10, 3) := by decide +kernel
theorem dX9_text_54 : decode cX9_text 54 = .ok (.getfield 264, 3) := by decide +kernel
theorem dX9_text_57 : decode cX9_text 57 = .ok (.invokevirtual 267, 3) := by decide +kernel
theorem dX9_text_60 : decode cX9_text 60 = .ok (.astore_n 2, 1) := by decide +kernel
theorem dX9_text_61 : decode cX9_text 61 = .ok (.aload_n 0, 1) := by decide +kernel
theorem dX9_text_62 : decode cX9_text 62 = .ok (.getfield 10, 3) := by decide +kernel
theorem dX9_text_65 : decode cX9_text 65 = .ok (.getfield 271, 3) := by decide +kernel
theorem dX9_text_68 : decode cX9_text 68 = .ok (.aload_n 0, 1) := by decide +kernel
theorem dX9_text_69 : decode cX9_text 69 = .ok (.getfield 10, 3) := by decide +kernel
theorem dX9_text_72 : decode cX9_text 72 = .ok (.getfield 264, 3) := by decide +kernel
theorem dX9_text_75 : decode cX9_text 75 = .ok (.aload_n 2, 1) := by decide +kernel
theorem dX9_text_76 : decode cX9_text 76 = .ok (.aastore, 1) := by decide +kernel
theorem dX9_text_77 : decode cX9_text 77 = .ok (.aload_n 0, 1) := by decide +kernel
theorem dX9_text_78 : decode cX9_text 78 = .ok (.getfield 10, 3) := by decide +kernel
theorem dX9_text_81 : decode cX9_text 81 = .ok (.getfield 242, 3) := by decide +kernel
theorem dX9_text_84 : decode cX9_text 84 = .ok (.aload_n 2, 1) := by decide +kernel
theorem dX9_text_85 : decode cX9_text 85 = .ok (.getfield 274, 3) := by decide +kernel
theorem dX9_text_88 : decode cX9_text 88 = .ok (.aload_n 2, 1) := by decide +kernel
theorem dX9_text_89 : decode cX9_text 89 = .ok (.aastore, 1) := by decide +kernel
theorem dX9_text_90 : decode cX9_text 90 = .ok (.aload_n 0, 1) := by decide +kernel
theorem dX9_text_91 : decode cX9_text 91 = .ok (.getfield 10, 3) := by decide +kernel
theorem dX9_text_94 : decode cX9_text 94 = .ok (.dup, 1) := by decide +kernel
theorem dX9_text_95 : decode cX9_text 95 = .ok (.getfield 264, 3) := by decide +kernel
theorem dX9_text_98 : decode cX9_text 98 = .ok (.dup_x1, 1) := by decide +kernel
theorem dX9_text_99 : decode cX9_text 99 = .ok (.iconst 1, 1) := by decide +kernel
theorem dX9_text_100 : decode cX9_text 100 = .ok (.iadd, 1) := by decide +kernel
theorem dX9_text_101 : decode cX9_text 101 = .ok (.putfield 264, 3) := by decide +kernel
theorem dX9_text_104 : decode cX9_text 104 = .ok (.ireturn, 1) := by decide +kernel
theorem dX9_textTold_0 : decode cX9_textTold 0 = .ok (.iload_n 1, 1) := by decide +kernel
theorem dX9_textTold_1 : decode cX9_textTold 1 = .ok (.ifCond .lt 23, 3) := by decide +kernel
theorem dX9_textTold_4 : decode cX9_textTold 4 = .ok (.iload_n 1, 1) := by decide +kernel
theorem dX9_textTold_5 : decode cX9_textTold 5 = .ok (.aload_n 0, 1) := by decide +kernel
theorem dX9_textTold_6 : decode cX9_textTold 6 = .ok (.getfield 10, 3) := by decide +kernel
theorem dX9_textTold_9 : decode cX9_textTold 9 = .ok (.getfield 264, 3) := by decide +kernel
theorem dX9_textTold_12 : decode cX9_textTold 12 = .ok (.if_icmp .ge 12, 3) := by decide +kernel
theorem dX9_textTold_15 : decode cX9_textTold 15 = .ok (.iload_n 2, 1) := by decide +kernel
theorem dX9_textTold_16 : decode cX9_textTold 16 = .ok (.ifCond .lt 8, 3) := by decide +kernel
theorem dX9_textTold_19 : decode cX9_textTold 19 = .ok (.iload_n 2, 1) := by decide +kernel
theorem dX9_textTold_20 : decode cX9_textTold 20 = .ok (.iconst 1, 1) := by decide +kernel
theorem dX9_textTold_21 : decode cX9_textTold 21 = .ok (.if_icmp .le 6, 3) := by decide +kernel
theorem dX9_textTold_24 : decode cX9_textTold 24 = .ok (.ldc 71, 2) := by decide +kernel
theorem dX9_textTold_26 : decode cX9_textTold 26 = .ok (.ireturn, 1) := by decide +kernel
theorem dX9_textTold_27 : decode cX9_textTold 27 = .ok (.aload_n 0, 1) := by decide +kernel
theorem dX9_textTold_28 : decode cX9_textTold 28 = .ok (.getfield 10, 3) := by decide +kernel
theorem dX9_textTold_31 : decode cX9_textTold 31 = .ok (.getfield 271, 3) := by decide +kernel
theorem dX9_textTold_34 : decode cX9_textTold 34 = .ok (.iload_n 1, 1) := by decide +kernel
theorem dX9_textTold_35 : decode cX9_textTold 35 = .ok (.aaload, 1) := by decide +kernel
theorem dX9_textTold_36 : decode cX9_textTold 36 = .ok (.astore_n 3, 1) := by decide +kernel
theorem dX9_textTold_37 : decode cX9_textTold 37 = .ok (.aload_n 3, 1) := by decide +kernel
theorem dX9_textTold_38 : decode cX9_textTold 38 = .ok (.ifnonnull 6, 3) := by decide +kernel
theorem dX9_textTold_41 : decode cX9_textTold 41 = .ok (.ldc 71, 2) := by decide +kernel
theorem dX9_textTold_43 : decode cX9_textTold 43 = .ok (.ireturn, 1) := by decide +kernel
theorem dX9_textTold_44 : decode cX9_textTold 44 = .ok (.iload_n 2, 1) := by decide +kernel
theorem dX9_textTold_45 : decode cX9_textTold 45 = .ok (.ifCond .ne 10, 3) := by decide +kernel
theorem dX9_textTold_48 : decode cX9_textTold 48 = .ok (.aload_n 3, 1) := by decide +kernel
theorem dX9_textTold_49 : decode cX9_textTold 49 = .ok (.getfield 274, 3) := by decide +kernel
theorem dX9_textTold_52 : decode cX9_textTold 52 = .ok (.goto 7, 3) := by decide +kernel
theorem dX9_textTold_55 : decode cX9_textTold 55 = .ok (.aload_n 3, 1) := by decide +kernel
theorem dX9_textTold_56 : decode cX9_textTold 56 = .ok (.getfield 277, 3) := by decide +kernel
theorem dX9_textTold_59 : decode cX9_textTold 59 = .ok (.ireturn, 1) := by decide +kernel
theorem dX9_why_0 : decode cX9_why 0 = .ok (.iload_n 1, 1) := by decide +kernel
theorem dX9_why_1 : decode cX9_why 1 = .ok (.ifCond .lt 8, 3) := by decide +kernel
theorem dX9_why_4 : decode cX9_why 4 = .ok (.iload_n 1, 1) := by decide +kernel
theorem dX9_why_5 : decode cX9_why 5 = .ok (.iconst 3, 1) := by decide +kernel
theorem dX9_why_6 : decode cX9_why 6 = .ok (.if_icmp .lt 6, 3) := by decide +kernel
theorem dX9_why_9 : decode cX9_why 9 = .ok (.ldc 71, 2) := by decide +kernel
theorem dX9_why_11 : decode cX9_why 11 = .ok (.ireturn, 1) := by decide +kernel
theorem dX9_why_12 : decode cX9_why 12 = .ok (.aload_n 0, 1) := by decide +kernel
theorem dX9_why_13 : decode cX9_why 13 = .ok (.getfield 10, 3) := by decide +kernel
theorem dX9_why_16 : decode cX9_why 16 = .ok (.getfield 242, 3) := by decide +kernel
theorem dX9_why_19 : decode cX9_why 19 = .ok (.iload_n 1, 1) := by decide +kernel
theorem dX9_why_20 : decode cX9_why 20 = .ok (.aaload, 1) := by decide +kernel
theorem dX9_why_21 : decode cX9_why 21 = .ok (.astore_n 2, 1) := by decide +kernel
theorem dX9_why_22 : decode cX9_why 22 = .ok (.aload_n 2, 1) := by decide +kernel
theorem dX9_why_23 : decode cX9_why 23 = .ok (.ifnonnull 8, 3) := by decide +kernel
theorem dX9_why_26 : decode cX9_why 26 = .ok (.ldc 219, 2) := by decide +kernel
theorem dX9_why_28 : decode cX9_why 28 = .ok (.goto 7, 3) := by decide +kernel
theorem dX9_why_31 : decode cX9_why 31 = .ok (.aload_n 2, 1) := by decide +kernel
theorem dX9_why_32 : decode cX9_why 32 = .ok (.getfield 280, 3) := by decide +kernel
theorem dX9_why_35 : decode cX9_why 35 = .ok (.ireturn, 1) := by decide +kernel
theorem dX9_sheet_0 : decode cX9_sheet 0 = .ok (.iload_n 1, 1) := by decide +kernel
theorem dX9_sheet_1 : decode cX9_sheet 1 = .ok (.invokestatic 230, 3) := by decide +kernel
theorem dX9_sheet_4 : decode cX9_sheet 4 = .ok (.ifCond .eq 13, 3) := by decide +kernel
theorem dX9_sheet_7 : decode cX9_sheet 7 = .ok (.iload_n 2, 1) := by decide +kernel
theorem dX9_sheet_8 : decode cX9_sheet 8 = .ok (.iconst (-1), 1) := by decide +kernel
theorem dX9_sheet_9 : decode cX9_sheet 9 = .ok (.if_icmp .lt 8, 3) := by decide +kernel
theorem dX9_sheet_12 : decode cX9_sheet 12 = .ok (.iload_n 2, 1) := by decide +kernel
theorem dX9_sheet_13 : decode cX9_sheet 13 = .ok (.iconst 1, 1) := by decide +kernel
theorem dX9_sheet_14 : decode cX9_sheet 14 = .ok (.if_icmp .le 6, 3) := by decide +kernel
theorem dX9_sheet_17 : decode cX9_sheet 17 = .ok (.ldc 71, 2) := by decide +kernel
theorem dX9_sheet_19 : decode cX9_sheet 19 = .ok (.ireturn, 1) := by decide +kernel
theorem dX9_sheet_20 : decode cX9_sheet 20 = .ok (.iload_n 2, 1) := by decide +kernel
theorem dX9_sheet_21 : decode cX9_sheet 21 = .ok (.iconst (-1), 1) := by decide +kernel
theorem dX9_sheet_22 : decode cX9_sheet 22 = .ok (.if_icmp .ne 16, 3) := by decide +kernel
theorem dX9_sheet_25 : decode cX9_sheet 25 = .ok (.aload_n 0, 1) := by decide +kernel
theorem dX9_sheet_26 : decode cX9_sheet 26 = .ok (.getfield 42, 3) := by decide +kernel
theorem dX9_sheet_29 : decode cX9_sheet 29 = .ok (.iload_n 1, 1) := by decide +kernel
theorem dX9_sheet_30 : decode cX9_sheet 30 = .ok (.aaload, 1) := by decide +kernel
theorem dX9_sheet_31 : decode cX9_sheet 31 = .ok (.iconst (-1), 1) := by decide +kernel
theorem dX9_sheet_32 : decode cX9_sheet 32 = .ok (.iconst 0, 1) := by decide +kernel
theorem dX9_sheet_33 : decode cX9_sheet 33 = .ok (.invokevirtual 283, 3) := by decide +kernel
theorem dX9_sheet_36 : decode cX9_sheet 36 = .ok (.iconst 0, 1) := by decide +kernel
theorem dX9_sheet_37 : decode cX9_sheet 37 = .ok (.ireturn, 1) := by decide +kernel
theorem dX9_sheet_38 : decode cX9_sheet 38 = .ok (.iload_n 3, 1) := by decide +kernel
theorem dX9_sheet_39 : decode cX9_sheet 39 = .ok (.bipush 24, 2) := by decide +kernel
theorem dX9_sheet_41 : decode cX9_sheet 41 = .ok (.if_icmp .le 6, 3) := by decide +kernel
theorem dX9_sheet_44 : decode cX9_sheet 44 = .ok (.ldc 71, 2) := by decide +kernel
theorem dX9_sheet_46 : decode cX9_sheet 46 = .ok (.ireturn, 1) := by decide +kernel
theorem dX9_sheet_47 : decode cX9_sheet 47 = .ok (.iload_n 3, 1) := by decide +kernel
theorem dX9_sheet_48 : decode cX9_sheet 48 = .ok (.ifCond .ge 7, 3) := by decide +kernel
theorem dX9_sheet_51 : decode cX9_sheet 51 = .ok (.ldc_w 286, 3) := by decide +kernel
theorem dX9_sheet_54 : decode cX9_sheet 54 = .ok (.ireturn, 1) := by decide +kernel
theorem dX9_sheet_55 : decode cX9_sheet 55 = .ok (.aload_n 0, 1) := by decide +kernel
theorem dX9_sheet_56 : decode cX9_sheet 56 = .ok (.getfield 42, 3) := by decide +kernel
theorem dX9_sheet_59 : decode cX9_sheet 59 = .ok (.iload_n 1, 1) := by decide +kernel
theorem dX9_sheet_60 : decode cX9_sheet 60 = .ok (.aaload, 1) := by decide +kernel
theorem dX9_sheet_61 : decode cX9_sheet 61 = .ok (.iload_n 2, 1) := by decide +kernel
theorem dX9_sheet_62 : decode cX9_sheet 62 = .ok (.iload_n 3, 1) := by decide +kernel
theorem dX9_sheet_63 : decode cX9_sheet 63 = .ok (.invokevirtual 283, 3) := by decide +kernel
theorem dX9_sheet_66 : decode cX9_sheet 66 = .ok (.iload_n 3, 1) := by decide +kernel
theorem dX9_sheet_67 : decode cX9_sheet 67 = .ok (.ireturn, 1) := by decide +kernel
theorem dX9_mark_0 : decode cX9_mark 0 = .ok (.iload_n 1, 1) := by decide +kernel
theorem dX9_mark_1 : decode cX9_mark 1 = .ok (.invokestatic 230, 3) := by decide +kernel
theorem dX9_mark_4 : decode cX9_mark 4 = .ok (.ifCond .ne 6, 3) := by decide +kernel
theorem dX9_mark_7 : decode cX9_mark 7 = .ok (.ldc 71, 2) := by decide +kernel
theorem dX9_mark_9 : decode cX9_mark 9 = .ok (.ireturn, 1) := by decide +kernel
theorem dX9_mark_10 : decode cX9_mark 10 = .ok (.aload_n 0, 1) := by decide +kernel
theorem dX9_mark_11 : decode cX9_mark 11 = .ok (.getfield 42, 3) := by decide +kernel
theorem dX9_mark_14 : decode cX9_mark 14 = .ok (.iload_n 1, 1) := by decide +kernel
theorem dX9_mark_15 : decode cX9_mark 15 = .ok (.aaload, 1) := by decide +kernel
theorem dX9_mark_16 : decode cX9_mark 16 = .ok (.astore 4, 2) := by decide +kernel
theorem dX9_mark_18 : decode cX9_mark 18 = .ok (.aload 4, 2) := by decide +kernel
theorem dX9_mark_20 : decode cX9_mark 20 = .ok (.invokevirtual 233, 3) := by decide +kernel
theorem dX9_mark_23 : decode cX9_mark 23 = .ok (.ifCond .eq 6, 3) := by decide +kernel
theorem dX9_mark_26 : decode cX9_mark 26 = .ok (.ldc 237, 2) := by decide +kernel
theorem dX9_mark_28 : decode cX9_mark 28 = .ok (.ireturn, 1) := by decide +kernel
theorem dX9_mark_29 : decode cX9_mark 29 = .ok (.aload 4, 2) := by decide +kernel
theorem dX9_mark_31 : decode cX9_mark 31 = .ok (.iload_n 2, 1) := by decide +kernel
theorem dX9_mark_32 : decode cX9_mark 32 = .ok (.invokevirtual 287, 3) := by decide +kernel
theorem dX9_mark_35 : decode cX9_mark 35 = .ok (.ifCond .ne 7, 3) := by decide +kernel
theorem dX9_mark_38 : decode cX9_mark 38 = .ok (.ldc_w 290, 3) := by decide +kernel
theorem dX9_mark_41 : decode cX9_mark 41 = .ok (.ireturn, 1) := by decide +kernel
theorem dX9_mark_42 : decode cX9_mark 42 = .ok (.aload 4, 2) := by decide +kernel
theorem dX9_mark_44 : decode cX9_mark 44 = .ok (.getfield 291, 3) := by decide +kernel
theorem dX9_mark_47 : decode cX9_mark 47 = .ok (.ifCond .ne 23, 3) := by decide +kernel
theorem dX9_mark_50 : decode cX9_mark 50 = .ok (.iload_n 3, 1) := by decide +kernel
theorem dX9_mark_51 : decode cX9_mark 51 = .ok (.ldc 219, 2) := by decide +kernel
theorem dX9_mark_53 : decode cX9_mark 53 = .ok (.if_icmp .ne 6, 3) := by decide +kernel
theorem dX9_mark_56 : decode cX9_mark 56 = .ok (.ldc 113, 2) := by decide +kernel
theorem dX9_mark_58 : decode cX9_mark 58 = .ok (.ireturn, 1) := by decide +kernel
theorem dX9_mark_59 : decode cX9_mark 59 = .ok (.aload 4, 2) := by decide +kernel
theorem dX9_mark_61 : decode cX9_mark 61 = .ok (.getfield 292, 3) := by decide +kernel
theorem dX9_mark_64 : decode cX9_mark 64 = .ok (.iload_n 2, 1) := by decide +kernel
theorem dX9_mark_65 : decode cX9_mark 65 = .ok (.iload_n 3, 1) := by decide +kernel
theorem dX9_mark_66 : decode cX9_mark 66 = .ok (.i2s, 1) := by decide +kernel
theorem dX9_mark_67 : decode cX9_mark 67 = .ok (.iastore, 1) := by decide +kernel
theorem dX9_mark_68 : decode cX9_mark 68 = .ok (.iconst 1, 1) := by decide +kernel
theorem dX9_mark_69 : decode cX9_mark 69 = .ok (.ireturn, 1) := by decide +kernel
theorem dX9_mark_70 : decode cX9_mark 70 = .ok (.iload_n 3, 1) := by decide +kernel
theorem dX9_mark_71 : decode cX9_mark 71 = .ok (.ldc 219, 2) := by decide +kernel
theorem dX9_mark_73 : decode cX9_mark 73 = .ok (.if_icmp .eq 20, 3) := by decide +kernel
theorem dX9_mark_76 : decode cX9_mark 76 = .ok (.iload_n 3, 1) := by decide +kernel
theorem dX9_mark_77 : decode cX9_mark 77 = .ok (.ldc_w 295, 3) := by decide +kernel
theorem dX9_mark_80 : decode cX9_mark 80 = .ok (.if_icmp .lt 10, 3) := by decide +kernel
theorem dX9_mark_83 : decode cX9_mark 83 = .ok (.iload_n 3, 1) := by decide +kernel
theorem dX9_mark_84 : decode cX9_mark 84 = .ok (.ldc_w 296, 3) := by decide +kernel
theorem dX9_mark_87 : decode cX9_mark 87 = .ok (.if_icmp .le 6, 3) := by decide +kernel
theorem dX9_mark_90 : decode cX9_mark 90 = .ok (.ldc 71, 2) := by decide +kernel
theorem dX9_mark_92 : decode cX9_mark 92 = .ok (.ireturn, 1) := by decide +kernel
theorem dX9_mark_93 : decode cX9_mark 93 = .ok (.aload 4, 2) := by decide +kernel
theorem dX9_mark_95 : decode cX9_mark 95 = .ok (.getfield 292, 3) := by decide +kernel
theorem dX9_mark_98 : decode cX9_mark 98 = .ok (.iload_n 2, 1) := by decide +kernel
theorem dX9_mark_99 : decode cX9_mark 99 = .ok (.iload_n 3, 1) := by decide +kernel
theorem dX9_mark_100 : decode cX9_mark 100 = .ok (.iastore, 1) := by decide +kernel
theorem dX9_mark_101 : decode cX9_mark 101 = .ok (.iconst 1, 1) := by decide +kernel
theorem dX9_mark_102 : decode cX9_mark 102 = .ok (.ireturn, 1) := by decide +kernel
theorem dX9_pour_0 : decode cX9_pour 0 = .ok (.iload_n 1, 1) := by decide +kernel
theorem dX9_pour_1 : decode cX9_pour 1 = .ok (.invokestatic 230, 3) := by decide +kernel
theorem dX9_pour_4 : decode cX9_pour 4 = .ok (.ifCond .ne 6, 3) := by decide +kernel
theorem dX9_pour_7 : decode cX9_pour 7 = .ok (.ldc 71, 2) := by decide +kernel
theorem dX9_pour_9 : decode cX9_pour 9 = .ok (.ireturn, 1) := by decide +kernel
theorem dX9_pour_10 : decode cX9_pour 10 = .ok (.aload_n 0, 1) := by decide +kernel
theorem dX9_pour_11 : decode cX9_pour 11 = .ok (.getfield 42, 3) := by decide +kernel
theorem dX9_pour_14 : decode cX9_pour 14 = .ok (.iload_n 1, 1) := by decide +kernel
theorem dX9_pour_15 : decode cX9_pour 15 = .ok (.aaload, 1) := by decide +kernel
theorem dX9_pour_16 : decode cX9_pour 16 = .ok (.astore_n 2, 1) := by decide +kernel
theorem dX9_pour_17 : decode cX9_pour 17 = .ok (.aload_n 2, 1) := by decide +kernel
theorem dX9_pour_18 : decode cX9_pour 18 = .ok (.invokevirtual 233, 3) := by decide +kernel
theorem dX9_pour_21 : decode cX9_pour 21 = .ok (.ifCond .eq 6, 3) := by decide +kernel
theorem dX9_pour_24 : decode cX9_pour 24 = .ok (.ldc 237, 2) := by decide +kernel
theorem dX9_pour_26 : decode cX9_pour 26 = .ok (.ireturn, 1) := by decide +kernel
theorem dX9_pour_27 : decode cX9_pour 27 = .ok (.iconst 0, 1) := by decide +kernel
theorem dX9_pour_28 : decode cX9_pour 28 = .ok (.istore_n 3, 1) := by decide +kernel
theorem dX9_pour_29 : decode cX9_pour 29 = .ok (.aload_n 0, 1) := by decide +kernel
theorem dX9_pour_30 : decode cX9_pour 30 = .ok (.getfield 10, 3) := by decide +kernel
theorem dX9_pour_33 : decode cX9_pour 33 = .ok (.getfield 72, 3) := by decide +kernel
theorem dX9_pour_36 : decode cX9_pour 36 = .ok (.aload_n 2, 1) := by decide +kernel
theorem dX9_pour_37 : decode cX9_pour 37 = .ok (.getfield 297, 3) := by decide +kernel
theorem dX9_pour_40 : decode cX9_pour 40 = .ok (.invokestatic 165, 3) := by decide +kernel
theorem dX9_pour_43 : decode cX9_pour 43 = .ok (.istore 4, 2) := by decide +kernel
theorem dX9_pour_45 : decode cX9_pour 45 = .ok (.iconst 0, 1) := by decide +kernel
theorem dX9_pour_46 : decode cX9_pour 46 = .ok (.istore 5, 2) := by decide +kernel
theorem dX9_pour_48 : decode cX9_pour 48 = .ok (.iload 5, 2) := by decide +kernel
theorem dX9_pour_50 : decode cX9_pour 50 = .ok (.iload 4, 2) := by decide +kernel
theorem dX9_pour_52 : decode cX9_pour 52 = .ok (.if_icmp .ge 72, 3) := by decide +kernel
theorem dX9_pour_55 : decode cX9_pour 55 = .ok (.aload_n 2, 1) := by decide +kernel
theorem dX9_pour_56 : decode cX9_pour 56 = .ok (.iload 5, 2) := by decide +kernel
theorem dX9_pour_58 : decode cX9_pour 58 = .ok (.invokevirtual 300, 3) := by decide +kernel
theorem dX9_pour_61 : decode cX9_pour 61 = .ok (.ifCond .eq 57, 3) := by decide +kernel
theorem dX9_pour_64 : decode cX9_pour 64 = .ok (.aload_n 2, 1) := by decide +kernel
theorem dX9_pour_65 : decode cX9_pour 65 = .ok (.getfield 292, 3) := by decide +kernel
theorem dX9_pour_68 : decode cX9_pour 68 = .ok (.iload 5, 2) := by decide +kernel
theorem dX9_pour_70 : decode cX9_pour 70 = .ok (.iaload, 1) := by decide +kernel
theorem dX9_pour_71 : decode cX9_pour 71 = .ok (.bipush 99, 2) := by decide +kernel
theorem dX9_pour_73 : decode cX9_pour 73 = .ok (.invokestatic 303, 3) := by decide +kernel
theorem dX9_pour_76 : decode cX9_pour 76 = .ok (.istore 6, 2) := by decide +kernel
theorem dX9_pour_78 : decode cX9_pour 78 = .ok (.aload_n 0, 1) := by decide +kernel
theorem dX9_pour_79 : decode cX9_pour 79 = .ok (.getfield 10, 3) := by decide +kernel
theorem dX9_pour_82 : decode cX9_pour 82 = .ok (.getfield 77, 3) := by decide +kernel
theorem dX9_pour_85 : decode cX9_pour 85 = .ok (.iload 5, 2) := by decide +kernel
theorem dX9_pour_87 : decode cX9_pour 87 = .ok (.aaload, 1) := by decide +kernel
theorem dX9_pour_88 : decode cX9_pour 88 = .ok (.getfield 96, 3) := by decide +kernel
theorem dX9_pour_91 : decode cX9_pour 91 = .ok (.iconst 0, 1) := by decide +kernel
theorem dX9_pour_92 : decode cX9_pour 92 = .ok (.iaload, 1) := by decide +kernel
theorem dX9_pour_93 : decode cX9_pour 93 = .ok (.iload 6, 2) := by decide +kernel
theorem dX9_pour_95 : decode cX9_pour 95 = .ok (.if_icmp .eq 23, 3) := by decide +kernel
theorem dX9_pour_98 : decode cX9_pour 98 = .ok (.aload_n 0, 1) := by decide +kernel
theorem dX9_pour_99 : decode cX9_pour 99 = .ok (.getfield 10, 3) := by decide +kernel
theorem dX9_pour_102 : decode cX9_pour 102 = .ok (.getfield 77, 3) := by decide +kernel
theorem dX9_pour_105 : decode cX9_pour 105 = .ok (.iload 5, 2) := by decide +kernel
theorem dX9_pour_107 : decode cX9_pour 107 = .ok (.aaload, 1) := by decide +kernel
theorem dX9_pour_108 : decode cX9_pour 108 = .ok (.getfield 96, 3) := by decide +kernel
theorem dX9_pour_111 : decode cX9_pour 111 = .ok (.iconst 0, 1) := by decide +kernel
theorem dX9_pour_112 : decode cX9_pour 112 = .ok (.iload 6, 2) := by decide +kernel
theorem dX9_pour_114 : decode cX9_pour 114 = .ok (.iastore, 1) := by decide +kernel
theorem dX9_pour_115 : decode cX9_pour 115 = .ok (.iinc 3 1, 3) := by decide +kernel
theorem dX9_pour_118 : decode cX9_pour 118 = .ok (.iinc 5 1, 3) := by decide +kernel
theorem dX9_pour_121 : decode cX9_pour 121 = .ok (.goto (-73), 3) := by decide +kernel
theorem dX9_pour_124 : decode cX9_pour 124 = .ok (.iload_n 3, 1) := by decide +kernel
theorem dX9_pour_125 : decode cX9_pour 125 = .ok (.ireturn, 1) := by decide +kernel
theorem dX9_reads_0 : decode cX9_reads 0 = .ok (.iload_n 1, 1) := by decide +kernel
theorem dX9_reads_1 : decode cX9_reads 1 = .ok (.invokestatic 230, 3) := by decide +kernel
theorem dX9_reads_4 : decode cX9_reads 4 = .ok (.ifCond .ne 6, 3) := by decide +kernel
theorem dX9_reads_7 : decode cX9_reads 7 = .ok (.ldc 71, 2) := by decide +kernel
theorem dX9_reads_9 : decode cX9_reads 9 = .ok (.ireturn, 1) := by decide +kernel
theorem dX9_reads_10 : decode cX9_reads 10 = .ok (.aload_n 0, 1) := by decide +kernel
theorem dX9_reads_11 : decode cX9_reads 11 = .ok (.getfield 42, 3) := by decide +kernel
theorem dX9_reads_14 : decode cX9_reads 14 = .ok (.iload_n 1, 1) := by decide +kernel
theorem dX9_reads_15 : decode cX9_reads 15 = .ok (.aaload, 1) := by decide +kernel
theorem dX9_reads_16 : decode cX9_reads 16 = .ok (.astore_n 2, 1) := by decide +kernel
theorem dX9_reads_17 : decode cX9_reads 17 = .ok (.aload_n 2, 1) := by decide +kernel
theorem dX9_reads_18 : decode cX9_reads 18 = .ok (.invokevirtual 233, 3) := by decide +kernel
theorem dX9_reads_21 : decode cX9_reads 21 = .ok (.ifCond .eq 6, 3) := by decide +kernel
theorem dX9_reads_24 : decode cX9_reads 24 = .ok (.ldc 237, 2) := by decide +kernel
theorem dX9_reads_26 : decode cX9_reads 26 = .ok (.ireturn, 1) := by decide +kernel
theorem dX9_reads_27 : decode cX9_reads 27 = .ok (.iconst 0, 1) := by decide +kernel
theorem dX9_reads_28 : decode cX9_reads 28 = .ok (.istore_n 3, 1) := by decide +kernel
theorem dX9_reads_29 : decode cX9_reads 29 = .ok (.iload_n 3, 1) := by decide +kernel
theorem dX9_reads_30 : decode cX9_reads 30 = .ok (.aload_n 2, 1) := by decide +kernel
theorem dX9_reads_31 : decode cX9_reads 31 = .ok (.getfield 297, 3) := by decide +kernel
theorem dX9_reads_34 : decode cX9_reads 34 = .ok (.if_icmp .ge 51, 3) := by decide +kernel
theorem dX9_reads_37 : decode cX9_reads 37 = .ok (.aload_n 2, 1) := by decide +kernel
theorem dX9_reads_38 : decode cX9_reads 38 = .ok (.iload_n 3, 1) := by decide +kernel
theorem dX9_reads_39 : decode cX9_reads 39 = .ok (.invokevirtual 300, 3) := by decide +kernel
theorem dX9_reads_42 : decode cX9_reads 42 = .ok (.ifCond .eq 37, 3) := by decide +kernel
theorem dX9_reads_45 : decode cX9_reads 45 = .ok (.iload_n 3, 1) := by decide +kernel
theorem dX9_reads_46 : decode cX9_reads 46 = .ok (.aload_n 0, 1) := by decide +kernel
theorem dX9_reads_47 : decode cX9_reads 47 = .ok (.getfield 10, 3) := by decide +kernel
theorem dX9_reads_50 : decode cX9_reads 50 = .ok (.getfield 72, 3) := by decide +kernel
theorem dX9_reads_53 : decode cX9_reads 53 = .ok (.if_icmp .ge 24, 3) := by decide +kernel
theorem dX9_reads_56 : decode cX9_reads 56 = .ok (.aload_n 2, 1) := by decide +kernel
theorem dX9_reads_57 : decode cX9_reads 57 = .ok (.getfield 292, 3) := by decide +kernel
theorem dX9_reads_60 : decode cX9_reads 60 = .ok (.iload_n 3, 1) := by decide +kernel
theorem dX9_reads_61 : decode cX9_reads 61 = .ok (.iaload, 1) := by decide +kernel
theorem dX9_reads_62 : decode cX9_reads 62 = .ok (.aload_n 0, 1) := by decide +kernel
theorem dX9_reads_63 : decode cX9_reads 63 = .ok (.getfield 10, 3) := by decide +kernel
theorem dX9_reads_66 : decode cX9_reads 66 = .ok (.getfield 77, 3) := by decide +kernel
theorem dX9_reads_69 : decode cX9_reads 69 = .ok (.iload_n 3, 1) := by decide +kernel
theorem dX9_reads_70 : decode cX9_reads 70 = .ok (.aaload, 1) := by decide +kernel
theorem dX9_reads_71 : decode cX9_reads 71 = .ok (.getfield 93, 3) := by decide +kernel
theorem dX9_reads_74 : decode cX9_reads 74 = .ok (.if_icmp .eq 5, 3) := by decide +kernel
theorem dX9_reads_77 : decode cX9_reads 77 = .ok (.iload_n 3, 1) := by decide +kernel
theorem dX9_reads_78 : decode cX9_reads 78 = .ok (.ireturn, 1) := by decide +kernel
theorem dX9_reads_79 : decode cX9_reads 79 = .ok (.iinc 3 1, 3) := by decide +kernel
theorem dX9_reads_82 : decode cX9_reads 82 = .ok (.goto (-53), 3) := by decide +kernel
theorem dX9_reads_85 : decode cX9_reads 85 = .ok (.ldc 219, 2) := by decide +kernel
theorem dX9_reads_87 : decode cX9_reads 87 = .ok (.ireturn, 1) := by decide +kernel
theorem dX9_copy_0 : decode cX9_copy 0 = .ok (.iload_n 1, 1) := by decide +kernel
theorem dX9_copy_1 : decode cX9_copy 1 = .ok (.invokestatic 230, 3) := by decide +kernel
theorem dX9_copy_4 : decode cX9_copy 4 = .ok (.ifCond .eq 10, 3) := by decide +kernel
theorem dX9_copy_7 : decode cX9_copy 7 = .ok (.iload_n 3, 1) := by decide +kernel
theorem dX9_copy_8 : decode cX9_copy 8 = .ok (.invokestatic 230, 3) := by decide +kernel
theorem dX9_copy_11 : decode cX9_copy 11 = .ok (.ifCond .ne 6, 3) := by decide +kernel
theorem dX9_copy_14 : decode cX9_copy 14 = .ok (.ldc 71, 2) := by decide +kernel
theorem dX9_copy_16 : decode cX9_copy 16 = .ok (.ireturn, 1) := by decide +kernel
theorem dX9_copy_17 : decode cX9_copy 17 = .ok (.aload_n 0, 1) := by decide +kernel
theorem dX9_copy_18 : decode cX9_copy 18 = .ok (.getfield 42, 3) := by decide +kernel
theorem dX9_copy_21 : decode cX9_copy 21 = .ok (.iload_n 1, 1) := by decide +kernel
theorem dX9_copy_22 : decode cX9_copy 22 = .ok (.aaload, 1) := by decide +kernel
theorem dX9_copy_23 : decode cX9_copy 23 = .ok (.astore 6, 2) := by decide +kernel
theorem dX9_copy_25 : decode cX9_copy 25 = .ok (.aload_n 0, 1) := by decide +kernel
theorem dX9_copy_26 : decode cX9_copy 26 = .ok (.getfield 42, 3) := by decide +kernel
theorem dX9_copy_29 : decode cX9_copy 29 = .ok (.iload_n 3, 1) := by decide +kernel
theorem dX9_copy_30 : decode cX9_copy 30 = .ok (.aaload, 1) := by decide +kernel
theorem dX9_copy_31 : decode cX9_copy 31 = .ok (.astore 7, 2) := by decide +kernel
theorem dX9_copy_33 : decode cX9_copy 33 = .ok (.aload 6, 2) := by decide +kernel
theorem dX9_copy_35 : decode cX9_copy 35 = .ok (.invokevirtual 233, 3) := by decide +kernel
theorem dX9_copy_38 : decode cX9_copy 38 = .ok (.ifCond .ne 11, 3) := by decide +kernel
theorem dX9_copy_41 : decode cX9_copy 41 = .ok (.aload 7, 2) := by decide +kernel
theorem dX9_copy_43 : decode cX9_copy 43 = .ok (.invokevirtual 233, 3) := by decide +kernel
theorem dX9_copy_46 : decode cX9_copy 46 = .ok (.ifCond .eq 6, 3) := by decide +kernel
theorem dX9_copy_49 : decode cX9_copy 49 = .ok (.ldc 237, 2) := by decide +kernel
theorem dX9_copy_51 : decode cX9_copy 51 = .ok (.ireturn, 1) := by decide +kernel
theorem dX9_copy_52 : decode cX9_copy 52 = .ok (.aload 6, 2) := by decide +kernel
theorem dX9_copy_54 : decode cX9_copy 54 = .ok (.getfield 291, 3) := by decide +kernel
theorem dX9_copy_57 : decode cX9_copy 57 = .ok (.aload 7, 2) := by decide +kernel
theorem dX9_copy_59 : decode cX9_copy 59 = .ok (.getfield 291, 3) := by decide +kernel
theorem dX9_copy_62 : decode cX9_copy 62 = .ok (.if_icmp .eq 6, 3) := by decide +kernel
theorem dX9_copy_65 : decode cX9_copy 65 = .ok (.ldc 113, 2) := by decide +kernel
theorem dX9_copy_67 : decode cX9_copy 67 = .ok (.ireturn, 1) := by decide +kernel
theorem dX9_copy_68 : decode cX9_copy 68 = .ok (.aload 6, 2) := by decide +kernel
theorem dX9_copy_70 : decode cX9_copy 70 = .ok (.iload_n 2, 1) := by decide +kernel
theorem dX9_copy_71 : decode cX9_copy 71 = .ok (.iload 5, 2) := by decide +kernel
theorem dX9_copy_73 : decode cX9_copy 73 = .ok (.invokevirtual 306, 3) := by decide +kernel
theorem dX9_copy_76 : decode cX9_copy 76 = .ok (.ifCond .eq 15, 3) := by decide +kernel
theorem dX9_copy_79 : decode cX9_copy 79 = .ok (.aload 7, 2) := by decide +kernel
theorem dX9_copy_81 : decode cX9_copy 81 = .ok (.iload 4, 2) := by decide +kernel
theorem dX9_copy_83 : decode cX9_copy 83 = .ok (.iload 5, 2) := by decide +kernel
theorem dX9_copy_85 : decode cX9_copy 85 = .ok (.invokevirtual 306, 3) := by decide +kernel
theorem dX9_copy_88 : decode cX9_copy 88 = .ok (.ifCond .ne 7, 3) := by decide +kernel
theorem dX9_copy_91 : decode cX9_copy 91 = .ok (.ldc_w 290, 3) := by decide +kernel
theorem dX9_copy_94 : decode cX9_copy 94 = .ok (.ireturn, 1) := by decide +kernel
theorem dX9_copy_95 : decode cX9_copy 95 = .ok (.aload 6, 2) := by decide +kernel
theorem dX9_copy_97 : decode cX9_copy 97 = .ok (.getfield 292, 3) := by decide +kernel
theorem dX9_copy_100 : decode cX9_copy 100 = .ok (.iload_n 2, 1) := by decide +kernel
theorem dX9_copy_101 : decode cX9_copy 101 = .ok (.aload 7, 2) := by decide +kernel
theorem dX9_copy_103 : decode cX9_copy 103 = .ok (.getfield 292, 3) := by decide +kernel
theorem dX9_copy_106 : decode cX9_copy 106 = .ok (.iload 4, 2) := by decide +kernel
theorem dX9_copy_108 : decode cX9_copy 108 = .ok (.iload 5, 2) := by decide +kernel
theorem dX9_copy_110 : decode cX9_copy 110 = .ok (.invokestatic 309, 3) := by decide +kernel
theorem dX9_copy_113 : decode cX9_copy 113 = .ok (.iload 5, 2) := by decide +kernel
theorem dX9_copy_115 : decode cX9_copy 115 = .ok (.ireturn, 1) := by decide +kernel
theorem dX9_lay_0 : decode cX9_lay 0 = .ok (.iload_n 1, 1) := by decide +kernel
theorem dX9_lay_1 : decode cX9_lay 1 = .ok (.invokestatic 315, 3) := by decide +kernel
theorem dX9_lay_4 : decode cX9_lay 4 = .ok (.ifCond .eq 12, 3) := by decide +kernel
theorem dX9_lay_7 : decode cX9_lay 7 = .ok (.iload_n 2, 1) := by decide +kernel
theorem dX9_lay_8 : decode cX9_lay 8 = .ok (.ifCond .lt 8, 3) := by decide +kernel
theorem dX9_lay_11 : decode cX9_lay 11 = .ok (.iload_n 2, 1) := by decide +kernel
theorem dX9_lay_12 : decode cX9_lay 12 = .ok (.iconst 3, 1) := by decide +kernel
theorem dX9_lay_13 : decode cX9_lay 13 = .ok (.if_icmp .le 6, 3) := by decide +kernel
theorem dX9_lay_16 : decode cX9_lay 16 = .ok (.ldc 71, 2) := by decide +kernel
theorem dX9_lay_18 : decode cX9_lay 18 = .ok (.ireturn, 1) := by decide +kernel
theorem dX9_lay_19 : decode cX9_lay 19 = .ok (.iload_n 2, 1) := by decide +kernel
theorem dX9_lay_20 : decode cX9_lay 20 = .ok (.iconst 1, 1) := by decide +kernel
theorem dX9_lay_21 : decode cX9_lay 21 = .ok (.if_icmp .ne 11, 3) := by decide +kernel
theorem dX9_lay_24 : decode cX9_lay 24 = .ok (.aload_n 0, 1) := by decide +kernel
theorem dX9_lay_25 : decode cX9_lay 25 = .ok (.iload_n 3, 1) := by decide +kernel
theorem dX9_lay_26 : decode cX9_lay 26 = .ok (.invokevirtual 87, 3) := by decide +kernel
theorem dX9_lay_29 : decode cX9_lay 29 = .ok (.ifCond .eq 15, 3) := by decide +kernel
theorem dX9_lay_32 : decode cX9_lay 32 = .ok (.iload_n 2, 1) := by decide +kernel
theorem dX9_lay_33 : decode cX9_lay 33 = .ok (.iconst 2, 1) := by decide +kernel
theorem dX9_lay_34 : decode cX9_lay 34 = .ok (.if_icmp .ne 13, 3) := by decide +kernel
theorem dX9_lay_37 : decode cX9_lay 37 = .ok (.iload_n 3, 1) := by decide +kernel
theorem dX9_lay_38 : decode cX9_lay 38 = .ok (.invokestatic 230, 3) := by decide +kernel
theorem dX9_lay_41 : decode cX9_lay 41 = .ok (.ifCond .ne 6, 3) := by decide +kernel
theorem dX9_lay_44 : decode cX9_lay 44 = .ok (.ldc 71, 2) := by decide +kernel
theorem dX9_lay_46 : decode cX9_lay 46 = .ok (.ireturn, 1) := by decide +kernel
theorem dX9_lay_47 : decode cX9_lay 47 = .ok (.iload_n 2, 1) := by decide +kernel
theorem dX9_lay_48 : decode cX9_lay 48 = .ok (.iconst 2, 1) := by decide +kernel
theorem dX9_lay_49 : decode cX9_lay 49 = .ok (.if_icmp .ne 18, 3) := by decide +kernel
theorem dX9_lay_52 : decode cX9_lay 52 = .ok (.aload_n 0, 1) := by decide +kernel
theorem dX9_lay_53 : decode cX9_lay 53 = .ok (.getfield 42, 3) := by decide +kernel
theorem dX9_lay_56 : decode cX9_lay 56 = .ok (.iload_n 3, 1) := by decide +kernel
theorem dX9_lay_57 : decode cX9_lay 57 = .ok (.aaload, 1) := by decide +kernel
theorem dX9_lay_58 : decode cX9_lay 58 = .ok (.invokevirtual 233, 3) := by decide +kernel
theorem dX9_lay_61 : decode cX9_lay 61 = .ok (.ifCond .eq 6, 3) := by decide +kernel
theorem dX9_lay_64 : decode cX9_lay 64 = .ok (.ldc 237, 2) := by decide +kernel
theorem dX9_lay_66 : decode cX9_lay 66 = .ok (.ireturn, 1) := by decide +kernel
theorem dX9_lay_67 : decode cX9_lay 67 = .ok (.aload_n 0, 1) := by decide +kernel
theorem dX9_lay_68 : decode cX9_lay 68 = .ok (.getfield 48, 3) := by decide +kernel
theorem dX9_lay_71 : decode cX9_lay 71 = .ok (.iload_n 1, 1) := by decide +kernel
theorem dX9_lay_72 : decode cX9_lay 72 = .ok (.aaload, 1) := by decide +kernel
theorem dX9_lay_73 : decode cX9_lay 73 = .ok (.astore 4, 2) := by decide +kernel
theorem dX9_lay_75 : decode cX9_lay 75 = .ok (.aload 4, 2) := by decide +kernel
theorem dX9_lay_77 : decode cX9_lay 77 = .ok (.getfield 318, 3) := by decide +kernel
theorem dX9_lay_80 : decode cX9_lay 80 = .ok (.istore 5, 2) := by decide +kernel
theorem dX9_lay_82 : decode cX9_lay 82 = .ok (.aload 4, 2) := by decide +kernel
theorem dX9_lay_84 : decode cX9_lay 84 = .ok (.iload_n 2, 1) := by decide +kernel
theorem dX9_lay_85 : decode cX9_lay 85 = .ok (.putfield 318, 3) := by decide +kernel
theorem dX9_lay_88 : decode cX9_lay 88 = .ok (.iload_n 2, 1) := by decide +kernel
theorem dX9_lay_89 : decode cX9_lay 89 = .ok (.iconst 1, 1) := by decide +kernel
theorem dX9_lay_90 : decode cX9_lay 90 = .ok (.if_icmp .ne 23, 3) := by decide +kernel
theorem dX9_lay_93 : decode cX9_lay 93 = .ok (.aload 4, 2) := by decide +kernel
theorem dX9_lay_95 : decode cX9_lay 95 = .ok (.getfield 321, 3) := by decide +kernel
theorem dX9_lay_98 : decode cX9_lay 98 = .ok (.aload_n 0, 1) := by decide +kernel
theorem dX9_lay_99 : decode cX9_lay 99 = .ok (.getfield 10, 3) := by decide +kernel
theorem dX9_lay_102 : decode cX9_lay 102 = .ok (.getfield 77, 3) := by decide +kernel
theorem dX9_lay_105 : decode cX9_lay 105 = .ok (.iload_n 3, 1) := by decide +kernel
theorem dX9_lay_106 : decode cX9_lay 106 = .ok (.aaload, 1) := by decide +kernel
theorem dX9_lay_107 : decode cX9_lay 107 = .ok (.invokevirtual 325, 3) := by decide +kernel
theorem dX9_lay_110 : decode cX9_lay 110 = .ok (.goto 31, 3) := by decide +kernel
theorem dX9_lay_113 : decode cX9_lay 113 = .ok (.iload_n 2, 1) := by decide +kernel
theorem dX9_lay_114 : decode cX9_lay 114 = .ok (.iconst 2, 1) := by decide +kernel
theorem dX9_lay_115 : decode cX9_lay 115 = .ok (.if_icmp .ne 20, 3) := by decide +kernel
theorem dX9_lay_118 : decode cX9_lay 118 = .ok (.aload 4, 2) := by decide +kernel
theorem dX9_lay_120 : decode cX9_lay 120 = .ok (.getfield 328, 3) := by decide +kernel
theorem dX9_lay_123 : decode cX9_lay 123 = .ok (.aload_n 0, 1) := by decide +kernel
theorem dX9_lay_124 : decode cX9_lay 124 = .ok (.getfield 42, 3) := by decide +kernel
theorem dX9_lay_127 : decode cX9_lay 127 = .ok (.iload_n 3, 1) := by decide +kernel
theorem dX9_lay_128 : decode cX9_lay 128 = .ok (.aaload, 1) := by decide +kernel
theorem dX9_lay_129 : decode cX9_lay 129 = .ok (.invokevirtual 332, 3) := by decide +kernel
theorem dX9_lay_132 : decode cX9_lay 132 = .ok (.goto 9, 3) := by decide +kernel
theorem dX9_lay_135 : decode cX9_lay 135 = .ok (.aload 4, 2) := by decide +kernel
theorem dX9_lay_137 : decode cX9_lay 137 = .ok (.iload_n 3, 1) := by decide +kernel
theorem dX9_lay_138 : decode cX9_lay 138 = .ok (.putfield 334, 3) := by decide +kernel
theorem dX9_lay_141 : decode cX9_lay 141 = .ok (.iload 5, 2) := by decide +kernel
theorem dX9_lay_143 : decode cX9_lay 143 = .ok (.ireturn, 1) := by decide +kernel
theorem dX9_ask_0 : decode cX9_ask 0 = .ok (.iload_n 1, 1) := by decide +kernel
theorem dX9_ask_1 : decode cX9_ask 1 = .ok (.invokestatic 315, 3) := by decide +kernel
theorem dX9_ask_4 : decode cX9_ask 4 = .ok (.ifCond .eq 10, 3) := by decide +kernel
theorem dX9_ask_7 : decode cX9_ask 7 = .ok (.iload_n 2, 1) := by decide +kernel
theorem dX9_ask_8 : decode cX9_ask 8 = .ok (.invokestatic 61, 3) := by decide +kernel
theorem dX9_ask_11 : decode cX9_ask 11 = .ok (.ifCond .ne 6, 3) := by decide +kernel
theorem dX9_ask_14 : decode cX9_ask 14 = .ok (.ldc 71, 2) := by decide +kernel
theorem dX9_ask_16 : decode cX9_ask 16 = .ok (.ireturn, 1) := by decide +kernel
theorem dX9_ask_17 : decode cX9_ask 17 = .ok (.aload_n 0, 1) := by decide +kernel
theorem dX9_ask_18 : decode cX9_ask 18 = .ok (.getfield 48, 3) := by decide +kernel
theorem dX9_ask_21 : decode cX9_ask 21 = .ok (.iload_n 1, 1) := by decide +kernel
theorem dX9_ask_22 : decode cX9_ask 22 = .ok (.aaload, 1) := by decide +kernel
theorem dX9_ask_23 : decode cX9_ask 23 = .ok (.astore_n 3, 1) := by decide +kernel
theorem dX9_ask_24 : decode cX9_ask 24 = .ok (.aload_n 3, 1) := by decide +kernel
theorem dX9_ask_25 : decode cX9_ask 25 = .ok (.getfield 318, 3) := by decide +kernel
theorem dX9_ask_28 : decode cX9_ask 28 = .ok (.ifCond .ne 6, 3) := by decide +kernel
theorem dX9_ask_31 : decode cX9_ask 31 = .ok (.ldc 237, 2) := by decide +kernel
theorem dX9_ask_33 : decode cX9_ask 33 = .ok (.ireturn, 1) := by decide +kernel
theorem dX9_ask_34 : decode cX9_ask 34 = .ok (.aload_n 3, 1) := by decide +kernel
theorem dX9_ask_35 : decode cX9_ask 35 = .ok (.getfield 318, 3) := by decide +kernel
theorem dX9_ask_38 : decode cX9_ask 38 = .ok (.iconst 1, 1) := by decide +kernel
theorem dX9_ask_39 : decode cX9_ask 39 = .ok (.if_icmp .ne 17, 3) := by decide +kernel
theorem dX9_ask_42 : decode cX9_ask 42 = .ok (.aload_n 3, 1) := by decide +kernel
theorem dX9_ask_43 : decode cX9_ask 43 = .ok (.getfield 321, 3) := by decide +kernel
theorem dX9_ask_46 : decode cX9_ask 46 = .ok (.getfield 90, 3) := by decide +kernel
theorem dX9_ask_49 : decode cX9_ask 49 = .ok (.iload_n 2, 1) := by decide +kernel
theorem dX9_ask_50 : decode cX9_ask 50 = .ok (.invokestatic 107, 3) := by decide +kernel
theorem dX9_ask_53 : decode cX9_ask 53 = .ok (.ifCond .ne 6, 3) := by decide +kernel
theorem dX9_ask_56 : decode cX9_ask 56 = .ok (.ldc 113, 2) := by decide +kernel
theorem dX9_ask_58 : decode cX9_ask 58 = .ok (.ireturn, 1) := by decide +kernel
theorem dX9_ask_59 : decode cX9_ask 59 = .ok (.aload_n 3, 1) := by decide +kernel
theorem dX9_ask_60 : decode cX9_ask 60 = .ok (.getfield 321, 3) := by decide +kernel
theorem dX9_ask_63 : decode cX9_ask 63 = .ok (.invokevirtual 103, 3) := by decide +kernel
theorem dX9_ask_66 : decode cX9_ask 66 = .ok (.ireturn, 1) := by decide +kernel
theorem dX9_item_0 : decode cX9_item 0 = .ok (.iload_n 1, 1) := by decide +kernel
theorem dX9_item_1 : decode cX9_item 1 = .ok (.invokestatic 315, 3) := by decide +kernel
theorem dX9_item_4 : decode cX9_item 4 = .ok (.ifCond .ne 6, 3) := by decide +kernel
theorem dX9_item_7 : decode cX9_item 7 = .ok (.ldc 71, 2) := by decide +kernel
theorem dX9_item_9 : decode cX9_item 9 = .ok (.ireturn, 1) := by decide +kernel
theorem dX9_item_10 : decode cX9_item 10 = .ok (.aload_n 0, 1) := by decide +kernel
theorem dX9_item_11 : decode cX9_item 11 = .ok (.getfield 48, 3) := by decide +kernel
theorem dX9_item_14 : decode cX9_item 14 = .ok (.iload_n 1, 1) := by decide +kernel
theorem dX9_item_15 : decode cX9_item 15 = .ok (.aaload, 1) := by decide +kernel
theorem dX9_item_16 : decode cX9_item 16 = .ok (.astore_n 3, 1) := by decide +kernel
theorem dX9_item_17 : decode cX9_item 17 = .ok (.aload_n 3, 1) := by decide +kernel
theorem dX9_item_18 : decode cX9_item 18 = .ok (.getfield 318, 3) := by decide +kernel
theorem dX9_item_21 : decode cX9_item 21 = .ok (.ifCond .ne 6, 3) := by decide +kernel
theorem dX9_item_24 : decode cX9_item 24 = .ok (.ldc 237, 2) := by decide +kernel
theorem dX9_item_26 : decode cX9_item 26 = .ok (.ireturn, 1) := by decide +kernel
theorem dX9_item_27 : decode cX9_item 27 = .ok (.aload_n 3, 1) := by decide +kernel
theorem dX9_item_28 : decode cX9_item 28 = .ok (.getfield 318, 3) := by decide +kernel
theorem dX9_item_31 : decode cX9_item 31 = .ok (.iconst 2, 1) := by decide +kernel
theorem dX9_item_32 : decode cX9_item 32 = .ok (.if_icmp .eq 6, 3) := by decide +kernel
theorem dX9_item_35 : decode cX9_item 35 = .ok (.ldc 113, 2) := by decide +kernel
theorem dX9_item_37 : decode cX9_item 37 = .ok (.ireturn, 1) := by decide +kernel
theorem dX9_item_38 : decode cX9_item 38 = .ok (.aload_n 3, 1) := by decide +kernel
theorem dX9_item_39 : decode cX9_item 39 = .ok (.getfield 328, 3) := by decide +kernel
theorem dX9_item_42 : decode cX9_item 42 = .ok (.iload_n 2, 1) := by decide +kernel
theorem dX9_item_43 : decode cX9_item 43 = .ok (.invokevirtual 287, 3) := by decide +kernel
theorem dX9_item_46 : decode cX9_item 46 = .ok (.ifCond .ne 7, 3) := by decide +kernel
theorem dX9_item_49 : decode cX9_item 49 = .ok (.ldc_w 290, 3) := by decide +kernel
theorem dX9_item_52 : decode cX9_item 52 = .ok (.ireturn, 1) := by decide +kernel
theorem dX9_item_53 : decode cX9_item 53 = .ok (.aload_n 3, 1) := by decide +kernel
theorem dX9_item_54 : decode cX9_item 54 = .ok (.getfield 328, 3) := by decide +kernel
theorem dX9_item_57 : decode cX9_item 57 = .ok (.iload_n 2, 1) := by decide +kernel
theorem dX9_item_58 : decode cX9_item 58 = .ok (.invokevirtual 300, 3) := by decide +kernel
theorem dX9_item_61 : decode cX9_item 61 = .ok (.ifCond .eq 15, 3) := by decide +kernel
theorem dX9_item_64 : decode cX9_item 64 = .ok (.aload_n 3, 1) := by decide +kernel
theorem dX9_item_65 : decode cX9_item 65 = .ok (.getfield 328, 3) := by decide +kernel
theorem dX9_item_68 : decode cX9_item 68 = .ok (.getfield 292, 3) := by decide +kernel
theorem dX9_item_71 : decode cX9_item 71 = .ok (.iload_n 2, 1) := by decide +kernel
theorem dX9_item_72 : decode cX9_item 72 = .ok (.iaload, 1) := by decide +kernel
theorem dX9_item_73 : decode cX9_item 73 = .ok (.goto 5, 3) := by decide +kernel
theorem dX9_item_76 : decode cX9_item 76 = .ok (.ldc 113, 2) := by decide +kernel
theorem dX9_item_78 : decode cX9_item 78 = .ok (.ireturn, 1) := by decide +kernel
theorem dX9_rest_0 : decode cX9_rest 0 = .ok (.iload_n 1, 1) := by decide +kernel
theorem dX9_rest_1 : decode cX9_rest 1 = .ok (.invokestatic 315, 3) := by decide +kernel
theorem dX9_rest_4 : decode cX9_rest 4 = .ok (.ifCond .ne 6, 3) := by decide +kernel
theorem dX9_rest_7 : decode cX9_rest 7 = .ok (.ldc 71, 2) := by decide +kernel
theorem dX9_rest_9 : decode cX9_rest 9 = .ok (.ireturn, 1) := by decide +kernel
theorem dX9_rest_10 : decode cX9_rest 10 = .ok (.aload_n 0, 1) := by decide +kernel
theorem dX9_rest_11 : decode cX9_rest 11 = .ok (.getfield 48, 3) := by decide +kernel
theorem dX9_rest_14 : decode cX9_rest 14 = .ok (.iload_n 1, 1) := by decide +kernel
theorem dX9_rest_15 : decode cX9_rest 15 = .ok (.aaload, 1) := by decide +kernel
theorem dX9_rest_16 : decode cX9_rest 16 = .ok (.astore_n 3, 1) := by decide +kernel
theorem dX9_rest_17 : decode cX9_rest 17 = .ok (.aload_n 3, 1) := by decide +kernel
theorem dX9_rest_18 : decode cX9_rest 18 = .ok (.getfield 318, 3) := by decide +kernel
theorem dX9_rest_21 : decode cX9_rest 21 = .ok (.ifCond .ne 6, 3) := by decide +kernel
theorem dX9_rest_24 : decode cX9_rest 24 = .ok (.ldc 237, 2) := by decide +kernel
theorem dX9_rest_26 : decode cX9_rest 26 = .ok (.ireturn, 1) := by decide +kernel
theorem dX9_rest_27 : decode cX9_rest 27 = .ok (.aload_n 3, 1) := by decide +kernel
theorem dX9_rest_28 : decode cX9_rest 28 = .ok (.getfield 318, 3) := by decide +kernel
theorem dX9_rest_31 : decode cX9_rest 31 = .ok (.iconst 3, 1) := by decide +kernel
theorem dX9_rest_32 : decode cX9_rest 32 = .ok (.if_icmp .eq 6, 3) := by decide +kernel
theorem dX9_rest_35 : decode cX9_rest 35 = .ok (.ldc 113, 2) := by decide +kernel
theorem dX9_rest_37 : decode cX9_rest 37 = .ok (.ireturn, 1) := by decide +kernel
theorem dX9_rest_38 : decode cX9_rest 38 = .ok (.iload_n 2, 1) := by decide +kernel
theorem dX9_rest_39 : decode cX9_rest 39 = .ok (.ifCond .ne 8, 3) := by decide +kernel
theorem dX9_rest_42 : decode cX9_rest 42 = .ok (.ldc 158, 2) := by decide +kernel
theorem dX9_rest_44 : decode cX9_rest 44 = .ok (.goto 9, 3) := by decide +kernel
theorem dX9_rest_47 : decode cX9_rest 47 = .ok (.aload_n 3, 1) := by decide +kernel
theorem dX9_rest_48 : decode cX9_rest 48 = .ok (.getfield 334, 3) := by decide +kernel
theorem dX9_rest_51 : decode cX9_rest 51 = .ok (.iload_n 2, 1) := by decide +kernel
theorem dX9_rest_52 : decode cX9_rest 52 = .ok (.irem, 1) := by decide +kernel
theorem dX9_rest_53 : decode cX9_rest 53 = .ok (.ireturn, 1) := by decide +kernel
theorem dX9_tell_0 : decode cX9_tell 0 = .ok (.aload_n 0, 1) := by decide +kernel
theorem dX9_tell_1 : decode cX9_tell 1 = .ok (.getfield 335, 3) := by decide +kernel
theorem dX9_tell_4 : decode cX9_tell 4 = .ok (.bipush 60, 2) := by decide +kernel
theorem dX9_tell_6 : decode cX9_tell 6 = .ok (.if_icmp .lt 6, 3) := by decide +kernel
theorem dX9_tell_9 : decode cX9_tell 9 = .ok (.ldc 76, 2) := by decide +kernel
theorem dX9_tell_11 : decode cX9_tell 11 = .ok (.ireturn, 1) := by decide +kernel
theorem dX9_tell_12 : decode cX9_tell 12 = .ok (.aload_n 0, 1) := by decide +kernel
theorem dX9_tell_13 : decode cX9_tell 13 = .ok (.getfield 52, 3) := by decide +kernel
theorem dX9_tell_16 : decode cX9_tell 16 = .ok (.aload_n 0, 1) := by decide +kernel
theorem dX9_tell_17 : decode cX9_tell 17 = .ok (.getfield 335, 3) := by decide +kernel
theorem dX9_tell_20 : decode cX9_tell 20 = .ok (.iload_n 1, 1) := by decide +kernel
theorem dX9_tell_21 : decode cX9_tell 21 = .ok (.iastore, 1) := by decide +kernel
theorem dX9_tell_22 : decode cX9_tell 22 = .ok (.aload_n 0, 1) := by decide +kernel
theorem dX9_tell_23 : decode cX9_tell 23 = .ok (.dup, 1) := by decide +kernel
theorem dX9_tell_24 : decode cX9_tell 24 = .ok (.getfield 335, 3) := by decide +kernel
theorem dX9_tell_27 : decode cX9_tell 27 = .ok (.iconst 1, 1) := by decide +kernel
theorem dX9_tell_28 : decode cX9_tell 28 = .ok (.iadd, 1) := by decide +kernel
theorem dX9_tell_29 : decode cX9_tell 29 = .ok (.putfield 335, 3) := by decide +kernel
theorem dX9_tell_32 : decode cX9_tell 32 = .ok (.aload_n 0, 1) := by decide +kernel
theorem dX9_tell_33 : decode cX9_tell 33 = .ok (.getfield 335, 3) := by decide +kernel
theorem dX9_tell_36 : decode cX9_tell 36 = .ok (.ireturn, 1) := by decide +kernel
theorem dX9_check_0 : decode cX9_check 0 = .ok (.aload_n 0, 1) := by decide +kernel
theorem dX9_check_1 : decode cX9_check 1 = .ok (.getfield 335, 3) := by decide +kernel
theorem dX9_check_4 : decode cX9_check 4 = .ok (.istore_n 2, 1) := by decide +kernel
theorem dX9_check_5 : decode cX9_check 5 = .ok (.aload_n 0, 1) := by decide +kernel
theorem dX9_check_6 : decode cX9_check 6 = .ok (.iconst 0, 1) := by decide +kernel
theorem dX9_check_7 : decode cX9_check 7 = .ok (.putfield 335, 3) := by decide +kernel
theorem dX9_check_10 : decode cX9_check 10 = .ok (.iload_n 1, 1) := by decide +kernel
theorem dX9_check_11 : decode cX9_check 11 = .ok (.iconst 1, 1) := by decide +kernel
theorem dX9_check_12 : decode cX9_check 12 = .ok (.if_icmp .lt 9, 3) := by decide +kernel
theorem dX9_check_15 : decode cX9_check 15 = .ok (.iload_n 1, 1) := by decide +kernel
theorem dX9_check_16 : decode cX9_check 16 = .ok (.bipush 30, 2) := by decide +kernel
theorem dX9_check_18 : decode cX9_check 18 = .ok (.if_icmp .le 6, 3) := by decide +kernel
theorem dX9_check_21 : decode cX9_check 21 = .ok (.ldc 71, 2) := by decide +kernel
theorem dX9_check_23 : decode cX9_check 23 = .ok (.ireturn, 1) := by decide +kernel
theorem dX9_check_24 : decode cX9_check 24 = .ok (.aload_n 0, 1) := by decide +kernel
theorem dX9_check_25 : decode cX9_check 25 = .ok (.getfield 338, 3) := by decide +kernel
theorem dX9_check_28 : decode cX9_check 28 = .ok (.ifCond .ne 6, 3) := by decide +kernel
theorem dX9_check_31 : decode cX9_check 31 = .ok (.ldc 158, 2) := by decide +kernel
theorem dX9_check_33 : decode cX9_check 33 = .ok (.ireturn, 1) := by decide +kernel
theorem dX9_check_34 : decode cX9_check 34 = .ok (.aload_n 0, 1) := by decide +kernel
theorem dX9_check_35 : decode cX9_check 35 = .ok (.getfield 19, 3) := by decide +kernel
theorem dX9_check_38 : decode cX9_check 38 = .ok (.aload_n 0, 1) := by decide +kernel
theorem dX9_check_39 : decode cX9_check 39 = .ok (.getfield 16, 3) := by decide +kernel
theorem dX9_check_42 : decode cX9_check 42 = .ok (.invokevirtual 223, 3) := by decide +kernel
theorem dX9_check_45 : decode cX9_check 45 = .ok (.iload_n 1, 1) := by decide +kernel
theorem dX9_check_46 : decode cX9_check 46 = .ok (.sipush 9999, 3) := by decide +kernel
theorem dX9_check_49 : decode cX9_check 49 = .ok (.aload_n 0, 1) := by decide +kernel
theorem dX9_check_50 : decode cX9_check 50 = .ok (.getfield 16, 3) := by decide +kernel
theorem dX9_check_53 : decode cX9_check 53 = .ok (.getfield 188, 3) := by decide +kernel
theorem dX9_check_56 : decode cX9_check 56 = .ok (.isub, 1) := by decide +kernel
theorem dX9_check_57 : decode cX9_check 57 = .ok (.invokestatic 165, 3) := by decide +kernel
theorem dX9_check_60 : decode cX9_check 60 = .ok (.istore_n 3, 1) := by decide +kernel
theorem dX9_check_61 : decode cX9_check 61 = .ok (.iconst 0, 1) := by decide +kernel
theorem dX9_check_62 : decode cX9_check 62 = .ok (.istore 4, 2) := by decide +kernel
theorem dX9_check_64 : decode cX9_check 64 = .ok (.iload 4, 2) := by decide +kernel
theorem dX9_check_66 : decode cX9_check 66 = .ok (.iload_n 3, 1) := by decide +kernel
theorem dX9_check_67 : decode cX9_check 67 = .ok (.if_icmp .ge 82, 3) := by decide +kernel
theorem dX9_check_70 : decode cX9_check 70 = .ok (.aload_n 0, 1) := by decide +kernel
theorem dX9_check_71 : decode cX9_check 71 = .ok (.getfield 19, 3) := by decide +kernel
theorem dX9_check_74 : decode cX9_check 74 = .ok (.invokevirtual 191, 3) := by decide +kernel
theorem dX9_check_77 : decode cX9_check 77 = .ok (.iconst 2, 1) := by decide +kernel
theorem dX9_check_78 : decode cX9_check 78 = .ok (.iload 4, 2) := by decide +kernel
theorem dX9_check_80 : decode cX9_check 80 = .ok (.imul, 1) := by decide +kernel
theorem dX9_check_81 : decode cX9_check 81 = .ok (.istore 5, 2) := by decide +kernel
theorem dX9_check_83 : decode cX9_check 83 = .ok (.iload 5, 2) := by decide +kernel
theorem dX9_check_85 : decode cX9_check 85 = .ok (.iload_n 2, 1) := by decide +kernel
theorem dX9_check_86 : decode cX9_check 86 = .ok (.if_icmp .ge 20, 3) := by decide +kernel
theorem dX9_check_89 : decode cX9_check 89 = .ok (.aload_n 0, 1) := by decide +kernel
theorem dX9_check_90 : decode cX9_check 90 = .ok (.getfield 52, 3) := by decide +kernel
theorem dX9_check_93 : decode cX9_check 93 = .ok (.iload 5, 2) := by decide +kernel
theorem dX9_check_95 : decode cX9_check 95 = .ok (.iaload, 1) := by decide +kernel
theorem dX9_check_96 : decode cX9_check 96 = .ok (.aload_n 0, 1) := by decide +kernel
theorem dX9_check_97 : decode cX9_check 97 = .ok (.getfield 19, 3) := by decide +kernel
theorem dX9_check_100 : decode cX9_check 100 = .ok (.getfield 185, 3) := by decide +kernel
theorem dX9_check_103 : decode cX9_check 103 = .ok (.if_icmp .eq 8, 3) := by decide +kernel
theorem dX9_check_106 : decode cX9_check 106 = .ok (.iconst 1, 1) := by decide +kernel
theorem dX9_check_107 : decode cX9_check 107 = .ok (.iload 5, 2) := by decide +kernel
theorem dX9_check_109 : decode cX9_check 109 = .ok (.iadd, 1) := by decide +kernel
theorem dX9_check_110 : decode cX9_check 110 = .ok (.ireturn, 1) := by decide +kernel
theorem dX9_check_111 : decode cX9_check 111 = .ok (.iload 5, 2) := by decide +kernel
theorem dX9_check_113 : decode cX9_check 113 = .ok (.iconst 1, 1) := by decide +kernel
theorem dX9_check_114 : decode cX9_check 114 = .ok (.iadd, 1) := by decide +kernel
theorem dX9_check_115 : decode cX9_check 115 = .ok (.iload_n 2, 1) := by decide +kernel
theorem dX9_check_116 : decode cX9_check 116 = .ok (.if_icmp .ge 22, 3) := by decide +kernel
theorem dX9_check_119 : decode cX9_check 119 = .ok (.aload_n 0, 1) := by decide +kernel
theorem dX9_check_120 : decode cX9_check 120 = .ok (.getfield 52, 3) := by decide +kernel
theorem dX9_check_123 : decode cX9_check 123 = .ok (.iload 5, 2) := by decide +kernel
theorem dX9_check_125 : decode cX9_check 125 = .ok (.iconst 1, 1) := by decide +kernel
theorem dX9_check_126 : decode cX9_check 126 = .ok (.iadd, 1) := by decide +kernel
theorem dX9_check_127 : decode cX9_check 127 = .ok (.iaload, 1) := by decide +kernel
theorem dX9_check_128 : decode cX9_check 128 = .ok (.aload_n 0, 1) := by decide +kernel
theorem dX9_check_129 : decode cX9_check 129 = .ok (.getfield 19, 3) := by decide +kernel
theorem dX9_check_132 : decode cX9_check 132 = .ok (.invokevirtual 200, 3) := by decide +kernel
theorem dX9_check_135 : decode cX9_check 135 = .ok (.if_icmp .eq 8, 3) := by decide +kernel
theorem dX9_check_138 : decode cX9_check 138 = .ok (.iconst 2, 1) := by decide +kernel
theorem dX9_check_139 : decode cX9_check 139 = .ok (.iload 5, 2) := by decide +kernel
theorem dX9_check_141 : decode cX9_check 141 = .ok (.iadd, 1) := by decide +kernel
theorem dX9_check_142 : decode cX9_check 142 = .ok (.ireturn, 1) := by decide +kernel
theorem dX9_check_143 : decode cX9_check 143 = .ok (.iinc 4 1, 3) := by decide +kernel
theorem dX9_check_146 : decode cX9_check 146 = .ok (.goto (-82), 3) := by decide +kernel
theorem dX9_check_149 : decode cX9_check 149 = .ok (.iload_n 2, 1) := by decide +kernel
theorem dX9_check_150 : decode cX9_check 150 = .ok (.iconst 2, 1) := by decide +kernel
theorem dX9_check_151 : decode cX9_check 151 = .ok (.iload_n 3, 1) := by decide +kernel
theorem dX9_check_152 : decode cX9_check 152 = .ok (.imul, 1) := by decide +kernel
theorem dX9_check_153 : decode cX9_check 153 = .ok (.if_icmp .le 11, 3) := by decide +kernel
theorem dX9_check_156 : decode cX9_check 156 = .ok (.iconst 1, 1) := by decide +kernel
theorem dX9_check_157 : decode cX9_check 157 = .ok (.iconst 2, 1) := by decide +kernel
theorem dX9_check_158 : decode cX9_check 158 = .ok (.iload_n 3, 1) := by decide +kernel
theorem dX9_check_159 : decode cX9_check 159 = .ok (.imul, 1) := by decide +kernel
theorem dX9_check_160 : decode cX9_check 160 = .ok (.iadd, 1) := by decide +kernel
theorem dX9_check_161 : decode cX9_check 161 = .ok (.goto 4, 3) := by decide +kernel
theorem dX9_check_164 : decode cX9_check 164 = .ok (.iconst 0, 1) := by decide +kernel
theorem dX9_check_165 : decode cX9_check 165 = .ok (.ireturn, 1) := by decide +kernel
theorem dX9_keep_0 : decode cX9_keep 0 = .ok (.aload_n 0, 1) := by decide +kernel
theorem dX9_keep_1 : decode cX9_keep 1 = .ok (.getfield 16, 3) := by decide +kernel
theorem dX9_keep_4 : decode cX9_keep 4 = .ok (.aload_n 0, 1) := by decide +kernel
theorem dX9_keep_5 : decode cX9_keep 5 = .ok (.getfield 10, 3) := by decide +kernel
theorem dX9_keep_8 : decode cX9_keep 8 = .ok (.invokevirtual 223, 3) := by decide +kernel
theorem dX9_keep_11 : decode cX9_keep 11 = .ok (.aload_n 0, 1) := by decide +kernel
theorem dX9_keep_12 : decode cX9_keep 12 = .ok (.iconst 1, 1) := by decide +kernel
theorem dX9_keep_13 : decode cX9_keep 13 = .ok (.putfield 338, 3) := by decide +kernel
theorem dX9_keep_16 : decode cX9_keep 16 = .ok (.aload_n 0, 1) := by decide +kernel
theorem dX9_keep_17 : decode cX9_keep 17 = .ok (.getfield 10, 3) := by decide +kernel
theorem dX9_keep_20 : decode cX9_keep 20 = .ok (.getfield 72, 3) := by decide +kernel
theorem dX9_keep_23 : decode cX9_keep 23 = .ok (.ireturn, 1) := by decide +kernel
theorem dX9_back_0 : decode cX9_back 0 = .ok (.aload_n 0, 1) := by decide +kernel
theorem dX9_back_1 : decode cX9_back 1 = .ok (.getfield 338, 3) := by decide +kernel
theorem dX9_back_4 : decode cX9_back 4 = .ok (.ifCond .ne 6, 3) := by decide +kernel
theorem dX9_back_7 : decode cX9_back 7 = .ok (.ldc 158, 2) := by decide +kernel
theorem dX9_back_9 : decode cX9_back 9 = .ok (.ireturn, 1) := by decide +kernel
theorem dX9_back_10 : decode cX9_back 10 = .ok (.aload_n 0, 1) := by decide +kernel
theorem dX9_back_11 : decode cX9_back 11 = .ok (.getfield 10, 3) := by decide +kernel
theorem dX9_back_14 : decode cX9_back 14 = .ok (.aload_n 0, 1) := by decide +kernel
theorem dX9_back_15 : decode cX9_back 15 = .ok (.getfield 16, 3) := by decide +kernel
theorem dX9_back_18 : decode cX9_back 18 = .ok (.invokevirtual 223, 3) := by decide +kernel
theorem dX9_back_21 : decode cX9_back 21 = .ok (.aload_n 0, 1) := by decide +kernel
theorem dX9_back_22 : decode cX9_back 22 = .ok (.getfield 10, 3) := by decide +kernel
theorem dX9_back_25 : decode cX9_back 25 = .ok (.getfield 72, 3) := by decide +kernel
theorem dX9_back_28 : decode cX9_back 28 = .ok (.ireturn, 1) := by decide +kernel
theorem dX9_count_0 : decode cX9_count 0 = .ok (.iload_n 1, 1) := by decide +kernel
theorem dX9_count_1 : decode cX9_count 1 = .ok (.tableswitch 117 0 8 #[51, 59, 67, 75, 83, 91, 99, 104, 109], 51) := by decide +kernel
theorem dX9_count_52 : decode cX9_count 52 = .ok (.aload_n 0, 1) := by decide +kernel
theorem dX9_count_53 : decode cX9_count 53 = .ok (.getfield 10, 3) := by decide +kernel
theorem dX9_count_56 : decode cX9_count 56 = .ok (.getfield 72, 3) := by decide +kernel
theorem dX9_count_59 : decode cX9_count 59 = .ok (.ireturn, 1) := by decide +kernel
theorem dX9_count_60 : decode cX9_count 60 = .ok (.aload_n 0, 1) := by decide +kernel
theorem dX9_count_61 : decode cX9_count 61 = .ok (.getfield 10, 3) := by decide +kernel
theorem dX9_count_64 : decode cX9_count 64 = .ok (.getfield 188, 3) := by decide +kernel
theorem dX9_count_67 : decode cX9_count 67 = .ok (.ireturn, 1) := by decide +kernel
theorem dX9_count_68 : decode cX9_count 68 = .ok (.aload_n 0, 1) := by decide +kernel
theorem dX9_count_69 : decode cX9_count 69 = .ok (.getfield 10, 3) := by decide +kernel
theorem dX9_count_72 : decode cX9_count 72 = .ok (.getfield 120, 3) := by decide +kernel
theorem dX9_count_75 : decode cX9_count 75 = .ok (.ireturn, 1) := by decide +kernel
theorem dX9_count_76 : decode cX9_count 76 = .ok (.aload_n 0, 1) := by decide +kernel
theorem dX9_count_77 : decode cX9_count 77 = .ok (.getfield 10, 3) := by decide +kernel
theorem dX9_count_80 : decode cX9_count 80 = .ok (.getfield 159, 3) := by decide +kernel
theorem dX9_count_83 : decode cX9_count 83 = .ok (.ireturn, 1) := by decide +kernel
theorem dX9_count_84 : decode cX9_count 84 = .ok (.aload_n 0, 1) := by decide +kernel
theorem dX9_count_85 : decode cX9_count 85 = .ok (.getfield 10, 3) := by decide +kernel
theorem dX9_count_88 : decode cX9_count 88 = .ok (.getfield 162, 3) := by decide +kernel
theorem dX9_count_91 : decode cX9_count 91 = .ok (.ireturn, 1) := by decide +kernel
theorem dX9_count_92 : decode cX9_count 92 = .ok (.aload_n 0, 1) := by decide +kernel
theorem dX9_count_93 : decode cX9_count 93 = .ok (.getfield 10, 3) := by decide +kernel
theorem dX9_count_96 : decode cX9_count 96 = .ok (.getfield 264, 3) := by decide +kernel
theorem dX9_count_99 : decode cX9_count 99 = .ok (.ireturn, 1) := by decide +kernel
theorem dX9_count_100 : decode cX9_count 100 = .ok (.aload_n 0, 1) := by decide +kernel
theorem dX9_count_101 : decode cX9_count 101 = .ok (.getfield 335, 3) := by decide +kernel
theorem dX9_count_104 : decode cX9_count 104 = .ok (.ireturn, 1) := by decide +kernel
theorem dX9_count_105 : decode cX9_count 105 = .ok (.aload_n 0, 1) := by decide +kernel
theorem dX9_count_106 : decode cX9_count 106 = .ok (.getfield 253, 3) := by decide +kernel
theorem dX9_count_109 : decode cX9_count 109 = .ok (.ireturn, 1) := by decide +kernel
theorem dX9_count_110 : decode cX9_count 110 = .ok (.aload_n 0, 1) := by decide +kernel
theorem dX9_count_111 : decode cX9_count 111 = .ok (.getfield 10, 3) := by decide +kernel
theorem dX9_count_114 : decode cX9_count 114 = .ok (.getfield 174, 3) := by decide +kernel
theorem dX9_count_117 : decode cX9_count 117 = .ok (.ireturn, 1) := by decide +kernel
theorem dX9_count_118 : decode cX9_count 118 = .ok (.ldc 71, 2) := by decide +kernel
theorem dX9_count_120 : decode cX9_count 120 = .ok (.ireturn, 1) := by decide +kernel
theorem dX9_isKind_0 : decode cX9_isKind 0 = .ok (.iload_n 0, 1) := by decide +kernel
theorem dX9_isKind_1 : decode cX9_isKind 1 = .ok (.ifCond .lt 13, 3) := by decide +kernel
theorem dX9_isKind_4 : decode cX9_isKind 4 = .ok (.iload_n 0, 1) := by decide +kernel
theorem dX9_isKind_5 : decode cX9_isKind 5 = .ok (.bipush 6, 2) := by decide +kernel
theorem dX9_isKind_7 : decode cX9_isKind 7 = .ok (.if_icmp .ge 7, 3) := by decide +kernel
theorem dX9_isKind_10 : decode cX9_isKind 10 = .ok (.iconst 1, 1) := by decide +kernel
theorem dX9_isKind_11 : decode cX9_isKind 11 = .ok (.goto 4, 3) := by decide +kernel
theorem dX9_isKind_14 : decode cX9_isKind 14 = .ok (.iconst 0, 1) := by decide +kernel
theorem dX9_isKind_15 : decode cX9_isKind 15 = .ok (.ireturn, 1) := by decide +kernel
theorem dX9_isRoom_0 : decode cX9_isRoom 0 = .ok (.iload_n 0, 1) := by decide +kernel
theorem dX9_isRoom_1 : decode cX9_isRoom 1 = .ok (.ifCond .lt 13, 3) := by decide +kernel
theorem dX9_isRoom_4 : decode cX9_isRoom 4 = .ok (.iload_n 0, 1) := by decide +kernel
theorem dX9_isRoom_5 : decode cX9_isRoom 5 = .ok (.bipush 8, 2) := by decide +kernel
theorem dX9_isRoom_7 : decode cX9_isRoom 7 = .ok (.if_icmp .ge 7, 3) := by decide +kernel
theorem dX9_isRoom_10 : decode cX9_isRoom 10 = .ok (.iconst 1, 1) := by decide +kernel
theorem dX9_isRoom_11 : decode cX9_isRoom 11 = .ok (.goto 4, 3) := by decide +kernel
theorem dX9_isRoom_14 : decode cX9_isRoom 14 = .ok (.iconst 0, 1) := by decide +kernel
theorem dX9_isRoom_15 : decode cX9_isRoom 15 = .ok (.ireturn, 1) := by decide +kernel
theorem dX9_isSort_0 : decode cX9_isSort 0 = .ok (.iload_n 0, 1) := by decide +kernel
theorem dX9_isSort_1 : decode cX9_isSort 1 = .ok (.ifCond .lt 12, 3) := by decide +kernel
theorem dX9_isSort_4 : decode cX9_isSort 4 = .ok (.iload_n 0, 1) := by decide +kernel
theorem dX9_isSort_5 : decode cX9_isSort 5 = .ok (.iconst 3, 1) := by decide +kernel
theorem dX9_isSort_6 : decode cX9_isSort 6 = .ok (.if_icmp .ge 7, 3) := by decide +kernel
theorem dX9_isSort_9 : decode cX9_isSort 9 = .ok (.iconst 1, 1) := by decide +kernel
theorem dX9_isSort_10 : decode cX9_isSort 10 = .ok (.goto 4, 3) := by decide +kernel
theorem dX9_isSort_13 : decode cX9_isSort 13 = .ok (.iconst 0, 1) := by decide +kernel
theorem dX9_isSort_14 : decode cX9_isSort 14 = .ok (.ireturn, 1) := by decide +kernel
theorem dX9_isRegret_0 : decode cX9_isRegret 0 = .ok (.iload_n 0, 1) := by decide +kernel
theorem dX9_isRegret_1 : decode cX9_isRegret 1 = .ok (.ifCond .lt 13, 3) := by decide +kernel
theorem dX9_isRegret_4 : decode cX9_isRegret 4 = .ok (.iload_n 0, 1) := by decide +kernel
theorem dX9_isRegret_5 : decode cX9_isRegret 5 = .ok (.bipush 99, 2) := by decide +kernel
theorem dX9_isRegret_7 : decode cX9_isRegret 7 = .ok (.if_icmp .gt 7, 3) := by decide +kernel
theorem dX9_isRegret_10 : decode cX9_isRegret 10 = .ok (.iconst 1, 1) := by decide +kernel
theorem dX9_isRegret_11 : decode cX9_isRegret 11 = .ok (.goto 4, 3) := by decide +kernel
theorem dX9_isRegret_14 : decode cX9_isRegret 14 = .ok (.iconst 0, 1) := by decide +kernel
theorem dX9_isRegret_15 : decode cX9_isRegret 15 = .ok (.ireturn, 1) := by decide +kernel
theorem dX9_isSet_0 : decode cX9_isSet 0 = .ok (.iload_n 0, 1) := by decide +kernel
theorem dX9_isSet_1 : decode cX9_isSet 1 = .ok (.ifCond .lt 13, 3) := by decide +kernel
theorem dX9_isSet_4 : decode cX9_isSet 4 = .ok (.iload_n 0, 1) := by decide +kernel
theorem dX9_isSet_5 : decode cX9_isSet 5 = .ok (.bipush 99, 2) := by decide +kernel
theorem dX9_isSet_7 : decode cX9_isSet 7 = .ok (.if_icmp .gt 7, 3) := by decide +kernel
theorem dX9_isSet_10 : decode cX9_isSet 10 = .ok (.iconst 1, 1) := by decide +kernel
theorem dX9_isSet_11 : decode cX9_isSet 11 = .ok (.goto 4, 3) := by decide +kernel
theorem dX9_isSet_14 : decode cX9_isSet 14 = .ok (.iconst 0, 1) := by decide +kernel
theorem dX9_isSet_15 : decode cX9_isSet 15 = .ok (.ireturn, 1) := by decide +kernel
theorem dX9_isSheet_0 : decode cX9_isSheet 0 = .ok (.iload_n 0, 1) := by decide +kernel
theorem dX9_isSheet_1 : decode cX9_isSheet 1 = .ok (.ifCond .lt 12, 3) := by decide +kernel
theorem dX9_isSheet_4 : decode cX9_isSheet 4 = .ok (.iload_n 0, 1) := by decide +kernel
theorem dX9_isSheet_5 : decode cX9_isSheet 5 = .ok (.iconst 4, 1) := by decide +kernel
theorem dX9_isSheet_6 : decode cX9_isSheet 6 = .ok (.if_icmp .ge 7, 3) := by decide +kernel
theorem dX9_isSheet_9 : decode cX9_isSheet 9 = .ok (.iconst 1, 1) := by decide +kernel
theorem dX9_isSheet_10 : decode cX9_isSheet 10 = .ok (.goto 4, 3) := by decide +kernel
theorem dX9_isSheet_13 : decode cX9_isSheet 13 = .ok (.iconst 0, 1) := by decide +kernel
theorem dX9_isSheet_14 : decode cX9_isSheet 14 = .ok (.ireturn, 1) := by decide +kernel
theorem dX9_isSlot_0 : decode cX9_isSlot 0 = .ok (.iload_n 0, 1) := by decide +kernel
theorem dX9_isSlot_1 : decode cX9_isSlot 1 = .ok (.ifCond .lt 12, 3) := by decide +kernel
theorem dX9_isSlot_4 : decode cX9_isSlot 4 = .ok (.iload_n 0, 1) := by decide +kernel
theorem dX9_isSlot_5 : decode cX9_isSlot 5 = .ok (.iconst 5, 1) := by decide +kernel
theorem dX9_isSlot_6 : decode cX9_isSlot 6 = .ok (.if_icmp .ge 7, 3) := by decide +kernel
theorem dX9_isSlot_9 : decode cX9_isSlot 9 = .ok (.iconst 1, 1) := by decide +kernel
theorem dX9_isSlot_10 : decode cX9_isSlot 10 = .ok (.goto 4, 3) := by decide +kernel
theorem dX9_isSlot_13 : decode cX9_isSlot 13 = .ok (.iconst 0, 1) := by decide +kernel
theorem dX9_isSlot_14 : decode cX9_isSlot 14 = .ok (.ireturn, 1) := by decide +kernel
theorem dX9_isOne_0 : decode cX9_isOne 0 = .ok (.iload_n 1, 1) := by decide +kernel
theorem dX9_isOne_1 : decode cX9_isOne 1 = .ok (.ifCond .lt 18, 3) := by decide +kernel
theorem dX9_isOne_4 : decode cX9_isOne 4 = .ok (.iload_n 1, 1) := by decide +kernel
theorem dX9_isOne_5 : decode cX9_isOne 5 = .ok (.aload_n 0, 1) := by decide +kernel
theorem dX9_isOne_6 : decode cX9_isOne 6 = .ok (.getfield 10, 3) := by decide +kernel
theorem dX9_isOne_9 : decode cX9_isOne 9 = .ok (.getfield 72, 3) := by decide +kernel
theorem dX9_isOne_12 : decode cX9_isOne 12 = .ok (.if_icmp .ge 7, 3) := by decide +kernel
theorem dX9_isOne_15 : decode cX9_isOne 15 = .ok (.iconst 1, 1) := by decide +kernel
theorem dX9_isOne_16 : decode cX9_isOne 16 = .ok (.goto 4, 3) := by decide +kernel
theorem dX9_isOne_19 : decode cX9_isOne 19 = .ok (.iconst 0, 1) := by decide +kernel
theorem dX9_isOne_20 : decode cX9_isOne 20 = .ok (.ireturn, 1) := by decide +kernel
theorem dX9_isLock_0 : decode cX9_isLock 0 = .ok (.iload_n 1, 1) := by decide +kernel
theorem dX9_isLock_1 : decode cX9_isLock 1 = .ok (.ifCond .lt 18, 3) := by decide +kernel
theorem dX9_isLock_4 : decode cX9_isLock 4 = .ok (.iload_n 1, 1) := by decide +kernel
theorem dX9_isLock_5 : decode cX9_isLock 5 = .ok (.aload_n 0, 1) := by decide +kernel
theorem dX9_isLock_6 : decode cX9_isLock 6 = .ok (.getfield 10, 3) := by decide +kernel
theorem dX9_isLock_9 : decode cX9_isLock 9 = .ok (.getfield 120, 3) := by decide +kernel
theorem dX9_isLock_12 : decode cX9_isLock 12 = .ok (.if_icmp .ge 7, 3) := by decide +kernel
theorem dX9_isLock_15 : decode cX9_isLock 15 = .ok (.iconst 1, 1) := by decide +kernel
theorem dX9_isLock_16 : decode cX9_isLock 16 = .ok (.goto 4, 3) := by decide +kernel
theorem dX9_isLock_19 : decode cX9_isLock 19 = .ok (.iconst 0, 1) := by decide +kernel
theorem dX9_isLock_20 : decode cX9_isLock 20 = .ok (.ireturn, 1) := by decide +kernel
theorem dX9_fitsLock_0 : decode cX9_fitsLock 0 = .ok (.iload_n 0, 1) := by decide +kernel
theorem dX9_fitsLock_1 : decode cX9_fitsLock 1 = .ok (.tableswitch 46 0 3 #[31, 31, 36, 41], 31) := by decide +kernel
theorem dX9_fitsLock_32 : decode cX9_fitsLock 32 = .ok (.iload_n 1, 1) := by decide +kernel
theorem dX9_fitsLock_33 : decode cX9_fitsLock 33 = .ok (.invokestatic 65, 3) := by decide +kernel
theorem dX9_fitsLock_36 : decode cX9_fitsLock 36 = .ok (.ireturn, 1) := by decide +kernel
theorem dX9_fitsLock_37 : decode cX9_fitsLock 37 = .ok (.iload_n 1, 1) := by decide +kernel
theorem dX9_fitsLock_38 : decode cX9_fitsLock 38 = .ok (.invokestatic 114, 3) := by decide +kernel
theorem dX9_fitsLock_41 : decode cX9_fitsLock 41 = .ok (.ireturn, 1) := by decide +kernel
theorem dX9_fitsLock_42 : decode cX9_fitsLock 42 = .ok (.iload_n 1, 1) := by decide +kernel
theorem dX9_fitsLock_43 : decode cX9_fitsLock 43 = .ok (.invokestatic 117, 3) := by decide +kernel
theorem dX9_fitsLock_46 : decode cX9_fitsLock 46 = .ok (.ireturn, 1) := by decide +kernel
theorem dX9_fitsLock_47 : decode cX9_fitsLock 47 = .ok (.iconst 0, 1) := by decide +kernel
theorem dX9_fitsLock_48 : decode cX9_fitsLock 48 = .ok (.ireturn, 1) := by decide +kernel
theorem dX9_held_0 : decode cX9_held 0 = .ok (.iconst 0, 1) := by decide +kernel
theorem dX9_held_1 : decode cX9_held 1 = .ok (.iload_n 1, 1) := by decide +kernel
theorem dX9_held_2 : decode cX9_held 2 = .ok (.iload_n 0, 1) := by decide +kernel
theorem dX9_held_3 : decode cX9_held 3 = .ok (.invokestatic 165, 3) := by decide +kernel
theorem dX9_held_6 : decode cX9_held 6 = .ok (.invokestatic 341, 3) := by decide +kernel
theorem dX9_held_9 : decode cX9_held 9 = .ok (.ireturn, 1) := by decide +kernel
theorem dX9_feedFour_0 : decode cX9_feedFour 0 = .ok (.bipush 24, 2) := by decide +kernel
theorem dX9_feedFour_2 : decode cX9_feedFour 2 = .ok (.istore_n 2, 1) := by decide +kernel
theorem dX9_feedFour_3 : decode cX9_feedFour 3 = .ok (.iload_n 2, 1) := by decide +kernel
theorem dX9_feedFour_4 : decode cX9_feedFour 4 = .ok (.ifCond .lt 41, 3) := by decide +kernel
theorem dX9_feedFour_7 : decode cX9_feedFour 7 = .ok (.aload_n 0, 1) := by decide +kernel
theorem dX9_feedFour_8 : decode cX9_feedFour 8 = .ok (.getfield 253, 3) := by decide +kernel
theorem dX9_feedFour_11 : decode cX9_feedFour 11 = .ok (.bipush 96, 2) := by decide +kernel
theorem dX9_feedFour_13 : decode cX9_feedFour 13 = .ok (.if_icmp .ge 32, 3) := by decide +kernel
theorem dX9_feedFour_16 : decode cX9_feedFour 16 = .ok (.aload_n 0, 1) := by decide +kernel
theorem dX9_feedFour_17 : decode cX9_feedFour 17 = .ok (.getfield 36, 3) := by decide +kernel
theorem dX9_feedFour_20 : decode cX9_feedFour 20 = .ok (.aload_n 0, 1) := by decide +kernel
theorem dX9_feedFour_21 : decode cX9_feedFour 21 = .ok (.getfield 253, 3) := by decide +kernel
theorem dX9_feedFour_24 : decode cX9_feedFour 24 = .ok (.iload_n 1, 1) := by decide +kernel
theorem dX9_feedFour_25 : decode cX9_feedFour 25 = .ok (.iload_n 2, 1) := by decide +kernel
theorem dX9_feedFour_26 : decode cX9_feedFour 26 = .ok (.iushr, 1) := by decide +kernel
theorem dX9_feedFour_27 : decode cX9_feedFour 27 = .ok (.i2b, 1) := by decide +kernel
theorem dX9_feedFour_28 : decode cX9_feedFour 28 = .ok (.bastore, 1) := by decide +kernel
theorem dX9_feedFour_29 : decode cX9_feedFour 29 = .ok (.aload_n 0, 1) := by decide +kernel
theorem dX9_feedFour_30 : decode cX9_feedFour 30 = .ok (.dup, 1) := by decide +kernel
theorem dX9_feedFour_31 : decode cX9_feedFour 31 = .ok (.getfield 253, 3) := by decide +kernel
theorem dX9_feedFour_34 : decode cX9_feedFour 34 = .ok (.iconst 1, 1) := by decide +kernel
theorem dX9_feedFour_35 : decode cX9_feedFour 35 = .ok (.iadd, 1) := by decide +kernel
theorem dX9_feedFour_36 : decode cX9_feedFour 36 = .ok (.putfield 253, 3) := by decide +kernel
theorem dX9_feedFour_39 : decode cX9_feedFour 39 = .ok (.iinc 2 (-8), 3) := by decide +kernel
theorem dX9_feedFour_42 : decode cX9_feedFour 42 = .ok (.goto (-39), 3) := by decide +kernel
theorem dX9_feedFour_45 : decode cX9_feedFour 45 = .ok (.return_, 1) := by decide +kernel
theorem dX9_entriesThought_0 : decode cX9_entriesThought 0 = .ok (.iconst 0, 1) := by decide +kernel
theorem dX9_entriesThought_1 : decode cX9_entriesThought 1 = .ok (.istore_n 2, 1) := by decide +kernel
theorem dX9_entriesThought_2 : decode cX9_entriesThought 2 = .ok (.iload_n 2, 1) := by decide +kernel
theorem dX9_entriesThought_3 : decode cX9_entriesThought 3 = .ok (.iload_n 1, 1) := by decide +kernel
theorem dX9_entriesThought_4 : decode cX9_entriesThought 4 = .ok (.if_icmp .ge 16, 3) := by decide +kernel
theorem dX9_entriesThought_7 : decode cX9_entriesThought 7 = .ok (.aload_n 0, 1) := by decide +kernel
theorem dX9_entriesThought_8 : decode cX9_entriesThought 8 = .ok (.getfield 19, 3) := by decide +kernel
theorem dX9_entriesThought_11 : decode cX9_entriesThought 11 = .ok (.invokevirtual 191, 3) := by decide +kernel
theorem dX9_entriesThought_14 : decode cX9_entriesThought 14 = .ok (.iinc 2 1, 3) := by decide +kernel
theorem dX9_entriesThought_17 : decode cX9_entriesThought 17 = .ok (.goto (-15), 3) := by decide +kernel
theorem dX9_entriesThought_20 : decode cX9_entriesThought 20 = .ok (.aload_n 0, 1) := by decide +kernel
theorem dX9_entriesThought_21 : decode cX9_entriesThought 21 = .ok (.getfield 19, 3) := by decide +kernel
theorem dX9_entriesThought_24 : decode cX9_entriesThought 24 = .ok (.getfield 185, 3) := by decide +kernel
theorem dX9_entriesThought_27 : decode cX9_entriesThought 27 = .ok (.ireturn, 1) := by decide +kernel
theorem dX9_countHits_0 : decode cX9_countHits 0 = .ok (.aload_n 0, 1) := by decide +kernel
theorem dX9_countHits_1 : decode cX9_countHits 1 = .ok (.getfield 56, 3) := by decide +kernel
theorem dX9_countHits_4 : decode cX9_countHits 4 = .ok (.iconst 0, 1) := by decide +kernel
theorem dX9_countHits_5 : decode cX9_countHits 5 = .ok (.invokestatic 344, 3) := by decide +kernel
theorem dX9_countHits_8 : decode cX9_countHits 8 = .ok (.aload_n 0, 1) := by decide +kernel
theorem dX9_countHits_9 : decode cX9_countHits 9 = .ok (.getfield 19, 3) := by decide +kernel
theorem dX9_countHits_12 : decode cX9_countHits 12 = .ok (.aload_n 0, 1) := by decide +kernel
theorem dX9_countHits_13 : decode cX9_countHits 13 = .ok (.getfield 10, 3) := by decide +kernel
theorem dX9_countHits_16 : decode cX9_countHits 16 = .ok (.invokevirtual 223, 3) := by decide +kernel
theorem dX9_countHits_19 : decode cX9_countHits 19 = .ok (.iconst 0, 1) := by decide +kernel
theorem dX9_countHits_20 : decode cX9_countHits 20 = .ok (.istore_n 2, 1) := by decide +kernel
theorem dX9_countHits_21 : decode cX9_countHits 21 = .ok (.iload_n 2, 1) := by decide +kernel
theorem dX9_countHits_22 : decode cX9_countHits 22 = .ok (.aload_n 1, 1) := by decide +kernel
theorem dX9_countHits_23 : decode cX9_countHits 23 = .ok (.getfield 297, 3) := by decide +kernel
theorem dX9_countHits_26 : decode cX9_countHits 26 = .ok (.if_icmp .ge 74, 3) := by decide +kernel
theorem dX9_countHits_29 : decode cX9_countHits 29 = .ok (.iconst 0, 1) := by decide +kernel
theorem dX9_countHits_30 : decode cX9_countHits 30 = .ok (.istore_n 3, 1) := by decide +kernel
theorem dX9_countHits_31 : decode cX9_countHits 31 = .ok (.iload_n 3, 1) := by decide +kernel
theorem dX9_countHits_32 : decode cX9_countHits 32 = .ok (.aload_n 0, 1) := by decide +kernel
theorem dX9_countHits_33 : decode cX9_countHits 33 = .ok (.getfield 19, 3) := by decide +kernel
theorem dX9_countHits_36 : decode cX9_countHits 36 = .ok (.getfield 72, 3) := by decide +kernel
theorem dX9_countHits_39 : decode cX9_countHits 39 = .ok (.if_icmp .ge 48, 3) := by decide +kernel
theorem dX9_countHits_42 : decode cX9_countHits 42 = .ok (.aload_n 1, 1) := by decide +kernel
theorem dX9_countHits_43 : decode cX9_countHits 43 = .ok (.iload_n 2, 1) := by decide +kernel
theorem dX9_countHits_44 : decode cX9_countHits 44 = .ok (.invokevirtual 300, 3) := by decide +kernel
theorem dX9_countHits_47 : decode cX9_countHits 47 = .ok (.ifCond .eq 34, 3) := by decide +kernel
theorem dX9_countHits_50 : decode cX9_countHits 50 = .ok (.aload_n 1, 1) := by decide +kernel
theorem dX9_countHits_51 : decode cX9_countHits 51 = .ok (.getfield 292, 3) := by decide +kernel
theorem dX9_countHits_54 : decode cX9_countHits 54 = .ok (.iload_n 2, 1) := by decide +kernel
theorem dX9_countHits_55 : decode cX9_countHits 55 = .ok (.iaload, 1) := by decide +kernel
theorem dX9_countHits_56 : decode cX9_countHits 56 = .ok (.aload_n 0, 1) := by decide +kernel
theorem dX9_countHits_57 : decode cX9_countHits 57 = .ok (.getfield 19, 3) := by decide +kernel
theorem dX9_countHits_60 : decode cX9_countHits 60 = .ok (.getfield 77, 3) := by decide +kernel
theorem dX9_countHits_63 : decode cX9_countHits 63 = .ok (.iload_n 3, 1) := by decide +kernel
theorem dX9_countHits_64 : decode cX9_countHits 64 = .ok (.aaload, 1) := by decide +kernel
theorem dX9_countHits_65 : decode cX9_countHits 65 = .ok (.getfield 93, 3) := by decide +kernel
theorem dX9_countHits_68 : decode cX9_countHits 68 = .ok (.if_icmp .ne 13, 3) := by decide +kernel
theorem dX9_countHits_71 : decode cX9_countHits 71 = .ok (.aload_n 0, 1) := by decide +kernel
theorem dX9_countHits_72 : decode cX9_countHits 72 = .ok (.getfield 56, 3) := by decide +kernel
theorem dX9_countHits_75 : decode cX9_countHits 75 = .ok (.iload_n 3, 1) := by decide +kernel
theorem dX9_countHits_76 : decode cX9_countHits 76 = .ok (.dup2, 1) := by decide +kernel
theorem dX9_countHits_77 : decode cX9_countHits 77 = .ok (.iaload, 1) := by decide +kernel
theorem dX9_countHits_78 : decode cX9_countHits 78 = .ok (.iconst 1, 1) := by decide +kernel
theorem dX9_countHits_79 : decode cX9_countHits 79 = .ok (.iadd, 1) := by decide +kernel
theorem dX9_countHits_80 : decode cX9_countHits 80 = .ok (.iastore, 1) := by decide +kernel
theorem dX9_countHits_81 : decode cX9_countHits 81 = .ok (.iinc 3 1, 3) := by decide +kernel
theorem dX9_countHits_84 : decode cX9_countHits 84 = .ok (.goto (-53), 3) := by decide +kernel
theorem dX9_countHits_87 : decode cX9_countHits 87 = .ok (.aload_n 0, 1) := by decide +kernel
theorem dX9_countHits_88 : decode cX9_countHits 88 = .ok (.getfield 19, 3) := by decide +kernel
theorem dX9_countHits_91 : decode cX9_countHits 91 = .ok (.invokevirtual 191, 3) := by decide +kernel
theorem dX9_countHits_94 : decode cX9_countHits 94 = .ok (.iinc 2 1, 3) := by decide +kernel
theorem dX9_countHits_97 : decode cX9_countHits 97 = .ok (.goto (-76), 3) := by decide +kernel
theorem dX9_countHits_100 : decode cX9_countHits 100 = .ok (.return_, 1) := by decide +kernel
