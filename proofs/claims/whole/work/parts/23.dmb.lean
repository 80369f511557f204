theorem dM_advance_0 : decode cM_advance 0 = .ok (.aload_n 0, 1) := by decide +kernel
theorem dM_advance_1 : decode cM_advance 1 = .ok (.getfield 22, 3) := by decide +kernel
theorem dM_advance_4 : decode cM_advance 4 = .ok (.iload_n 1, 1) := by decide +kernel
theorem dM_advance_5 : decode cM_advance 5 = .ok (.iaload, 1) := by decide +kernel
theorem dM_advance_6 : decode cM_advance 6 = .ok (.istore_n 2, 1) := by decide +kernel
theorem dM_advance_7 : decode cM_advance 7 = .ok (.aload_n 0, 1) := by decide +kernel
theorem dM_advance_8 : decode cM_advance 8 = .ok (.getfield 13, 3) := by decide +kernel
theorem dM_advance_11 : decode cM_advance 11 = .ok (.iload_n 1, 1) := by decide +kernel
theorem dM_advance_12 : decode cM_advance 12 = .ok (.iaload, 1) := by decide +kernel
theorem dM_advance_13 : decode cM_advance 13 = .ok (.iload_n 2, 1) := by decide +kernel
theorem dM_advance_14 : decode cM_advance 14 = .ok (.if_icmp .ne 9, 3) := by decide +kernel
theorem dM_advance_17 : decode cM_advance 17 = .ok (.iload_n 2, 1) := by decide +kernel
theorem dM_advance_18 : decode cM_advance 18 = .ok (.iconst 1, 1) := by decide +kernel
theorem dM_advance_19 : decode cM_advance 19 = .ok (.iadd, 1) := by decide +kernel
theorem dM_advance_20 : decode cM_advance 20 = .ok (.goto 4, 3) := by decide +kernel
theorem dM_advance_23 : decode cM_advance 23 = .ok (.iload_n 2, 1) := by decide +kernel
theorem dM_advance_24 : decode cM_advance 24 = .ok (.istore_n 3, 1) := by decide +kernel
theorem dM_advance_25 : decode cM_advance 25 = .ok (.aload_n 0, 1) := by decide +kernel
theorem dM_advance_26 : decode cM_advance 26 = .ok (.getfield 16, 3) := by decide +kernel
theorem dM_advance_29 : decode cM_advance 29 = .ok (.iload_n 1, 1) := by decide +kernel
theorem dM_advance_30 : decode cM_advance 30 = .ok (.iaload, 1) := by decide +kernel
theorem dM_advance_31 : decode cM_advance 31 = .ok (.iload_n 3, 1) := by decide +kernel
theorem dM_advance_32 : decode cM_advance 32 = .ok (.if_icmp .ge 16, 3) := by decide +kernel
theorem dM_advance_35 : decode cM_advance 35 = .ok (.aload_n 0, 1) := by decide +kernel
theorem dM_advance_36 : decode cM_advance 36 = .ok (.getfield 16, 3) := by decide +kernel
theorem dM_advance_39 : decode cM_advance 39 = .ok (.iload_n 1, 1) := by decide +kernel
theorem dM_advance_40 : decode cM_advance 40 = .ok (.dup2, 1) := by decide +kernel
theorem dM_advance_41 : decode cM_advance 41 = .ok (.iaload, 1) := by decide +kernel
theorem dM_advance_42 : decode cM_advance 42 = .ok (.iconst 1, 1) := by decide +kernel
theorem dM_advance_43 : decode cM_advance 43 = .ok (.iadd, 1) := by decide +kernel
theorem dM_advance_44 : decode cM_advance 44 = .ok (.iastore, 1) := by decide +kernel
theorem dM_advance_45 : decode cM_advance 45 = .ok (.goto 27, 3) := by decide +kernel
theorem dM_advance_48 : decode cM_advance 48 = .ok (.aload_n 0, 1) := by decide +kernel
theorem dM_advance_49 : decode cM_advance 49 = .ok (.getfield 13, 3) := by decide +kernel
theorem dM_advance_52 : decode cM_advance 52 = .ok (.iload_n 1, 1) := by decide +kernel
theorem dM_advance_53 : decode cM_advance 53 = .ok (.dup2, 1) := by decide +kernel
theorem dM_advance_54 : decode cM_advance 54 = .ok (.iaload, 1) := by decide +kernel
theorem dM_advance_55 : decode cM_advance 55 = .ok (.iconst 1, 1) := by decide +kernel
theorem dM_advance_56 : decode cM_advance 56 = .ok (.iadd, 1) := by decide +kernel
theorem dM_advance_57 : decode cM_advance 57 = .ok (.iastore, 1) := by decide +kernel
theorem dM_advance_58 : decode cM_advance 58 = .ok (.aload_n 0, 1) := by decide +kernel
theorem dM_advance_59 : decode cM_advance 59 = .ok (.getfield 16, 3) := by decide +kernel
theorem dM_advance_62 : decode cM_advance 62 = .ok (.iload_n 1, 1) := by decide +kernel
theorem dM_advance_63 : decode cM_advance 63 = .ok (.aload_n 0, 1) := by decide +kernel
theorem dM_advance_64 : decode cM_advance 64 = .ok (.getfield 13, 3) := by decide +kernel
theorem dM_advance_67 : decode cM_advance 67 = .ok (.iload_n 1, 1) := by decide +kernel
theorem dM_advance_68 : decode cM_advance 68 = .ok (.iaload, 1) := by decide +kernel
theorem dM_advance_69 : decode cM_advance 69 = .ok (.iconst 1, 1) := by decide +kernel
theorem dM_advance_70 : decode cM_advance 70 = .ok (.iadd, 1) := by decide +kernel
theorem dM_advance_71 : decode cM_advance 71 = .ok (.iastore, 1) := by decide +kernel
theorem dM_advance_72 : decode cM_advance 72 = .ok (.aload_n 0, 1) := by decide +kernel
theorem dM_advance_73 : decode cM_advance 73 = .ok (.getfield 13, 3) := by decide +kernel
theorem dM_advance_76 : decode cM_advance 76 = .ok (.iload_n 1, 1) := by decide +kernel
theorem dM_advance_77 : decode cM_advance 77 = .ok (.iaload, 1) := by decide +kernel
theorem dM_advance_78 : decode cM_advance 78 = .ok (.iload_n 2, 1) := by decide +kernel
theorem dM_advance_79 : decode cM_advance 79 = .ok (.if_icmp .gt 7, 3) := by decide +kernel
theorem dM_advance_82 : decode cM_advance 82 = .ok (.iconst 1, 1) := by decide +kernel
theorem dM_advance_83 : decode cM_advance 83 = .ok (.goto 4, 3) := by decide +kernel
theorem dM_advance_86 : decode cM_advance 86 = .ok (.iconst 0, 1) := by decide +kernel
theorem dM_advance_87 : decode cM_advance 87 = .ok (.ireturn, 1) := by decide +kernel
theorem dM_suits_0 : decode cM_suits 0 = .ok (.iconst 1, 1) := by decide +kernel
theorem dM_suits_1 : decode cM_suits 1 = .ok (.istore_n 2, 1) := by decide +kernel
theorem dM_suits_2 : decode cM_suits 2 = .ok (.iconst 0, 1) := by decide +kernel
theorem dM_suits_3 : decode cM_suits 3 = .ok (.istore_n 3, 1) := by decide +kernel
theorem dM_suits_4 : decode cM_suits 4 = .ok (.iload_n 3, 1) := by decide +kernel
theorem dM_suits_5 : decode cM_suits 5 = .ok (.iload_n 1, 1) := by decide +kernel
theorem dM_suits_6 : decode cM_suits 6 = .ok (.if_icmp .ge 118, 3) := by decide +kernel
theorem dM_suits_9 : decode cM_suits 9 = .ok (.aload_n 0, 1) := by decide +kernel
theorem dM_suits_10 : decode cM_suits 10 = .ok (.getfield 13, 3) := by decide +kernel
theorem dM_suits_13 : decode cM_suits 13 = .ok (.iload_n 1, 1) := by decide +kernel
theorem dM_suits_14 : decode cM_suits 14 = .ok (.iaload, 1) := by decide +kernel
theorem dM_suits_15 : decode cM_suits 15 = .ok (.aload_n 0, 1) := by decide +kernel
theorem dM_suits_16 : decode cM_suits 16 = .ok (.getfield 13, 3) := by decide +kernel
theorem dM_suits_19 : decode cM_suits 19 = .ok (.iload_n 3, 1) := by decide +kernel
theorem dM_suits_20 : decode cM_suits 20 = .ok (.iaload, 1) := by decide +kernel
theorem dM_suits_21 : decode cM_suits 21 = .ok (.if_icmp .eq 18, 3) := by decide +kernel
theorem dM_suits_24 : decode cM_suits 24 = .ok (.aload_n 0, 1) := by decide +kernel
theorem dM_suits_25 : decode cM_suits 25 = .ok (.getfield 13, 3) := by decide +kernel
theorem dM_suits_28 : decode cM_suits 28 = .ok (.iload_n 1, 1) := by decide +kernel
theorem dM_suits_29 : decode cM_suits 29 = .ok (.iaload, 1) := by decide +kernel
theorem dM_suits_30 : decode cM_suits 30 = .ok (.aload_n 0, 1) := by decide +kernel
theorem dM_suits_31 : decode cM_suits 31 = .ok (.getfield 16, 3) := by decide +kernel
theorem dM_suits_34 : decode cM_suits 34 = .ok (.iload_n 3, 1) := by decide +kernel
theorem dM_suits_35 : decode cM_suits 35 = .ok (.iaload, 1) := by decide +kernel
theorem dM_suits_36 : decode cM_suits 36 = .ok (.if_icmp .ne 7, 3) := by decide +kernel
theorem dM_suits_39 : decode cM_suits 39 = .ok (.iconst 1, 1) := by decide +kernel
theorem dM_suits_40 : decode cM_suits 40 = .ok (.goto 4, 3) := by decide +kernel
theorem dM_suits_43 : decode cM_suits 43 = .ok (.iconst 0, 1) := by decide +kernel
theorem dM_suits_44 : decode cM_suits 44 = .ok (.aload_n 0, 1) := by decide +kernel
theorem dM_suits_45 : decode cM_suits 45 = .ok (.getfield 16, 3) := by decide +kernel
theorem dM_suits_48 : decode cM_suits 48 = .ok (.iload_n 1, 1) := by decide +kernel
theorem dM_suits_49 : decode cM_suits 49 = .ok (.iaload, 1) := by decide +kernel
theorem dM_suits_50 : decode cM_suits 50 = .ok (.aload_n 0, 1) := by decide +kernel
theorem dM_suits_51 : decode cM_suits 51 = .ok (.getfield 13, 3) := by decide +kernel
theorem dM_suits_54 : decode cM_suits 54 = .ok (.iload_n 3, 1) := by decide +kernel
theorem dM_suits_55 : decode cM_suits 55 = .ok (.iaload, 1) := by decide +kernel
theorem dM_suits_56 : decode cM_suits 56 = .ok (.if_icmp .eq 18, 3) := by decide +kernel
theorem dM_suits_59 : decode cM_suits 59 = .ok (.aload_n 0, 1) := by decide +kernel
theorem dM_suits_60 : decode cM_suits 60 = .ok (.getfield 16, 3) := by decide +kernel
theorem dM_suits_63 : decode cM_suits 63 = .ok (.iload_n 1, 1) := by decide +kernel
theorem dM_suits_64 : decode cM_suits 64 = .ok (.iaload, 1) := by decide +kernel
theorem dM_suits_65 : decode cM_suits 65 = .ok (.aload_n 0, 1) := by decide +kernel
theorem dM_suits_66 : decode cM_suits 66 = .ok (.getfield 16, 3) := by decide +kernel
theorem dM_suits_69 : decode cM_suits 69 = .ok (.iload_n 3, 1) := by decide +kernel
theorem dM_suits_70 : decode cM_suits 70 = .ok (.iaload, 1) := by decide +kernel
theorem dM_suits_71 : decode cM_suits 71 = .ok (.if_icmp .ne 7, 3) := by decide +kernel
theorem dM_suits_74 : decode cM_suits 74 = .ok (.iconst 1, 1) := by decide +kernel
theorem dM_suits_75 : decode cM_suits 75 = .ok (.goto 4, 3) := by decide +kernel
theorem dM_suits_78 : decode cM_suits 78 = .ok (.iconst 0, 1) := by decide +kernel
theorem dM_suits_79 : decode cM_suits 79 = .ok (.iadd, 1) := by decide +kernel
theorem dM_suits_80 : decode cM_suits 80 = .ok (.istore 4, 2) := by decide +kernel
theorem dM_suits_82 : decode cM_suits 82 = .ok (.iload_n 2, 1) := by decide +kernel
theorem dM_suits_83 : decode cM_suits 83 = .ok (.ifCond .eq 33, 3) := by decide +kernel
theorem dM_suits_86 : decode cM_suits 86 = .ok (.iload 4, 2) := by decide +kernel
theorem dM_suits_88 : decode cM_suits 88 = .ok (.aload_n 0, 1) := by decide +kernel
theorem dM_suits_89 : decode cM_suits 89 = .ok (.getfield 7, 3) := by decide +kernel
theorem dM_suits_92 : decode cM_suits 92 = .ok (.bipush 8, 2) := by decide +kernel
theorem dM_suits_94 : decode cM_suits 94 = .ok (.aload_n 0, 1) := by decide +kernel
theorem dM_suits_95 : decode cM_suits 95 = .ok (.getfield 19, 3) := by decide +kernel
theorem dM_suits_98 : decode cM_suits 98 = .ok (.iload_n 1, 1) := by decide +kernel
theorem dM_suits_99 : decode cM_suits 99 = .ok (.iaload, 1) := by decide +kernel
theorem dM_suits_100 : decode cM_suits 100 = .ok (.imul, 1) := by decide +kernel
theorem dM_suits_101 : decode cM_suits 101 = .ok (.aload_n 0, 1) := by decide +kernel
theorem dM_suits_102 : decode cM_suits 102 = .ok (.getfield 19, 3) := by decide +kernel
theorem dM_suits_105 : decode cM_suits 105 = .ok (.iload_n 3, 1) := by decide +kernel
theorem dM_suits_106 : decode cM_suits 106 = .ok (.iaload, 1) := by decide +kernel
theorem dM_suits_107 : decode cM_suits 107 = .ok (.iadd, 1) := by decide +kernel
theorem dM_suits_108 : decode cM_suits 108 = .ok (.iaload, 1) := by decide +kernel
theorem dM_suits_109 : decode cM_suits 109 = .ok (.if_icmp .ne 7, 3) := by decide +kernel
theorem dM_suits_112 : decode cM_suits 112 = .ok (.iconst 1, 1) := by decide +kernel
theorem dM_suits_113 : decode cM_suits 113 = .ok (.goto 4, 3) := by decide +kernel
theorem dM_suits_116 : decode cM_suits 116 = .ok (.iconst 0, 1) := by decide +kernel
theorem dM_suits_117 : decode cM_suits 117 = .ok (.istore_n 2, 1) := by decide +kernel
theorem dM_suits_118 : decode cM_suits 118 = .ok (.iinc 3 1, 3) := by decide +kernel
theorem dM_suits_121 : decode cM_suits 121 = .ok (.goto (-117), 3) := by decide +kernel
theorem dM_suits_124 : decode cM_suits 124 = .ok (.iload_n 2, 1) := by decide +kernel
theorem dM_suits_125 : decode cM_suits 125 = .ok (.ireturn, 1) := by decide +kernel
theorem dM_ends_0 : decode cM_ends 0 = .ok (.aload_n 0, 1) := by decide +kernel
theorem dM_ends_1 : decode cM_ends 1 = .ok (.iconst 1, 1) := by decide +kernel
theorem dM_ends_2 : decode cM_ends 2 = .ok (.invokevirtual 58, 3) := by decide +kernel
theorem dM_ends_5 : decode cM_ends 5 = .ok (.ifCond .eq 15, 3) := by decide +kernel
theorem dM_ends_8 : decode cM_ends 8 = .ok (.aload_n 0, 1) := by decide +kernel
theorem dM_ends_9 : decode cM_ends 9 = .ok (.getfield 22, 3) := by decide +kernel
theorem dM_ends_12 : decode cM_ends 12 = .ok (.aload_n 0, 1) := by decide +kernel
theorem dM_ends_13 : decode cM_ends 13 = .ok (.getfield 29, 3) := by decide +kernel
theorem dM_ends_16 : decode cM_ends 16 = .ok (.iaload, 1) := by decide +kernel
theorem dM_ends_17 : decode cM_ends 17 = .ok (.goto 4, 3) := by decide +kernel
theorem dM_ends_20 : decode cM_ends 20 = .ok (.iconst 0, 1) := by decide +kernel
theorem dM_ends_21 : decode cM_ends 21 = .ok (.ireturn, 1) := by decide +kernel
theorem dM_line_0 : decode cM_line 0 = .ok (.aload_n 0, 1) := by decide +kernel
theorem dM_line_1 : decode cM_line 1 = .ok (.aload_n 0, 1) := by decide +kernel
theorem dM_line_2 : decode cM_line 2 = .ok (.invokevirtual 50, 3) := by decide +kernel
theorem dM_line_5 : decode cM_line 5 = .ok (.invokevirtual 54, 3) := by decide +kernel
theorem dM_line_8 : decode cM_line 8 = .ok (.ifCond .lt 7, 3) := by decide +kernel
theorem dM_line_11 : decode cM_line 11 = .ok (.iconst 1, 1) := by decide +kernel
theorem dM_line_12 : decode cM_line 12 = .ok (.goto 4, 3) := by decide +kernel
theorem dM_line_15 : decode cM_line 15 = .ok (.iconst 0, 1) := by decide +kernel
theorem dM_line_16 : decode cM_line 16 = .ok (.istore_n 2, 1) := by decide +kernel
theorem dM_line_17 : decode cM_line 17 = .ok (.aload_n 0, 1) := by decide +kernel
theorem dM_line_18 : decode cM_line 18 = .ok (.iload_n 2, 1) := by decide +kernel
theorem dM_line_19 : decode cM_line 19 = .ok (.ifCond .eq 7, 3) := by decide +kernel
theorem dM_line_22 : decode cM_line 22 = .ok (.iconst 0, 1) := by decide +kernel
theorem dM_line_23 : decode cM_line 23 = .ok (.goto 4, 3) := by decide +kernel
theorem dM_line_26 : decode cM_line 26 = .ok (.iload_n 1, 1) := by decide +kernel
theorem dM_line_27 : decode cM_line 27 = .ok (.putfield 25, 3) := by decide +kernel
theorem dM_line_30 : decode cM_line 30 = .ok (.iload_n 2, 1) := by decide +kernel
theorem dM_line_31 : decode cM_line 31 = .ok (.ireturn, 1) := by decide +kernel
theorem dM_low_0 : decode cM_low 0 = .ok (.aload_n 0, 1) := by decide +kernel
theorem dM_low_1 : decode cM_low 1 = .ok (.iload_n 1, 1) := by decide +kernel
theorem dM_low_2 : decode cM_low 2 = .ok (.invokevirtual 61, 3) := by decide +kernel
theorem dM_low_5 : decode cM_low 5 = .ok (.ifCond .eq 12, 3) := by decide +kernel
theorem dM_low_8 : decode cM_low 8 = .ok (.aload_n 0, 1) := by decide +kernel
theorem dM_low_9 : decode cM_low 9 = .ok (.getfield 13, 3) := by decide +kernel
theorem dM_low_12 : decode cM_low 12 = .ok (.iload_n 1, 1) := by decide +kernel
theorem dM_low_13 : decode cM_low 13 = .ok (.iaload, 1) := by decide +kernel
theorem dM_low_14 : decode cM_low 14 = .ok (.goto 4, 3) := by decide +kernel
theorem dM_low_17 : decode cM_low 17 = .ok (.iconst 0, 1) := by decide +kernel
theorem dM_low_18 : decode cM_low 18 = .ok (.ireturn, 1) := by decide +kernel
theorem dM_named_0 : decode cM_named 0 = .ok (.aload_n 0, 1) := by decide +kernel
theorem dM_named_1 : decode cM_named 1 = .ok (.iload_n 1, 1) := by decide +kernel
theorem dM_named_2 : decode cM_named 2 = .ok (.invokevirtual 32, 3) := by decide +kernel
theorem dM_named_5 : decode cM_named 5 = .ok (.ifCond .ne 10, 3) := by decide +kernel
theorem dM_named_8 : decode cM_named 8 = .ok (.aload_n 0, 1) := by decide +kernel
theorem dM_named_9 : decode cM_named 9 = .ok (.iconst 1, 1) := by decide +kernel
theorem dM_named_10 : decode cM_named 10 = .ok (.putfield 25, 3) := by decide +kernel
theorem dM_named_13 : decode cM_named 13 = .ok (.iconst 0, 1) := by decide +kernel
theorem dM_named_14 : decode cM_named 14 = .ok (.ireturn, 1) := by decide +kernel
theorem dM_named_15 : decode cM_named 15 = .ok (.aload_n 0, 1) := by decide +kernel
theorem dM_named_16 : decode cM_named 16 = .ok (.iconst 2, 1) := by decide +kernel
theorem dM_named_17 : decode cM_named 17 = .ok (.invokevirtual 58, 3) := by decide +kernel
theorem dM_named_20 : decode cM_named 20 = .ok (.ireturn, 1) := by decide +kernel
theorem dM_high_0 : decode cM_high 0 = .ok (.aload_n 0, 1) := by decide +kernel
theorem dM_high_1 : decode cM_high 1 = .ok (.iload_n 1, 1) := by decide +kernel
theorem dM_high_2 : decode cM_high 2 = .ok (.invokevirtual 61, 3) := by decide +kernel
theorem dM_high_5 : decode cM_high 5 = .ok (.ifCond .eq 12, 3) := by decide +kernel
theorem dM_high_8 : decode cM_high 8 = .ok (.aload_n 0, 1) := by decide +kernel
theorem dM_high_9 : decode cM_high 9 = .ok (.getfield 16, 3) := by decide +kernel
theorem dM_high_12 : decode cM_high 12 = .ok (.iload_n 1, 1) := by decide +kernel
theorem dM_high_13 : decode cM_high 13 = .ok (.iaload, 1) := by decide +kernel
theorem dM_high_14 : decode cM_high 14 = .ok (.goto 4, 3) := by decide +kernel
theorem dM_high_17 : decode cM_high 17 = .ok (.iconst 0, 1) := by decide +kernel
theorem dM_high_18 : decode cM_high 18 = .ok (.ireturn, 1) := by decide +kernel
theorem dM_spoiler_0 : decode cM_spoiler 0 = .ok (.aload_n 0, 1) := by decide +kernel
theorem dM_spoiler_1 : decode cM_spoiler 1 = .ok (.aload_n 0, 1) := by decide +kernel
theorem dM_spoiler_2 : decode cM_spoiler 2 = .ok (.aload_n 0, 1) := by decide +kernel
theorem dM_spoiler_3 : decode cM_spoiler 3 = .ok (.invokevirtual 50, 3) := by decide +kernel
theorem dM_spoiler_6 : decode cM_spoiler 6 = .ok (.invokevirtual 54, 3) := by decide +kernel
theorem dM_spoiler_9 : decode cM_spoiler 9 = .ok (.ifCond .lt 7, 3) := by decide +kernel
theorem dM_spoiler_12 : decode cM_spoiler 12 = .ok (.iconst 1, 1) := by decide +kernel
theorem dM_spoiler_13 : decode cM_spoiler 13 = .ok (.goto 4, 3) := by decide +kernel
theorem dM_spoiler_16 : decode cM_spoiler 16 = .ok (.iconst 0, 1) := by decide +kernel
theorem dM_spoiler_17 : decode cM_spoiler 17 = .ok (.putfield 25, 3) := by decide +kernel
theorem dM_spoiler_20 : decode cM_spoiler 20 = .ok (.aload_n 0, 1) := by decide +kernel
theorem dM_spoiler_21 : decode cM_spoiler 21 = .ok (.getfield 25, 3) := by decide +kernel
theorem dM_spoiler_24 : decode cM_spoiler 24 = .ok (.ifCond .le 5, 3) := by decide +kernel
theorem dM_spoiler_27 : decode cM_spoiler 27 = .ok (.iconst 0, 1) := by decide +kernel
theorem dM_spoiler_28 : decode cM_spoiler 28 = .ok (.ireturn, 1) := by decide +kernel
theorem dM_spoiler_29 : decode cM_spoiler 29 = .ok (.aload_n 0, 1) := by decide +kernel
theorem dM_spoiler_30 : decode cM_spoiler 30 = .ok (.invokevirtual 50, 3) := by decide +kernel
theorem dM_spoiler_33 : decode cM_spoiler 33 = .ok (.istore_n 1, 1) := by decide +kernel
theorem dM_spoiler_34 : decode cM_spoiler 34 = .ok (.iconst 0, 1) := by decide +kernel
theorem dM_spoiler_35 : decode cM_spoiler 35 = .ok (.istore_n 2, 1) := by decide +kernel
theorem dM_spoiler_36 : decode cM_spoiler 36 = .ok (.iload_n 2, 1) := by decide +kernel
theorem dM_spoiler_37 : decode cM_spoiler 37 = .ok (.aload_n 0, 1) := by decide +kernel
theorem dM_spoiler_38 : decode cM_spoiler 38 = .ok (.getfield 29, 3) := by decide +kernel
theorem dM_spoiler_41 : decode cM_spoiler 41 = .ok (.if_icmp .ge 31, 3) := by decide +kernel
theorem dM_spoiler_44 : decode cM_spoiler 44 = .ok (.iload_n 1, 1) := by decide +kernel
theorem dM_spoiler_45 : decode cM_spoiler 45 = .ok (.iconst 1, 1) := by decide +kernel
theorem dM_spoiler_46 : decode cM_spoiler 46 = .ok (.iload_n 2, 1) := by decide +kernel
theorem dM_spoiler_47 : decode cM_spoiler 47 = .ok (.ishl, 1) := by decide +kernel
theorem dM_spoiler_48 : decode cM_spoiler 48 = .ok (.iconst (-1), 1) := by decide +kernel
theorem dM_spoiler_49 : decode cM_spoiler 49 = .ok (.ixor, 1) := by decide +kernel
theorem dM_spoiler_50 : decode cM_spoiler 50 = .ok (.iand, 1) := by decide +kernel
theorem dM_spoiler_51 : decode cM_spoiler 51 = .ok (.istore_n 3, 1) := by decide +kernel
theorem dM_spoiler_52 : decode cM_spoiler 52 = .ok (.aload_n 0, 1) := by decide +kernel
theorem dM_spoiler_53 : decode cM_spoiler 53 = .ok (.iload_n 3, 1) := by decide +kernel
theorem dM_spoiler_54 : decode cM_spoiler 54 = .ok (.invokevirtual 54, 3) := by decide +kernel
theorem dM_spoiler_57 : decode cM_spoiler 57 = .ok (.ifCond .ge 7, 3) := by decide +kernel
theorem dM_spoiler_60 : decode cM_spoiler 60 = .ok (.iload_n 3, 1) := by decide +kernel
theorem dM_spoiler_61 : decode cM_spoiler 61 = .ok (.goto 4, 3) := by decide +kernel
theorem dM_spoiler_64 : decode cM_spoiler 64 = .ok (.iload_n 1, 1) := by decide +kernel
theorem dM_spoiler_65 : decode cM_spoiler 65 = .ok (.istore_n 1, 1) := by decide +kernel
theorem dM_spoiler_66 : decode cM_spoiler 66 = .ok (.iinc 2 1, 3) := by decide +kernel
theorem dM_spoiler_69 : decode cM_spoiler 69 = .ok (.goto (-33), 3) := by decide +kernel
theorem dM_spoiler_72 : decode cM_spoiler 72 = .ok (.iload_n 1, 1) := by decide +kernel
theorem dM_spoiler_73 : decode cM_spoiler 73 = .ok (.ireturn, 1) := by decide +kernel
theorem dM_apart_0 : decode cM_apart 0 = .ok (.aload_n 0, 1) := by decide +kernel
theorem dM_apart_1 : decode cM_apart 1 = .ok (.iconst 0, 1) := by decide +kernel
theorem dM_apart_2 : decode cM_apart 2 = .ok (.putfield 25, 3) := by decide +kernel
theorem dM_apart_5 : decode cM_apart 5 = .ok (.aload_n 0, 1) := by decide +kernel
theorem dM_apart_6 : decode cM_apart 6 = .ok (.iconst 0, 1) := by decide +kernel
theorem dM_apart_7 : decode cM_apart 7 = .ok (.invokevirtual 71, 3) := by decide +kernel
theorem dM_apart_10 : decode cM_apart 10 = .ok (.ireturn, 1) := by decide +kernel
theorem dM_greatest_0 : decode cM_greatest 0 = .ok (.iconst 0, 1) := by decide +kernel
theorem dM_greatest_1 : decode cM_greatest 1 = .ok (.istore_n 2, 1) := by decide +kernel
theorem dM_greatest_2 : decode cM_greatest 2 = .ok (.iconst 1, 1) := by decide +kernel
theorem dM_greatest_3 : decode cM_greatest 3 = .ok (.istore_n 3, 1) := by decide +kernel
theorem dM_greatest_4 : decode cM_greatest 4 = .ok (.iload_n 3, 1) := by decide +kernel
theorem dM_greatest_5 : decode cM_greatest 5 = .ok (.aload_n 0, 1) := by decide +kernel
theorem dM_greatest_6 : decode cM_greatest 6 = .ok (.invokevirtual 50, 3) := by decide +kernel
theorem dM_greatest_9 : decode cM_greatest 9 = .ok (.if_icmp .gt 35, 3) := by decide +kernel
theorem dM_greatest_12 : decode cM_greatest 12 = .ok (.aload_n 0, 1) := by decide +kernel
theorem dM_greatest_13 : decode cM_greatest 13 = .ok (.iload_n 3, 1) := by decide +kernel
theorem dM_greatest_14 : decode cM_greatest 14 = .ok (.iload_n 1, 1) := by decide +kernel
theorem dM_greatest_15 : decode cM_greatest 15 = .ok (.invokevirtual 64, 3) := by decide +kernel
theorem dM_greatest_18 : decode cM_greatest 18 = .ok (.ifCond .eq 18, 3) := by decide +kernel
theorem dM_greatest_21 : decode cM_greatest 21 = .ok (.iload_n 3, 1) := by decide +kernel
theorem dM_greatest_22 : decode cM_greatest 22 = .ok (.invokestatic 68, 3) := by decide +kernel
theorem dM_greatest_25 : decode cM_greatest 25 = .ok (.iload_n 2, 1) := by decide +kernel
theorem dM_greatest_26 : decode cM_greatest 26 = .ok (.invokestatic 68, 3) := by decide +kernel
theorem dM_greatest_29 : decode cM_greatest 29 = .ok (.if_icmp .le 7, 3) := by decide +kernel
theorem dM_greatest_32 : decode cM_greatest 32 = .ok (.iload_n 3, 1) := by decide +kernel
theorem dM_greatest_33 : decode cM_greatest 33 = .ok (.goto 4, 3) := by decide +kernel
theorem dM_greatest_36 : decode cM_greatest 36 = .ok (.iload_n 2, 1) := by decide +kernel
theorem dM_greatest_37 : decode cM_greatest 37 = .ok (.istore_n 2, 1) := by decide +kernel
theorem dM_greatest_38 : decode cM_greatest 38 = .ok (.iinc 3 1, 3) := by decide +kernel
theorem dM_greatest_41 : decode cM_greatest 41 = .ok (.goto (-37), 3) := by decide +kernel
theorem dM_greatest_44 : decode cM_greatest 44 = .ok (.iload_n 2, 1) := by decide +kernel
theorem dM_greatest_45 : decode cM_greatest 45 = .ok (.ireturn, 1) := by decide +kernel
theorem dM_alike_0 : decode cM_alike 0 = .ok (.iconst 1, 1) := by decide +kernel
theorem dM_alike_1 : decode cM_alike 1 = .ok (.istore_n 3, 1) := by decide +kernel
theorem dM_alike_2 : decode cM_alike 2 = .ok (.iconst 0, 1) := by decide +kernel
theorem dM_alike_3 : decode cM_alike 3 = .ok (.istore 4, 2) := by decide +kernel
theorem dM_alike_5 : decode cM_alike 5 = .ok (.iload 4, 2) := by decide +kernel
theorem dM_alike_7 : decode cM_alike 7 = .ok (.aload_n 0, 1) := by decide +kernel
theorem dM_alike_8 : decode cM_alike 8 = .ok (.getfield 29, 3) := by decide +kernel
theorem dM_alike_11 : decode cM_alike 11 = .ok (.if_icmp .ge 70, 3) := by decide +kernel
theorem dM_alike_14 : decode cM_alike 14 = .ok (.iconst 0, 1) := by decide +kernel
theorem dM_alike_15 : decode cM_alike 15 = .ok (.istore 5, 2) := by decide +kernel
theorem dM_alike_17 : decode cM_alike 17 = .ok (.iload 5, 2) := by decide +kernel
theorem dM_alike_19 : decode cM_alike 19 = .ok (.iload 4, 2) := by decide +kernel
theorem dM_alike_21 : decode cM_alike 21 = .ok (.if_icmp .ge 54, 3) := by decide +kernel
theorem dM_alike_24 : decode cM_alike 24 = .ok (.iload_n 3, 1) := by decide +kernel
theorem dM_alike_25 : decode cM_alike 25 = .ok (.ifCond .eq 42, 3) := by decide +kernel
theorem dM_alike_28 : decode cM_alike 28 = .ok (.iload_n 1, 1) := by decide +kernel
theorem dM_alike_29 : decode cM_alike 29 = .ok (.iload 4, 2) := by decide +kernel
theorem dM_alike_31 : decode cM_alike 31 = .ok (.ishr, 1) := by decide +kernel
theorem dM_alike_32 : decode cM_alike 32 = .ok (.iconst 1, 1) := by decide +kernel
theorem dM_alike_33 : decode cM_alike 33 = .ok (.iand, 1) := by decide +kernel
theorem dM_alike_34 : decode cM_alike 34 = .ok (.ifCond .eq 29, 3) := by decide +kernel
theorem dM_alike_37 : decode cM_alike 37 = .ok (.iload_n 1, 1) := by decide +kernel
theorem dM_alike_38 : decode cM_alike 38 = .ok (.iload 5, 2) := by decide +kernel
theorem dM_alike_40 : decode cM_alike 40 = .ok (.ishr, 1) := by decide +kernel
theorem dM_alike_41 : decode cM_alike 41 = .ok (.iconst 1, 1) := by decide +kernel
theorem dM_alike_42 : decode cM_alike 42 = .ok (.iand, 1) := by decide +kernel
theorem dM_alike_43 : decode cM_alike 43 = .ok (.ifCond .eq 20, 3) := by decide +kernel
theorem dM_alike_46 : decode cM_alike 46 = .ok (.aload_n 0, 1) := by decide +kernel
theorem dM_alike_47 : decode cM_alike 47 = .ok (.getfield 7, 3) := by decide +kernel
theorem dM_alike_50 : decode cM_alike 50 = .ok (.bipush 8, 2) := by decide +kernel
theorem dM_alike_52 : decode cM_alike 52 = .ok (.iload 4, 2) := by decide +kernel
theorem dM_alike_54 : decode cM_alike 54 = .ok (.imul, 1) := by decide +kernel
theorem dM_alike_55 : decode cM_alike 55 = .ok (.iload 5, 2) := by decide +kernel
theorem dM_alike_57 : decode cM_alike 57 = .ok (.iadd, 1) := by decide +kernel
theorem dM_alike_58 : decode cM_alike 58 = .ok (.iaload, 1) := by decide +kernel
theorem dM_alike_59 : decode cM_alike 59 = .ok (.iload_n 2, 1) := by decide +kernel
theorem dM_alike_60 : decode cM_alike 60 = .ok (.if_icmp .ne 7, 3) := by decide +kernel
theorem dM_alike_63 : decode cM_alike 63 = .ok (.iconst 1, 1) := by decide +kernel
theorem dM_alike_64 : decode cM_alike 64 = .ok (.goto 4, 3) := by decide +kernel
theorem dM_alike_67 : decode cM_alike 67 = .ok (.iconst 0, 1) := by decide +kernel
theorem dM_alike_68 : decode cM_alike 68 = .ok (.istore_n 3, 1) := by decide +kernel
theorem dM_alike_69 : decode cM_alike 69 = .ok (.iinc 5 1, 3) := by decide +kernel
theorem dM_alike_72 : decode cM_alike 72 = .ok (.goto (-55), 3) := by decide +kernel
theorem dM_alike_75 : decode cM_alike 75 = .ok (.iinc 4 1, 3) := by decide +kernel
theorem dM_alike_78 : decode cM_alike 78 = .ok (.goto (-73), 3) := by decide +kernel
theorem dM_alike_81 : decode cM_alike 81 = .ok (.iload_n 3, 1) := by decide +kernel
theorem dM_alike_82 : decode cM_alike 82 = .ok (.ireturn, 1) := by decide +kernel
theorem dM_count_0 : decode cM_count 0 = .ok (.iconst 0, 1) := by decide +kernel
theorem dM_count_1 : decode cM_count 1 = .ok (.istore_n 1, 1) := by decide +kernel
theorem dM_count_2 : decode cM_count 2 = .ok (.iconst 0, 1) := by decide +kernel
theorem dM_count_3 : decode cM_count 3 = .ok (.istore_n 2, 1) := by decide +kernel
theorem dM_count_4 : decode cM_count 4 = .ok (.iload_n 2, 1) := by decide +kernel
theorem dM_count_5 : decode cM_count 5 = .ok (.bipush 16, 2) := by decide +kernel
theorem dM_count_7 : decode cM_count 7 = .ok (.if_icmp .ge 17, 3) := by decide +kernel
theorem dM_count_10 : decode cM_count 10 = .ok (.iload_n 1, 1) := by decide +kernel
theorem dM_count_11 : decode cM_count 11 = .ok (.iload_n 0, 1) := by decide +kernel
theorem dM_count_12 : decode cM_count 12 = .ok (.iload_n 2, 1) := by decide +kernel
theorem dM_count_13 : decode cM_count 13 = .ok (.ishr, 1) := by decide +kernel
theorem dM_count_14 : decode cM_count 14 = .ok (.iconst 1, 1) := by decide +kernel
theorem dM_count_15 : decode cM_count 15 = .ok (.iand, 1) := by decide +kernel
theorem dM_count_16 : decode cM_count 16 = .ok (.iadd, 1) := by decide +kernel
theorem dM_count_17 : decode cM_count 17 = .ok (.istore_n 1, 1) := by decide +kernel
theorem dM_count_18 : decode cM_count 18 = .ok (.iinc 2 1, 3) := by decide +kernel
theorem dM_count_21 : decode cM_count 21 = .ok (.goto (-17), 3) := by decide +kernel
theorem dM_count_24 : decode cM_count 24 = .ok (.iload_n 1, 1) := by decide +kernel
theorem dM_count_25 : decode cM_count 25 = .ok (.ireturn, 1) := by decide +kernel
theorem dM_close_0 : decode cM_close 0 = .ok (.aload_n 0, 1) := by decide +kernel
theorem dM_close_1 : decode cM_close 1 = .ok (.iconst 0, 1) := by decide +kernel
theorem dM_close_2 : decode cM_close 2 = .ok (.putfield 25, 3) := by decide +kernel
theorem dM_close_5 : decode cM_close 5 = .ok (.aload_n 0, 1) := by decide +kernel
theorem dM_close_6 : decode cM_close 6 = .ok (.iconst 1, 1) := by decide +kernel
theorem dM_close_7 : decode cM_close 7 = .ok (.invokevirtual 71, 3) := by decide +kernel
theorem dM_close_10 : decode cM_close 10 = .ok (.ireturn, 1) := by decide +kernel
theorem dM_loose_0 : decode cM_loose 0 = .ok (.aload_n 0, 1) := by decide +kernel
theorem dM_loose_1 : decode cM_loose 1 = .ok (.iconst 1, 1) := by decide +kernel
theorem dM_loose_2 : decode cM_loose 2 = .ok (.invokevirtual 58, 3) := by decide +kernel
theorem dM_loose_5 : decode cM_loose 5 = .ok (.ifCond .eq 10, 3) := by decide +kernel
theorem dM_loose_8 : decode cM_loose 8 = .ok (.aload_n 0, 1) := by decide +kernel
theorem dM_loose_9 : decode cM_loose 9 = .ok (.invokevirtual 74, 3) := by decide +kernel
theorem dM_loose_12 : decode cM_loose 12 = .ok (.goto 4, 3) := by decide +kernel
theorem dM_loose_15 : decode cM_loose 15 = .ok (.iconst 0, 1) := by decide +kernel
theorem dM_loose_16 : decode cM_loose 16 = .ok (.ireturn, 1) := by decide +kernel
theorem dM_left_0 : decode cM_left 0 = .ok (.aload_n 0, 1) := by decide +kernel
theorem dM_left_1 : decode cM_left 1 = .ok (.iconst 0, 1) := by decide +kernel
theorem dM_left_2 : decode cM_left 2 = .ok (.invokevirtual 71, 3) := by decide +kernel
theorem dM_left_5 : decode cM_left 5 = .ok (.invokestatic 68, 3) := by decide +kernel
theorem dM_left_8 : decode cM_left 8 = .ok (.istore_n 1, 1) := by decide +kernel
theorem dM_left_9 : decode cM_left 9 = .ok (.iconst 1, 1) := by decide +kernel
theorem dM_left_10 : decode cM_left 10 = .ok (.aload_n 0, 1) := by decide +kernel
theorem dM_left_11 : decode cM_left 11 = .ok (.getfield 22, 3) := by decide +kernel
theorem dM_left_14 : decode cM_left 14 = .ok (.aload_n 0, 1) := by decide +kernel
theorem dM_left_15 : decode cM_left 15 = .ok (.getfield 29, 3) := by decide +kernel
theorem dM_left_18 : decode cM_left 18 = .ok (.iaload, 1) := by decide +kernel
theorem dM_left_19 : decode cM_left 19 = .ok (.ishl, 1) := by decide +kernel
theorem dM_left_20 : decode cM_left 20 = .ok (.iconst 1, 1) := by decide +kernel
theorem dM_left_21 : decode cM_left 21 = .ok (.isub, 1) := by decide +kernel
theorem dM_left_22 : decode cM_left 22 = .ok (.istore_n 2, 1) := by decide +kernel
theorem dM_left_23 : decode cM_left 23 = .ok (.iconst 0, 1) := by decide +kernel
theorem dM_left_24 : decode cM_left 24 = .ok (.istore_n 3, 1) := by decide +kernel
theorem dM_left_25 : decode cM_left 25 = .ok (.iconst 0, 1) := by decide +kernel
theorem dM_left_26 : decode cM_left 26 = .ok (.istore 4, 2) := by decide +kernel
theorem dM_left_28 : decode cM_left 28 = .ok (.iload 4, 2) := by decide +kernel
theorem dM_left_30 : decode cM_left 30 = .ok (.aload_n 0, 1) := by decide +kernel
theorem dM_left_31 : decode cM_left 31 = .ok (.invokevirtual 50, 3) := by decide +kernel
theorem dM_left_34 : decode cM_left 34 = .ok (.if_icmp .gt 98, 3) := by decide +kernel
theorem dM_left_37 : decode cM_left 37 = .ok (.iload 4, 2) := by decide +kernel
theorem dM_left_39 : decode cM_left 39 = .ok (.invokestatic 68, 3) := by decide +kernel
theorem dM_left_42 : decode cM_left 42 = .ok (.iload_n 1, 1) := by decide +kernel
theorem dM_left_43 : decode cM_left 43 = .ok (.if_icmp .ne 83, 3) := by decide +kernel
theorem dM_left_46 : decode cM_left 46 = .ok (.aload_n 0, 1) := by decide +kernel
theorem dM_left_47 : decode cM_left 47 = .ok (.iload 4, 2) := by decide +kernel
theorem dM_left_49 : decode cM_left 49 = .ok (.iconst 0, 1) := by decide +kernel
theorem dM_left_50 : decode cM_left 50 = .ok (.invokevirtual 64, 3) := by decide +kernel
theorem dM_left_53 : decode cM_left 53 = .ok (.ifCond .eq 73, 3) := by decide +kernel
theorem dM_left_56 : decode cM_left 56 = .ok (.iconst 0, 1) := by decide +kernel
theorem dM_left_57 : decode cM_left 57 = .ok (.istore 5, 2) := by decide +kernel
theorem dM_left_59 : decode cM_left 59 = .ok (.iconst 0, 1) := by decide +kernel
theorem dM_left_60 : decode cM_left 60 = .ok (.istore 6, 2) := by decide +kernel
theorem dM_left_62 : decode cM_left 62 = .ok (.iload 6, 2) := by decide +kernel
theorem dM_left_64 : decode cM_left 64 = .ok (.aload_n 0, 1) := by decide +kernel
theorem dM_left_65 : decode cM_left 65 = .ok (.getfield 29, 3) := by decide +kernel
theorem dM_left_68 : decode cM_left 68 = .ok (.if_icmp .ge 49, 3) := by decide +kernel
theorem dM_left_71 : decode cM_left 71 = .ok (.iload 4, 2) := by decide +kernel
theorem dM_left_73 : decode cM_left 73 = .ok (.iload 6, 2) := by decide +kernel
theorem dM_left_75 : decode cM_left 75 = .ok (.ishr, 1) := by decide +kernel
theorem dM_left_76 : decode cM_left 76 = .ok (.iconst 1, 1) := by decide +kernel
theorem dM_left_77 : decode cM_left 77 = .ok (.iand, 1) := by decide +kernel
theorem dM_left_78 : decode cM_left 78 = .ok (.iconst 1, 1) := by decide +kernel
theorem dM_left_79 : decode cM_left 79 = .ok (.if_icmp .ne 28, 3) := by decide +kernel
theorem dM_left_82 : decode cM_left 82 = .ok (.iload 5, 2) := by decide +kernel
theorem dM_left_84 : decode cM_left 84 = .ok (.iconst 1, 1) := by decide +kernel
theorem dM_left_85 : decode cM_left 85 = .ok (.aload_n 0, 1) := by decide +kernel
theorem dM_left_86 : decode cM_left 86 = .ok (.getfield 13, 3) := by decide +kernel
theorem dM_left_89 : decode cM_left 89 = .ok (.iload 6, 2) := by decide +kernel
theorem dM_left_91 : decode cM_left 91 = .ok (.iaload, 1) := by decide +kernel
theorem dM_left_92 : decode cM_left 92 = .ok (.ishl, 1) := by decide +kernel
theorem dM_left_93 : decode cM_left 93 = .ok (.ior, 1) := by decide +kernel
theorem dM_left_94 : decode cM_left 94 = .ok (.iconst 1, 1) := by decide +kernel
theorem dM_left_95 : decode cM_left 95 = .ok (.aload_n 0, 1) := by decide +kernel
theorem dM_left_96 : decode cM_left 96 = .ok (.getfield 16, 3) := by decide +kernel
theorem dM_left_99 : decode cM_left 99 = .ok (.iload 6, 2) := by decide +kernel
theorem dM_left_101 : decode cM_left 101 = .ok (.iaload, 1) := by decide +kernel
theorem dM_left_102 : decode cM_left 102 = .ok (.ishl, 1) := by decide +kernel
theorem dM_left_103 : decode cM_left 103 = .ok (.ior, 1) := by decide +kernel
theorem dM_left_104 : decode cM_left 104 = .ok (.goto 5, 3) := by decide +kernel
theorem dM_left_107 : decode cM_left 107 = .ok (.iload 5, 2) := by decide +kernel
theorem dM_left_109 : decode cM_left 109 = .ok (.istore 5, 2) := by decide +kernel
theorem dM_left_111 : decode cM_left 111 = .ok (.iinc 6 1, 3) := by decide +kernel
theorem dM_left_114 : decode cM_left 114 = .ok (.goto (-52), 3) := by decide +kernel
theorem dM_left_117 : decode cM_left 117 = .ok (.iload_n 3, 1) := by decide +kernel
theorem dM_left_118 : decode cM_left 118 = .ok (.iload_n 2, 1) := by decide +kernel
theorem dM_left_119 : decode cM_left 119 = .ok (.iload 5, 2) := by decide +kernel
theorem dM_left_121 : decode cM_left 121 = .ok (.iconst (-1), 1) := by decide +kernel
theorem dM_left_122 : decode cM_left 122 = .ok (.ixor, 1) := by decide +kernel
theorem dM_left_123 : decode cM_left 123 = .ok (.iand, 1) := by decide +kernel
theorem dM_left_124 : decode cM_left 124 = .ok (.ior, 1) := by decide +kernel
theorem dM_left_125 : decode cM_left 125 = .ok (.istore_n 3, 1) := by decide +kernel
theorem dM_left_126 : decode cM_left 126 = .ok (.iinc 4 1, 3) := by decide +kernel
theorem dM_left_129 : decode cM_left 129 = .ok (.goto (-101), 3) := by decide +kernel
theorem dM_left_132 : decode cM_left 132 = .ok (.iload_n 3, 1) := by decide +kernel
theorem dM_left_133 : decode cM_left 133 = .ok (.ireturn, 1) := by decide +kernel
theorem dM_barrier_0 : decode cM_barrier 0 = .ok (.aload_n 0, 1) := by decide +kernel
theorem dM_barrier_1 : decode cM_barrier 1 = .ok (.iconst 1, 1) := by decide +kernel
theorem dM_barrier_2 : decode cM_barrier 2 = .ok (.invokevirtual 58, 3) := by decide +kernel
theorem dM_barrier_5 : decode cM_barrier 5 = .ok (.ifCond .ne 5, 3) := by decide +kernel
theorem dM_barrier_8 : decode cM_barrier 8 = .ok (.iconst 0, 1) := by decide +kernel
theorem dM_barrier_9 : decode cM_barrier 9 = .ok (.ireturn, 1) := by decide +kernel
theorem dM_barrier_10 : decode cM_barrier 10 = .ok (.aload_n 0, 1) := by decide +kernel
theorem dM_barrier_11 : decode cM_barrier 11 = .ok (.invokevirtual 74, 3) := by decide +kernel
theorem dM_barrier_14 : decode cM_barrier 14 = .ok (.istore_n 1, 1) := by decide +kernel
theorem dM_barrier_15 : decode cM_barrier 15 = .ok (.iconst 0, 1) := by decide +kernel
theorem dM_barrier_16 : decode cM_barrier 16 = .ok (.istore_n 2, 1) := by decide +kernel
theorem dM_barrier_17 : decode cM_barrier 17 = .ok (.iconst 0, 1) := by decide +kernel
theorem dM_barrier_18 : decode cM_barrier 18 = .ok (.istore_n 3, 1) := by decide +kernel
theorem dM_barrier_19 : decode cM_barrier 19 = .ok (.iload_n 3, 1) := by decide +kernel
theorem dM_barrier_20 : decode cM_barrier 20 = .ok (.aload_n 0, 1) := by decide +kernel
theorem dM_barrier_21 : decode cM_barrier 21 = .ok (.getfield 29, 3) := by decide +kernel
theorem dM_barrier_24 : decode cM_barrier 24 = .ok (.if_icmp .ge 61, 3) := by decide +kernel
theorem dM_barrier_27 : decode cM_barrier 27 = .ok (.iconst 1, 1) := by decide +kernel
theorem dM_barrier_28 : decode cM_barrier 28 = .ok (.aload_n 0, 1) := by decide +kernel
theorem dM_barrier_29 : decode cM_barrier 29 = .ok (.getfield 13, 3) := by decide +kernel
theorem dM_barrier_32 : decode cM_barrier 32 = .ok (.iload_n 3, 1) := by decide +kernel
theorem dM_barrier_33 : decode cM_barrier 33 = .ok (.iaload, 1) := by decide +kernel
theorem dM_barrier_34 : decode cM_barrier 34 = .ok (.ishl, 1) := by decide +kernel
theorem dM_barrier_35 : decode cM_barrier 35 = .ok (.istore 4, 2) := by decide +kernel
theorem dM_barrier_37 : decode cM_barrier 37 = .ok (.iconst 1, 1) := by decide +kernel
theorem dM_barrier_38 : decode cM_barrier 38 = .ok (.aload_n 0, 1) := by decide +kernel
theorem dM_barrier_39 : decode cM_barrier 39 = .ok (.getfield 16, 3) := by decide +kernel
theorem dM_barrier_42 : decode cM_barrier 42 = .ok (.iload_n 3, 1) := by decide +kernel
theorem dM_barrier_43 : decode cM_barrier 43 = .ok (.iaload, 1) := by decide +kernel
theorem dM_barrier_44 : decode cM_barrier 44 = .ok (.ishl, 1) := by decide +kernel
theorem dM_barrier_45 : decode cM_barrier 45 = .ok (.istore 5, 2) := by decide +kernel
theorem dM_barrier_47 : decode cM_barrier 47 = .ok (.iload_n 1, 1) := by decide +kernel
theorem dM_barrier_48 : decode cM_barrier 48 = .ok (.iload 4, 2) := by decide +kernel
theorem dM_barrier_50 : decode cM_barrier 50 = .ok (.iand, 1) := by decide +kernel
theorem dM_barrier_51 : decode cM_barrier 51 = .ok (.ifCond .eq 10, 3) := by decide +kernel
theorem dM_barrier_54 : decode cM_barrier 54 = .ok (.iload_n 2, 1) := by decide +kernel
theorem dM_barrier_55 : decode cM_barrier 55 = .ok (.iload 5, 2) := by decide +kernel
theorem dM_barrier_57 : decode cM_barrier 57 = .ok (.ior, 1) := by decide +kernel
theorem dM_barrier_58 : decode cM_barrier 58 = .ok (.goto 4, 3) := by decide +kernel
theorem dM_barrier_61 : decode cM_barrier 61 = .ok (.iload_n 2, 1) := by decide +kernel
theorem dM_barrier_62 : decode cM_barrier 62 = .ok (.istore_n 2, 1) := by decide +kernel
theorem dM_barrier_63 : decode cM_barrier 63 = .ok (.iload_n 1, 1) := by decide +kernel
theorem dM_barrier_64 : decode cM_barrier 64 = .ok (.iload 5, 2) := by decide +kernel
theorem dM_barrier_66 : decode cM_barrier 66 = .ok (.iand, 1) := by decide +kernel
theorem dM_barrier_67 : decode cM_barrier 67 = .ok (.ifCond .eq 10, 3) := by decide +kernel
theorem dM_barrier_70 : decode cM_barrier 70 = .ok (.iload_n 2, 1) := by decide +kernel
theorem dM_barrier_71 : decode cM_barrier 71 = .ok (.iload 4, 2) := by decide +kernel
theorem dM_barrier_73 : decode cM_barrier 73 = .ok (.ior, 1) := by decide +kernel
theorem dM_barrier_74 : decode cM_barrier 74 = .ok (.goto 4, 3) := by decide +kernel
theorem dM_barrier_77 : decode cM_barrier 77 = .ok (.iload_n 2, 1) := by decide +kernel
theorem dM_barrier_78 : decode cM_barrier 78 = .ok (.istore_n 2, 1) := by decide +kernel
theorem dM_barrier_79 : decode cM_barrier 79 = .ok (.iinc 3 1, 3) := by decide +kernel
theorem dM_barrier_82 : decode cM_barrier 82 = .ok (.goto (-63), 3) := by decide +kernel
theorem dM_barrier_85 : decode cM_barrier 85 = .ok (.iload_n 2, 1) := by decide +kernel
theorem dM_barrier_86 : decode cM_barrier 86 = .ok (.iload_n 1, 1) := by decide +kernel
theorem dM_barrier_87 : decode cM_barrier 87 = .ok (.iconst (-1), 1) := by decide +kernel
theorem dM_barrier_88 : decode cM_barrier 88 = .ok (.ixor, 1) := by decide +kernel
theorem dM_barrier_89 : decode cM_barrier 89 = .ok (.iand, 1) := by decide +kernel
theorem dM_barrier_90 : decode cM_barrier 90 = .ok (.ireturn, 1) := by decide +kernel
