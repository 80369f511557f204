theorem dX_init_0 : decode cX_init 0 = .ok (.aload_n 0, 1) := by decide +kernel
theorem dX_init_1 : decode cX_init 1 = .ok (.invokespecial 3, 3) := by decide +kernel
theorem dX_init_4 : decode cX_init 4 = .ok (.aload_n 0, 1) := by decide +kernel
theorem dX_init_5 : decode cX_init 5 = .ok (.bipush 8, 2) := by decide +kernel
theorem dX_init_7 : decode cX_init 7 = .ok (.newarray .int, 2) := by decide +kernel
theorem dX_init_9 : decode cX_init 9 = .ok (.putfield 9, 3) := by decide +kernel
theorem dX_init_12 : decode cX_init 12 = .ok (.aload_n 0, 1) := by decide +kernel
theorem dX_init_13 : decode cX_init 13 = .ok (.bipush 8, 2) := by decide +kernel
theorem dX_init_15 : decode cX_init 15 = .ok (.newarray .int, 2) := by decide +kernel
theorem dX_init_17 : decode cX_init 17 = .ok (.putfield 13, 3) := by decide +kernel
theorem dX_init_20 : decode cX_init 20 = .ok (.aload_n 0, 1) := by decide +kernel
theorem dX_init_21 : decode cX_init 21 = .ok (.bipush 8, 2) := by decide +kernel
theorem dX_init_23 : decode cX_init 23 = .ok (.newarray .int, 2) := by decide +kernel
theorem dX_init_25 : decode cX_init 25 = .ok (.putfield 16, 3) := by decide +kernel
theorem dX_init_28 : decode cX_init 28 = .ok (.aload_n 0, 1) := by decide +kernel
theorem dX_init_29 : decode cX_init 29 = .ok (.bipush 16, 2) := by decide +kernel
theorem dX_init_31 : decode cX_init 31 = .ok (.newarray .int, 2) := by decide +kernel
theorem dX_init_33 : decode cX_init 33 = .ok (.putfield 19, 3) := by decide +kernel
theorem dX_init_36 : decode cX_init 36 = .ok (.aload_n 0, 1) := by decide +kernel
theorem dX_init_37 : decode cX_init 37 = .ok (.iconst 0, 1) := by decide +kernel
theorem dX_init_38 : decode cX_init 38 = .ok (.putfield 22, 3) := by decide +kernel
theorem dX_init_41 : decode cX_init 41 = .ok (.aload_n 0, 1) := by decide +kernel
theorem dX_init_42 : decode cX_init 42 = .ok (.iconst 0, 1) := by decide +kernel
theorem dX_init_43 : decode cX_init 43 = .ok (.putfield 26, 3) := by decide +kernel
theorem dX_init_46 : decode cX_init 46 = .ok (.return_, 1) := by decide +kernel
theorem dX_vertices_0 : decode cX_vertices 0 = .ok (.aload_n 0, 1) := by decide +kernel
theorem dX_vertices_1 : decode cX_vertices 1 = .ok (.getfield 22, 3) := by decide +kernel
theorem dX_vertices_4 : decode cX_vertices 4 = .ok (.ireturn, 1) := by decide +kernel
theorem dX_edges_0 : decode cX_edges 0 = .ok (.iconst 0, 1) := by decide +kernel
theorem dX_edges_1 : decode cX_edges 1 = .ok (.istore_n 1, 1) := by decide +kernel
theorem dX_edges_2 : decode cX_edges 2 = .ok (.iconst 0, 1) := by decide +kernel
theorem dX_edges_3 : decode cX_edges 3 = .ok (.istore_n 2, 1) := by decide +kernel
theorem dX_edges_4 : decode cX_edges 4 = .ok (.iload_n 2, 1) := by decide +kernel
theorem dX_edges_5 : decode cX_edges 5 = .ok (.aload_n 0, 1) := by decide +kernel
theorem dX_edges_6 : decode cX_edges 6 = .ok (.getfield 22, 3) := by decide +kernel
theorem dX_edges_9 : decode cX_edges 9 = .ok (.if_icmp .ge 21, 3) := by decide +kernel
theorem dX_edges_12 : decode cX_edges 12 = .ok (.iload_n 1, 1) := by decide +kernel
theorem dX_edges_13 : decode cX_edges 13 = .ok (.aload_n 0, 1) := by decide +kernel
theorem dX_edges_14 : decode cX_edges 14 = .ok (.getfield 9, 3) := by decide +kernel
theorem dX_edges_17 : decode cX_edges 17 = .ok (.iload_n 2, 1) := by decide +kernel
theorem dX_edges_18 : decode cX_edges 18 = .ok (.iaload, 1) := by decide +kernel
theorem dX_edges_19 : decode cX_edges 19 = .ok (.invokestatic 54, 3) := by decide +kernel
theorem dX_edges_22 : decode cX_edges 22 = .ok (.iadd, 1) := by decide +kernel
theorem dX_edges_23 : decode cX_edges 23 = .ok (.istore_n 1, 1) := by decide +kernel
theorem dX_edges_24 : decode cX_edges 24 = .ok (.iinc 2 1, 3) := by decide +kernel
theorem dX_edges_27 : decode cX_edges 27 = .ok (.goto (-23), 3) := by decide +kernel
theorem dX_edges_30 : decode cX_edges 30 = .ok (.iload_n 1, 1) := by decide +kernel
theorem dX_edges_31 : decode cX_edges 31 = .ok (.iconst 2, 1) := by decide +kernel
theorem dX_edges_32 : decode cX_edges 32 = .ok (.idiv, 1) := by decide +kernel
theorem dX_edges_33 : decode cX_edges 33 = .ok (.ireturn, 1) := by decide +kernel
theorem dX_isLine_0 : decode cX_isLine 0 = .ok (.aload_n 0, 1) := by decide +kernel
theorem dX_isLine_1 : decode cX_isLine 1 = .ok (.aload_n 0, 1) := by decide +kernel
theorem dX_isLine_2 : decode cX_isLine 2 = .ok (.invokevirtual 65, 3) := by decide +kernel
theorem dX_isLine_5 : decode cX_isLine 5 = .ok (.invokevirtual 69, 3) := by decide +kernel
theorem dX_isLine_8 : decode cX_isLine 8 = .ok (.ireturn, 1) := by decide +kernel
theorem dX_all_0 : decode cX_all 0 = .ok (.aload_n 0, 1) := by decide +kernel
theorem dX_all_1 : decode cX_all 1 = .ok (.getfield 22, 3) := by decide +kernel
theorem dX_all_4 : decode cX_all 4 = .ok (.invokestatic 38, 3) := by decide +kernel
theorem dX_all_7 : decode cX_all 7 = .ok (.iconst 1, 1) := by decide +kernel
theorem dX_all_8 : decode cX_all 8 = .ok (.isub, 1) := by decide +kernel
theorem dX_all_9 : decode cX_all 9 = .ok (.ireturn, 1) := by decide +kernel
theorem dX_only_0 : decode cX_only 0 = .ok (.iconst 1, 1) := by decide +kernel
theorem dX_only_1 : decode cX_only 1 = .ok (.iload_n 0, 1) := by decide +kernel
theorem dX_only_2 : decode cX_only 2 = .ok (.ishl, 1) := by decide +kernel
theorem dX_only_3 : decode cX_only 3 = .ok (.ireturn, 1) := by decide +kernel
theorem dX_findNaming_0 : decode cX_findNaming 0 = .ok (.iconst 0, 1) := by decide +kernel
theorem dX_findNaming_1 : decode cX_findNaming 1 = .ok (.istore_n 2, 1) := by decide +kernel
theorem dX_findNaming_2 : decode cX_findNaming 2 = .ok (.iload_n 2, 1) := by decide +kernel
theorem dX_findNaming_3 : decode cX_findNaming 3 = .ok (.bipush 16, 2) := by decide +kernel
theorem dX_findNaming_5 : decode cX_findNaming 5 = .ok (.if_icmp .ge 16, 3) := by decide +kernel
theorem dX_findNaming_8 : decode cX_findNaming 8 = .ok (.aload_n 0, 1) := by decide +kernel
theorem dX_findNaming_9 : decode cX_findNaming 9 = .ok (.getfield 19, 3) := by decide +kernel
theorem dX_findNaming_12 : decode cX_findNaming 12 = .ok (.iload_n 2, 1) := by decide +kernel
theorem dX_findNaming_13 : decode cX_findNaming 13 = .ok (.iconst 0, 1) := by decide +kernel
theorem dX_findNaming_14 : decode cX_findNaming 14 = .ok (.iastore, 1) := by decide +kernel
theorem dX_findNaming_15 : decode cX_findNaming 15 = .ok (.iinc 2 1, 3) := by decide +kernel
theorem dX_findNaming_18 : decode cX_findNaming 18 = .ok (.goto (-16), 3) := by decide +kernel
theorem dX_findNaming_21 : decode cX_findNaming 21 = .ok (.aload_n 0, 1) := by decide +kernel
theorem dX_findNaming_22 : decode cX_findNaming 22 = .ok (.iconst 0, 1) := by decide +kernel
theorem dX_findNaming_23 : decode cX_findNaming 23 = .ok (.putfield 26, 3) := by decide +kernel
theorem dX_findNaming_26 : decode cX_findNaming 26 = .ok (.aload_n 0, 1) := by decide +kernel
theorem dX_findNaming_27 : decode cX_findNaming 27 = .ok (.iconst 0, 1) := by decide +kernel
theorem dX_findNaming_28 : decode cX_findNaming 28 = .ok (.iload_n 1, 1) := by decide +kernel
theorem dX_findNaming_29 : decode cX_findNaming 29 = .ok (.invokevirtual 102, 3) := by decide +kernel
theorem dX_findNaming_32 : decode cX_findNaming 32 = .ok (.ireturn, 1) := by decide +kernel
theorem dX_nameFrom_0 : decode cX_nameFrom 0 = .ok (.iload_n 1, 1) := by decide +kernel
theorem dX_nameFrom_1 : decode cX_nameFrom 1 = .ok (.aload_n 0, 1) := by decide +kernel
theorem dX_nameFrom_2 : decode cX_nameFrom 2 = .ok (.getfield 22, 3) := by decide +kernel
theorem dX_nameFrom_5 : decode cX_nameFrom 5 = .ok (.if_icmp .lt 5, 3) := by decide +kernel
theorem dX_nameFrom_8 : decode cX_nameFrom 8 = .ok (.iconst 1, 1) := by decide +kernel
theorem dX_nameFrom_9 : decode cX_nameFrom 9 = .ok (.ireturn, 1) := by decide +kernel
theorem dX_nameFrom_10 : decode cX_nameFrom 10 = .ok (.iload_n 2, 1) := by decide +kernel
theorem dX_nameFrom_11 : decode cX_nameFrom 11 = .ok (.iload_n 1, 1) := by decide +kernel
theorem dX_nameFrom_12 : decode cX_nameFrom 12 = .ok (.invokestatic 46, 3) := by decide +kernel
theorem dX_nameFrom_15 : decode cX_nameFrom 15 = .ok (.ifCond .ne 12, 3) := by decide +kernel
theorem dX_nameFrom_18 : decode cX_nameFrom 18 = .ok (.aload_n 0, 1) := by decide +kernel
theorem dX_nameFrom_19 : decode cX_nameFrom 19 = .ok (.iload_n 1, 1) := by decide +kernel
theorem dX_nameFrom_20 : decode cX_nameFrom 20 = .ok (.iconst 1, 1) := by decide +kernel
theorem dX_nameFrom_21 : decode cX_nameFrom 21 = .ok (.iadd, 1) := by decide +kernel
theorem dX_nameFrom_22 : decode cX_nameFrom 22 = .ok (.iload_n 2, 1) := by decide +kernel
theorem dX_nameFrom_23 : decode cX_nameFrom 23 = .ok (.invokevirtual 102, 3) := by decide +kernel
theorem dX_nameFrom_26 : decode cX_nameFrom 26 = .ok (.ireturn, 1) := by decide +kernel
theorem dX_nameFrom_27 : decode cX_nameFrom 27 = .ok (.aload_n 0, 1) := by decide +kernel
theorem dX_nameFrom_28 : decode cX_nameFrom 28 = .ok (.getfield 9, 3) := by decide +kernel
theorem dX_nameFrom_31 : decode cX_nameFrom 31 = .ok (.iload_n 1, 1) := by decide +kernel
theorem dX_nameFrom_32 : decode cX_nameFrom 32 = .ok (.iaload, 1) := by decide +kernel
theorem dX_nameFrom_33 : decode cX_nameFrom 33 = .ok (.iload_n 2, 1) := by decide +kernel
theorem dX_nameFrom_34 : decode cX_nameFrom 34 = .ok (.iand, 1) := by decide +kernel
theorem dX_nameFrom_35 : decode cX_nameFrom 35 = .ok (.iload_n 1, 1) := by decide +kernel
theorem dX_nameFrom_36 : decode cX_nameFrom 36 = .ok (.invokestatic 38, 3) := by decide +kernel
theorem dX_nameFrom_39 : decode cX_nameFrom 39 = .ok (.iconst 1, 1) := by decide +kernel
theorem dX_nameFrom_40 : decode cX_nameFrom 40 = .ok (.isub, 1) := by decide +kernel
theorem dX_nameFrom_41 : decode cX_nameFrom 41 = .ok (.iand, 1) := by decide +kernel
theorem dX_nameFrom_42 : decode cX_nameFrom 42 = .ok (.istore_n 3, 1) := by decide +kernel
theorem dX_nameFrom_43 : decode cX_nameFrom 43 = .ok (.aload_n 0, 1) := by decide +kernel
theorem dX_nameFrom_44 : decode cX_nameFrom 44 = .ok (.getfield 26, 3) := by decide +kernel
theorem dX_nameFrom_47 : decode cX_nameFrom 47 = .ok (.istore 4, 2) := by decide +kernel
theorem dX_nameFrom_49 : decode cX_nameFrom 49 = .ok (.iconst 0, 1) := by decide +kernel
theorem dX_nameFrom_50 : decode cX_nameFrom 50 = .ok (.istore 5, 2) := by decide +kernel
theorem dX_nameFrom_52 : decode cX_nameFrom 52 = .ok (.iload 5, 2) := by decide +kernel
theorem dX_nameFrom_54 : decode cX_nameFrom 54 = .ok (.iload 4, 2) := by decide +kernel
theorem dX_nameFrom_56 : decode cX_nameFrom 56 = .ok (.if_icmp .gt 85, 3) := by decide +kernel
theorem dX_nameFrom_59 : decode cX_nameFrom 59 = .ok (.iload 4, 2) := by decide +kernel
theorem dX_nameFrom_61 : decode cX_nameFrom 61 = .ok (.iload 5, 2) := by decide +kernel
theorem dX_nameFrom_63 : decode cX_nameFrom 63 = .ok (.iconst 1, 1) := by decide +kernel
theorem dX_nameFrom_64 : decode cX_nameFrom 64 = .ok (.iadd, 1) := by decide +kernel
theorem dX_nameFrom_65 : decode cX_nameFrom 65 = .ok (.invokestatic 105, 3) := by decide +kernel
theorem dX_nameFrom_68 : decode cX_nameFrom 68 = .ok (.bipush 15, 2) := by decide +kernel
theorem dX_nameFrom_70 : decode cX_nameFrom 70 = .ok (.invokestatic 111, 3) := by decide +kernel
theorem dX_nameFrom_73 : decode cX_nameFrom 73 = .ok (.istore 6, 2) := by decide +kernel
theorem dX_nameFrom_75 : decode cX_nameFrom 75 = .ok (.iload 5, 2) := by decide +kernel
theorem dX_nameFrom_77 : decode cX_nameFrom 77 = .ok (.iconst 1, 1) := by decide +kernel
theorem dX_nameFrom_78 : decode cX_nameFrom 78 = .ok (.iadd, 1) := by decide +kernel
theorem dX_nameFrom_79 : decode cX_nameFrom 79 = .ok (.istore 7, 2) := by decide +kernel
theorem dX_nameFrom_81 : decode cX_nameFrom 81 = .ok (.iload 7, 2) := by decide +kernel
theorem dX_nameFrom_83 : decode cX_nameFrom 83 = .ok (.iload 6, 2) := by decide +kernel
theorem dX_nameFrom_85 : decode cX_nameFrom 85 = .ok (.if_icmp .gt 50, 3) := by decide +kernel
theorem dX_nameFrom_88 : decode cX_nameFrom 88 = .ok (.aload_n 0, 1) := by decide +kernel
theorem dX_nameFrom_89 : decode cX_nameFrom 89 = .ok (.iload 5, 2) := by decide +kernel
theorem dX_nameFrom_91 : decode cX_nameFrom 91 = .ok (.iload 7, 2) := by decide +kernel
theorem dX_nameFrom_93 : decode cX_nameFrom 93 = .ok (.iload_n 3, 1) := by decide +kernel
theorem dX_nameFrom_94 : decode cX_nameFrom 94 = .ok (.invokevirtual 114, 3) := by decide +kernel
theorem dX_nameFrom_97 : decode cX_nameFrom 97 = .ok (.ifCond .eq 32, 3) := by decide +kernel
theorem dX_nameFrom_100 : decode cX_nameFrom 100 = .ok (.aload_n 0, 1) := by decide +kernel
theorem dX_nameFrom_101 : decode cX_nameFrom 101 = .ok (.iload_n 1, 1) := by decide +kernel
theorem dX_nameFrom_102 : decode cX_nameFrom 102 = .ok (.iload 5, 2) := by decide +kernel
theorem dX_nameFrom_104 : decode cX_nameFrom 104 = .ok (.iload 7, 2) := by decide +kernel
theorem dX_nameFrom_106 : decode cX_nameFrom 106 = .ok (.invokevirtual 118, 3) := by decide +kernel
theorem dX_nameFrom_109 : decode cX_nameFrom 109 = .ok (.aload_n 0, 1) := by decide +kernel
theorem dX_nameFrom_110 : decode cX_nameFrom 110 = .ok (.iload_n 1, 1) := by decide +kernel
theorem dX_nameFrom_111 : decode cX_nameFrom 111 = .ok (.iconst 1, 1) := by decide +kernel
theorem dX_nameFrom_112 : decode cX_nameFrom 112 = .ok (.iadd, 1) := by decide +kernel
theorem dX_nameFrom_113 : decode cX_nameFrom 113 = .ok (.iload_n 2, 1) := by decide +kernel
theorem dX_nameFrom_114 : decode cX_nameFrom 114 = .ok (.invokevirtual 102, 3) := by decide +kernel
theorem dX_nameFrom_117 : decode cX_nameFrom 117 = .ok (.ifCond .eq 5, 3) := by decide +kernel
theorem dX_nameFrom_120 : decode cX_nameFrom 120 = .ok (.iconst 1, 1) := by decide +kernel
theorem dX_nameFrom_121 : decode cX_nameFrom 121 = .ok (.ireturn, 1) := by decide +kernel
theorem dX_nameFrom_122 : decode cX_nameFrom 122 = .ok (.aload_n 0, 1) := by decide +kernel
theorem dX_nameFrom_123 : decode cX_nameFrom 123 = .ok (.iload_n 1, 1) := by decide +kernel
theorem dX_nameFrom_124 : decode cX_nameFrom 124 = .ok (.iload 4, 2) := by decide +kernel
theorem dX_nameFrom_126 : decode cX_nameFrom 126 = .ok (.invokevirtual 122, 3) := by decide +kernel
theorem dX_nameFrom_129 : decode cX_nameFrom 129 = .ok (.iinc 7 1, 3) := by decide +kernel
theorem dX_nameFrom_132 : decode cX_nameFrom 132 = .ok (.goto (-51), 3) := by decide +kernel
theorem dX_nameFrom_135 : decode cX_nameFrom 135 = .ok (.iinc 5 1, 3) := by decide +kernel
theorem dX_nameFrom_138 : decode cX_nameFrom 138 = .ok (.goto (-86), 3) := by decide +kernel
theorem dX_nameFrom_141 : decode cX_nameFrom 141 = .ok (.iconst 0, 1) := by decide +kernel
theorem dX_nameFrom_142 : decode cX_nameFrom 142 = .ok (.ireturn, 1) := by decide +kernel
theorem dX_has_0 : decode cX_has 0 = .ok (.iload_n 0, 1) := by decide +kernel
theorem dX_has_1 : decode cX_has 1 = .ok (.iload_n 1, 1) := by decide +kernel
theorem dX_has_2 : decode cX_has 2 = .ok (.invokestatic 38, 3) := by decide +kernel
theorem dX_has_5 : decode cX_has 5 = .ok (.iand, 1) := by decide +kernel
theorem dX_has_6 : decode cX_has 6 = .ok (.ifCond .eq 7, 3) := by decide +kernel
theorem dX_has_9 : decode cX_has 9 = .ok (.iconst 1, 1) := by decide +kernel
theorem dX_has_10 : decode cX_has 10 = .ok (.goto 4, 3) := by decide +kernel
theorem dX_has_13 : decode cX_has 13 = .ok (.iconst 0, 1) := by decide +kernel
theorem dX_has_14 : decode cX_has 14 = .ok (.ireturn, 1) := by decide +kernel
theorem dX_fits_0 : decode cX_fits 0 = .ok (.aload_n 0, 1) := by decide +kernel
theorem dX_fits_1 : decode cX_fits 1 = .ok (.getfield 19, 3) := by decide +kernel
theorem dX_fits_4 : decode cX_fits 4 = .ok (.iload_n 1, 1) := by decide +kernel
theorem dX_fits_5 : decode cX_fits 5 = .ok (.iaload, 1) := by decide +kernel
theorem dX_fits_6 : decode cX_fits 6 = .ok (.aload_n 0, 1) := by decide +kernel
theorem dX_fits_7 : decode cX_fits 7 = .ok (.getfield 19, 3) := by decide +kernel
theorem dX_fits_10 : decode cX_fits 10 = .ok (.iload_n 2, 1) := by decide +kernel
theorem dX_fits_11 : decode cX_fits 11 = .ok (.iaload, 1) := by decide +kernel
theorem dX_fits_12 : decode cX_fits 12 = .ok (.ior, 1) := by decide +kernel
theorem dX_fits_13 : decode cX_fits 13 = .ok (.iload_n 3, 1) := by decide +kernel
theorem dX_fits_14 : decode cX_fits 14 = .ok (.if_icmp .ne 23, 3) := by decide +kernel
theorem dX_fits_17 : decode cX_fits 17 = .ok (.aload_n 0, 1) := by decide +kernel
theorem dX_fits_18 : decode cX_fits 18 = .ok (.getfield 19, 3) := by decide +kernel
theorem dX_fits_21 : decode cX_fits 21 = .ok (.iload_n 1, 1) := by decide +kernel
theorem dX_fits_22 : decode cX_fits 22 = .ok (.iaload, 1) := by decide +kernel
theorem dX_fits_23 : decode cX_fits 23 = .ok (.aload_n 0, 1) := by decide +kernel
theorem dX_fits_24 : decode cX_fits 24 = .ok (.getfield 19, 3) := by decide +kernel
theorem dX_fits_27 : decode cX_fits 27 = .ok (.iload_n 2, 1) := by decide +kernel
theorem dX_fits_28 : decode cX_fits 28 = .ok (.iaload, 1) := by decide +kernel
theorem dX_fits_29 : decode cX_fits 29 = .ok (.iand, 1) := by decide +kernel
theorem dX_fits_30 : decode cX_fits 30 = .ok (.ifCond .ne 7, 3) := by decide +kernel
theorem dX_fits_33 : decode cX_fits 33 = .ok (.iconst 1, 1) := by decide +kernel
theorem dX_fits_34 : decode cX_fits 34 = .ok (.goto 4, 3) := by decide +kernel
theorem dX_fits_37 : decode cX_fits 37 = .ok (.iconst 0, 1) := by decide +kernel
theorem dX_fits_38 : decode cX_fits 38 = .ok (.ireturn, 1) := by decide +kernel
theorem dX_give_0 : decode cX_give 0 = .ok (.aload_n 0, 1) := by decide +kernel
theorem dX_give_1 : decode cX_give 1 = .ok (.getfield 13, 3) := by decide +kernel
theorem dX_give_4 : decode cX_give 4 = .ok (.iload_n 1, 1) := by decide +kernel
theorem dX_give_5 : decode cX_give 5 = .ok (.iload_n 2, 1) := by decide +kernel
theorem dX_give_6 : decode cX_give 6 = .ok (.iastore, 1) := by decide +kernel
theorem dX_give_7 : decode cX_give 7 = .ok (.aload_n 0, 1) := by decide +kernel
theorem dX_give_8 : decode cX_give 8 = .ok (.getfield 16, 3) := by decide +kernel
theorem dX_give_11 : decode cX_give 11 = .ok (.iload_n 1, 1) := by decide +kernel
theorem dX_give_12 : decode cX_give 12 = .ok (.iload_n 3, 1) := by decide +kernel
theorem dX_give_13 : decode cX_give 13 = .ok (.iastore, 1) := by decide +kernel
theorem dX_give_14 : decode cX_give 14 = .ok (.aload_n 0, 1) := by decide +kernel
theorem dX_give_15 : decode cX_give 15 = .ok (.getfield 19, 3) := by decide +kernel
theorem dX_give_18 : decode cX_give 18 = .ok (.iload_n 2, 1) := by decide +kernel
theorem dX_give_19 : decode cX_give 19 = .ok (.dup2, 1) := by decide +kernel
theorem dX_give_20 : decode cX_give 20 = .ok (.iaload, 1) := by decide +kernel
theorem dX_give_21 : decode cX_give 21 = .ok (.iload_n 1, 1) := by decide +kernel
theorem dX_give_22 : decode cX_give 22 = .ok (.invokestatic 38, 3) := by decide +kernel
theorem dX_give_25 : decode cX_give 25 = .ok (.ior, 1) := by decide +kernel
theorem dX_give_26 : decode cX_give 26 = .ok (.iastore, 1) := by decide +kernel
theorem dX_give_27 : decode cX_give 27 = .ok (.aload_n 0, 1) := by decide +kernel
theorem dX_give_28 : decode cX_give 28 = .ok (.getfield 19, 3) := by decide +kernel
theorem dX_give_31 : decode cX_give 31 = .ok (.iload_n 3, 1) := by decide +kernel
theorem dX_give_32 : decode cX_give 32 = .ok (.dup2, 1) := by decide +kernel
theorem dX_give_33 : decode cX_give 33 = .ok (.iaload, 1) := by decide +kernel
theorem dX_give_34 : decode cX_give 34 = .ok (.iload_n 1, 1) := by decide +kernel
theorem dX_give_35 : decode cX_give 35 = .ok (.invokestatic 38, 3) := by decide +kernel
theorem dX_give_38 : decode cX_give 38 = .ok (.ior, 1) := by decide +kernel
theorem dX_give_39 : decode cX_give 39 = .ok (.iastore, 1) := by decide +kernel
theorem dX_give_40 : decode cX_give 40 = .ok (.aload_n 0, 1) := by decide +kernel
theorem dX_give_41 : decode cX_give 41 = .ok (.aload_n 0, 1) := by decide +kernel
theorem dX_give_42 : decode cX_give 42 = .ok (.getfield 26, 3) := by decide +kernel
theorem dX_give_45 : decode cX_give 45 = .ok (.iload_n 3, 1) := by decide +kernel
theorem dX_give_46 : decode cX_give 46 = .ok (.iconst 1, 1) := by decide +kernel
theorem dX_give_47 : decode cX_give 47 = .ok (.iadd, 1) := by decide +kernel
theorem dX_give_48 : decode cX_give 48 = .ok (.invokestatic 105, 3) := by decide +kernel
theorem dX_give_51 : decode cX_give 51 = .ok (.putfield 26, 3) := by decide +kernel
theorem dX_give_54 : decode cX_give 54 = .ok (.return_, 1) := by decide +kernel
theorem dX_takeBack_0 : decode cX_takeBack 0 = .ok (.aload_n 0, 1) := by decide +kernel
theorem dX_takeBack_1 : decode cX_takeBack 1 = .ok (.getfield 19, 3) := by decide +kernel
theorem dX_takeBack_4 : decode cX_takeBack 4 = .ok (.aload_n 0, 1) := by decide +kernel
theorem dX_takeBack_5 : decode cX_takeBack 5 = .ok (.getfield 13, 3) := by decide +kernel
theorem dX_takeBack_8 : decode cX_takeBack 8 = .ok (.iload_n 1, 1) := by decide +kernel
theorem dX_takeBack_9 : decode cX_takeBack 9 = .ok (.iaload, 1) := by decide +kernel
theorem dX_takeBack_10 : decode cX_takeBack 10 = .ok (.dup2, 1) := by decide +kernel
theorem dX_takeBack_11 : decode cX_takeBack 11 = .ok (.iaload, 1) := by decide +kernel
theorem dX_takeBack_12 : decode cX_takeBack 12 = .ok (.iload_n 1, 1) := by decide +kernel
theorem dX_takeBack_13 : decode cX_takeBack 13 = .ok (.invokestatic 38, 3) := by decide +kernel
theorem dX_takeBack_16 : decode cX_takeBack 16 = .ok (.iconst (-1), 1) := by decide +kernel
theorem dX_takeBack_17 : decode cX_takeBack 17 = .ok (.ixor, 1) := by decide +kernel
theorem dX_takeBack_18 : decode cX_takeBack 18 = .ok (.iand, 1) := by decide +kernel
theorem dX_takeBack_19 : decode cX_takeBack 19 = .ok (.iastore, 1) := by decide +kernel
theorem dX_takeBack_20 : decode cX_takeBack 20 = .ok (.aload_n 0, 1) := by decide +kernel
theorem dX_takeBack_21 : decode cX_takeBack 21 = .ok (.getfield 19, 3) := by decide +kernel
theorem dX_takeBack_24 : decode cX_takeBack 24 = .ok (.aload_n 0, 1) := by decide +kernel
theorem dX_takeBack_25 : decode cX_takeBack 25 = .ok (.getfield 16, 3) := by decide +kernel
theorem dX_takeBack_28 : decode cX_takeBack 28 = .ok (.iload_n 1, 1) := by decide +kernel
theorem dX_takeBack_29 : decode cX_takeBack 29 = .ok (.iaload, 1) := by decide +kernel
theorem dX_takeBack_30 : decode cX_takeBack 30 = .ok (.dup2, 1) := by decide +kernel
theorem dX_takeBack_31 : decode cX_takeBack 31 = .ok (.iaload, 1) := by decide +kernel
theorem dX_takeBack_32 : decode cX_takeBack 32 = .ok (.iload_n 1, 1) := by decide +kernel
theorem dX_takeBack_33 : decode cX_takeBack 33 = .ok (.invokestatic 38, 3) := by decide +kernel
theorem dX_takeBack_36 : decode cX_takeBack 36 = .ok (.iconst (-1), 1) := by decide +kernel
theorem dX_takeBack_37 : decode cX_takeBack 37 = .ok (.ixor, 1) := by decide +kernel
theorem dX_takeBack_38 : decode cX_takeBack 38 = .ok (.iand, 1) := by decide +kernel
theorem dX_takeBack_39 : decode cX_takeBack 39 = .ok (.iastore, 1) := by decide +kernel
theorem dX_takeBack_40 : decode cX_takeBack 40 = .ok (.aload_n 0, 1) := by decide +kernel
theorem dX_takeBack_41 : decode cX_takeBack 41 = .ok (.iload_n 2, 1) := by decide +kernel
theorem dX_takeBack_42 : decode cX_takeBack 42 = .ok (.putfield 26, 3) := by decide +kernel
theorem dX_takeBack_45 : decode cX_takeBack 45 = .ok (.return_, 1) := by decide +kernel
theorem dX_apart_0 : decode cX_apart 0 = .ok (.iconst 0, 1) := by decide +kernel
theorem dX_apart_1 : decode cX_apart 1 = .ok (.istore_n 1, 1) := by decide +kernel
theorem dX_apart_2 : decode cX_apart 2 = .ok (.iconst 0, 1) := by decide +kernel
theorem dX_apart_3 : decode cX_apart 3 = .ok (.istore_n 2, 1) := by decide +kernel
theorem dX_apart_4 : decode cX_apart 4 = .ok (.iload_n 2, 1) := by decide +kernel
theorem dX_apart_5 : decode cX_apart 5 = .ok (.aload_n 0, 1) := by decide +kernel
theorem dX_apart_6 : decode cX_apart 6 = .ok (.invokevirtual 65, 3) := by decide +kernel
theorem dX_apart_9 : decode cX_apart 9 = .ok (.if_icmp .gt 30, 3) := by decide +kernel
theorem dX_apart_12 : decode cX_apart 12 = .ok (.iload_n 2, 1) := by decide +kernel
theorem dX_apart_13 : decode cX_apart 13 = .ok (.invokestatic 54, 3) := by decide +kernel
theorem dX_apart_16 : decode cX_apart 16 = .ok (.iload_n 1, 1) := by decide +kernel
theorem dX_apart_17 : decode cX_apart 17 = .ok (.invokestatic 54, 3) := by decide +kernel
theorem dX_apart_20 : decode cX_apart 20 = .ok (.if_icmp .le 13, 3) := by decide +kernel
theorem dX_apart_23 : decode cX_apart 23 = .ok (.aload_n 0, 1) := by decide +kernel
theorem dX_apart_24 : decode cX_apart 24 = .ok (.iload_n 2, 1) := by decide +kernel
theorem dX_apart_25 : decode cX_apart 25 = .ok (.invokevirtual 78, 3) := by decide +kernel
theorem dX_apart_28 : decode cX_apart 28 = .ok (.ifCond .eq 5, 3) := by decide +kernel
theorem dX_apart_31 : decode cX_apart 31 = .ok (.iload_n 2, 1) := by decide +kernel
theorem dX_apart_32 : decode cX_apart 32 = .ok (.istore_n 1, 1) := by decide +kernel
theorem dX_apart_33 : decode cX_apart 33 = .ok (.iinc 2 1, 3) := by decide +kernel
theorem dX_apart_36 : decode cX_apart 36 = .ok (.goto (-32), 3) := by decide +kernel
theorem dX_apart_39 : decode cX_apart 39 = .ok (.iload_n 1, 1) := by decide +kernel
theorem dX_apart_40 : decode cX_apart 40 = .ok (.ireturn, 1) := by decide +kernel
theorem dX_isApart_0 : decode cX_isApart 0 = .ok (.aload_n 0, 1) := by decide +kernel
theorem dX_isApart_1 : decode cX_isApart 1 = .ok (.iload_n 1, 1) := by decide +kernel
theorem dX_isApart_2 : decode cX_isApart 2 = .ok (.invokevirtual 59, 3) := by decide +kernel
theorem dX_isApart_5 : decode cX_isApart 5 = .ok (.iload_n 1, 1) := by decide +kernel
theorem dX_isApart_6 : decode cX_isApart 6 = .ok (.iand, 1) := by decide +kernel
theorem dX_isApart_7 : decode cX_isApart 7 = .ok (.ifCond .ne 7, 3) := by decide +kernel
theorem dX_isApart_10 : decode cX_isApart 10 = .ok (.iconst 1, 1) := by decide +kernel
theorem dX_isApart_11 : decode cX_isApart 11 = .ok (.goto 4, 3) := by decide +kernel
theorem dX_isApart_14 : decode cX_isApart 14 = .ok (.iconst 0, 1) := by decide +kernel
theorem dX_isApart_15 : decode cX_isApart 15 = .ok (.ireturn, 1) := by decide +kernel
theorem dX_neighboursOf_0 : decode cX_neighboursOf 0 = .ok (.iconst 0, 1) := by decide +kernel
theorem dX_neighboursOf_1 : decode cX_neighboursOf 1 = .ok (.istore_n 2, 1) := by decide +kernel
theorem dX_neighboursOf_2 : decode cX_neighboursOf 2 = .ok (.iconst 0, 1) := by decide +kernel
theorem dX_neighboursOf_3 : decode cX_neighboursOf 3 = .ok (.istore_n 3, 1) := by decide +kernel
theorem dX_neighboursOf_4 : decode cX_neighboursOf 4 = .ok (.iload_n 3, 1) := by decide +kernel
theorem dX_neighboursOf_5 : decode cX_neighboursOf 5 = .ok (.aload_n 0, 1) := by decide +kernel
theorem dX_neighboursOf_6 : decode cX_neighboursOf 6 = .ok (.getfield 22, 3) := by decide +kernel
theorem dX_neighboursOf_9 : decode cX_neighboursOf 9 = .ok (.if_icmp .ge 26, 3) := by decide +kernel
theorem dX_neighboursOf_12 : decode cX_neighboursOf 12 = .ok (.iload_n 1, 1) := by decide +kernel
theorem dX_neighboursOf_13 : decode cX_neighboursOf 13 = .ok (.iload_n 3, 1) := by decide +kernel
theorem dX_neighboursOf_14 : decode cX_neighboursOf 14 = .ok (.invokestatic 46, 3) := by decide +kernel
theorem dX_neighboursOf_17 : decode cX_neighboursOf 17 = .ok (.ifCond .eq 12, 3) := by decide +kernel
theorem dX_neighboursOf_20 : decode cX_neighboursOf 20 = .ok (.iload_n 2, 1) := by decide +kernel
theorem dX_neighboursOf_21 : decode cX_neighboursOf 21 = .ok (.aload_n 0, 1) := by decide +kernel
theorem dX_neighboursOf_22 : decode cX_neighboursOf 22 = .ok (.getfield 9, 3) := by decide +kernel
theorem dX_neighboursOf_25 : decode cX_neighboursOf 25 = .ok (.iload_n 3, 1) := by decide +kernel
theorem dX_neighboursOf_26 : decode cX_neighboursOf 26 = .ok (.iaload, 1) := by decide +kernel
theorem dX_neighboursOf_27 : decode cX_neighboursOf 27 = .ok (.ior, 1) := by decide +kernel
theorem dX_neighboursOf_28 : decode cX_neighboursOf 28 = .ok (.istore_n 2, 1) := by decide +kernel
theorem dX_neighboursOf_29 : decode cX_neighboursOf 29 = .ok (.iinc 3 1, 3) := by decide +kernel
theorem dX_neighboursOf_32 : decode cX_neighboursOf 32 = .ok (.goto (-28), 3) := by decide +kernel
theorem dX_neighboursOf_35 : decode cX_neighboursOf 35 = .ok (.iload_n 2, 1) := by decide +kernel
theorem dX_neighboursOf_36 : decode cX_neighboursOf 36 = .ok (.ireturn, 1) := by decide +kernel
theorem dX_close_0 : decode cX_close 0 = .ok (.iconst 0, 1) := by decide +kernel
theorem dX_close_1 : decode cX_close 1 = .ok (.istore_n 1, 1) := by decide +kernel
theorem dX_close_2 : decode cX_close 2 = .ok (.iconst 0, 1) := by decide +kernel
theorem dX_close_3 : decode cX_close 3 = .ok (.istore_n 2, 1) := by decide +kernel
theorem dX_close_4 : decode cX_close 4 = .ok (.iload_n 2, 1) := by decide +kernel
theorem dX_close_5 : decode cX_close 5 = .ok (.aload_n 0, 1) := by decide +kernel
theorem dX_close_6 : decode cX_close 6 = .ok (.invokevirtual 65, 3) := by decide +kernel
theorem dX_close_9 : decode cX_close 9 = .ok (.if_icmp .gt 30, 3) := by decide +kernel
theorem dX_close_12 : decode cX_close 12 = .ok (.iload_n 2, 1) := by decide +kernel
theorem dX_close_13 : decode cX_close 13 = .ok (.invokestatic 54, 3) := by decide +kernel
theorem dX_close_16 : decode cX_close 16 = .ok (.iload_n 1, 1) := by decide +kernel
theorem dX_close_17 : decode cX_close 17 = .ok (.invokestatic 54, 3) := by decide +kernel
theorem dX_close_20 : decode cX_close 20 = .ok (.if_icmp .le 13, 3) := by decide +kernel
theorem dX_close_23 : decode cX_close 23 = .ok (.aload_n 0, 1) := by decide +kernel
theorem dX_close_24 : decode cX_close 24 = .ok (.iload_n 2, 1) := by decide +kernel
theorem dX_close_25 : decode cX_close 25 = .ok (.invokevirtual 81, 3) := by decide +kernel
theorem dX_close_28 : decode cX_close 28 = .ok (.ifCond .eq 5, 3) := by decide +kernel
theorem dX_close_31 : decode cX_close 31 = .ok (.iload_n 2, 1) := by decide +kernel
theorem dX_close_32 : decode cX_close 32 = .ok (.istore_n 1, 1) := by decide +kernel
theorem dX_close_33 : decode cX_close 33 = .ok (.iinc 2 1, 3) := by decide +kernel
theorem dX_close_36 : decode cX_close 36 = .ok (.goto (-32), 3) := by decide +kernel
theorem dX_close_39 : decode cX_close 39 = .ok (.iload_n 1, 1) := by decide +kernel
theorem dX_close_40 : decode cX_close 40 = .ok (.ireturn, 1) := by decide +kernel
theorem dX_isClose_0 : decode cX_isClose 0 = .ok (.iconst 0, 1) := by decide +kernel
theorem dX_isClose_1 : decode cX_isClose 1 = .ok (.istore_n 2, 1) := by decide +kernel
theorem dX_isClose_2 : decode cX_isClose 2 = .ok (.iload_n 2, 1) := by decide +kernel
theorem dX_isClose_3 : decode cX_isClose 3 = .ok (.aload_n 0, 1) := by decide +kernel
theorem dX_isClose_4 : decode cX_isClose 4 = .ok (.getfield 22, 3) := by decide +kernel
theorem dX_isClose_7 : decode cX_isClose 7 = .ok (.if_icmp .ge 39, 3) := by decide +kernel
theorem dX_isClose_10 : decode cX_isClose 10 = .ok (.iload_n 1, 1) := by decide +kernel
theorem dX_isClose_11 : decode cX_isClose 11 = .ok (.iload_n 2, 1) := by decide +kernel
theorem dX_isClose_12 : decode cX_isClose 12 = .ok (.invokestatic 46, 3) := by decide +kernel
theorem dX_isClose_15 : decode cX_isClose 15 = .ok (.ifCond .eq 25, 3) := by decide +kernel
theorem dX_isClose_18 : decode cX_isClose 18 = .ok (.iload_n 1, 1) := by decide +kernel
theorem dX_isClose_19 : decode cX_isClose 19 = .ok (.iload_n 2, 1) := by decide +kernel
theorem dX_isClose_20 : decode cX_isClose 20 = .ok (.invokestatic 38, 3) := by decide +kernel
theorem dX_isClose_23 : decode cX_isClose 23 = .ok (.iconst (-1), 1) := by decide +kernel
theorem dX_isClose_24 : decode cX_isClose 24 = .ok (.ixor, 1) := by decide +kernel
theorem dX_isClose_25 : decode cX_isClose 25 = .ok (.iand, 1) := by decide +kernel
theorem dX_isClose_26 : decode cX_isClose 26 = .ok (.aload_n 0, 1) := by decide +kernel
theorem dX_isClose_27 : decode cX_isClose 27 = .ok (.getfield 9, 3) := by decide +kernel
theorem dX_isClose_30 : decode cX_isClose 30 = .ok (.iload_n 2, 1) := by decide +kernel
theorem dX_isClose_31 : decode cX_isClose 31 = .ok (.iaload, 1) := by decide +kernel
theorem dX_isClose_32 : decode cX_isClose 32 = .ok (.iconst (-1), 1) := by decide +kernel
theorem dX_isClose_33 : decode cX_isClose 33 = .ok (.ixor, 1) := by decide +kernel
theorem dX_isClose_34 : decode cX_isClose 34 = .ok (.iand, 1) := by decide +kernel
theorem dX_isClose_35 : decode cX_isClose 35 = .ok (.ifCond .eq 5, 3) := by decide +kernel
theorem dX_isClose_38 : decode cX_isClose 38 = .ok (.iconst 0, 1) := by decide +kernel
theorem dX_isClose_39 : decode cX_isClose 39 = .ok (.ireturn, 1) := by decide +kernel
theorem dX_isClose_40 : decode cX_isClose 40 = .ok (.iinc 2 1, 3) := by decide +kernel
theorem dX_isClose_43 : decode cX_isClose 43 = .ok (.goto (-41), 3) := by decide +kernel
theorem dX_isClose_46 : decode cX_isClose 46 = .ok (.iconst 1, 1) := by decide +kernel
theorem dX_isClose_47 : decode cX_isClose 47 = .ok (.ireturn, 1) := by decide +kernel
theorem dX_grow_0 : decode cX_grow 0 = .ok (.aload_n 0, 1) := by decide +kernel
theorem dX_grow_1 : decode cX_grow 1 = .ok (.getfield 22, 3) := by decide +kernel
theorem dX_grow_4 : decode cX_grow 4 = .ok (.bipush 8, 2) := by decide +kernel
theorem dX_grow_6 : decode cX_grow 6 = .ok (.if_icmp .lt 13, 3) := by decide +kernel
theorem dX_grow_9 : decode cX_grow 9 = .ok (.new 29, 3) := by decide +kernel
theorem dX_grow_12 : decode cX_grow 12 = .ok (.dup, 1) := by decide +kernel
theorem dX_grow_13 : decode cX_grow 13 = .ok (.ldc 31, 2) := by decide +kernel
theorem dX_grow_15 : decode cX_grow 15 = .ok (.invokespecial 33, 3) := by decide +kernel
theorem dX_grow_18 : decode cX_grow 18 = .ok (.athrow, 1) := by decide +kernel
theorem dX_grow_19 : decode cX_grow 19 = .ok (.aload_n 0, 1) := by decide +kernel
theorem dX_grow_20 : decode cX_grow 20 = .ok (.getfield 9, 3) := by decide +kernel
theorem dX_grow_23 : decode cX_grow 23 = .ok (.aload_n 0, 1) := by decide +kernel
theorem dX_grow_24 : decode cX_grow 24 = .ok (.getfield 22, 3) := by decide +kernel
theorem dX_grow_27 : decode cX_grow 27 = .ok (.iconst 0, 1) := by decide +kernel
theorem dX_grow_28 : decode cX_grow 28 = .ok (.iastore, 1) := by decide +kernel
theorem dX_grow_29 : decode cX_grow 29 = .ok (.aload_n 0, 1) := by decide +kernel
theorem dX_grow_30 : decode cX_grow 30 = .ok (.dup, 1) := by decide +kernel
theorem dX_grow_31 : decode cX_grow 31 = .ok (.getfield 22, 3) := by decide +kernel
theorem dX_grow_34 : decode cX_grow 34 = .ok (.iconst 1, 1) := by decide +kernel
theorem dX_grow_35 : decode cX_grow 35 = .ok (.iadd, 1) := by decide +kernel
theorem dX_grow_36 : decode cX_grow 36 = .ok (.putfield 22, 3) := by decide +kernel
theorem dX_grow_39 : decode cX_grow 39 = .ok (.aload_n 0, 1) := by decide +kernel
theorem dX_grow_40 : decode cX_grow 40 = .ok (.getfield 22, 3) := by decide +kernel
theorem dX_grow_43 : decode cX_grow 43 = .ok (.iconst 1, 1) := by decide +kernel
theorem dX_grow_44 : decode cX_grow 44 = .ok (.isub, 1) := by decide +kernel
theorem dX_grow_45 : decode cX_grow 45 = .ok (.ireturn, 1) := by decide +kernel
