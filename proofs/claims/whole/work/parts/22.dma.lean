theorem dM_init_0 : decode cM_init 0 = .ok (.aload_n 0, 1) := by decide +kernel
theorem dM_init_1 : decode cM_init 1 = .ok (.invokespecial 1, 3) := by decide +kernel
theorem dM_init_4 : decode cM_init 4 = .ok (.aload_n 0, 1) := by decide +kernel
theorem dM_init_5 : decode cM_init 5 = .ok (.bipush 64, 2) := by decide +kernel
theorem dM_init_7 : decode cM_init 7 = .ok (.newarray .int, 2) := by decide +kernel
theorem dM_init_9 : decode cM_init 9 = .ok (.putfield 7, 3) := by decide +kernel
theorem dM_init_12 : decode cM_init 12 = .ok (.aload_n 0, 1) := by decide +kernel
theorem dM_init_13 : decode cM_init 13 = .ok (.bipush 8, 2) := by decide +kernel
theorem dM_init_15 : decode cM_init 15 = .ok (.newarray .int, 2) := by decide +kernel
theorem dM_init_17 : decode cM_init 17 = .ok (.putfield 13, 3) := by decide +kernel
theorem dM_init_20 : decode cM_init 20 = .ok (.aload_n 0, 1) := by decide +kernel
theorem dM_init_21 : decode cM_init 21 = .ok (.bipush 8, 2) := by decide +kernel
theorem dM_init_23 : decode cM_init 23 = .ok (.newarray .int, 2) := by decide +kernel
theorem dM_init_25 : decode cM_init 25 = .ok (.putfield 16, 3) := by decide +kernel
theorem dM_init_28 : decode cM_init 28 = .ok (.aload_n 0, 1) := by decide +kernel
theorem dM_init_29 : decode cM_init 29 = .ok (.bipush 8, 2) := by decide +kernel
theorem dM_init_31 : decode cM_init 31 = .ok (.newarray .int, 2) := by decide +kernel
theorem dM_init_33 : decode cM_init 33 = .ok (.putfield 19, 3) := by decide +kernel
theorem dM_init_36 : decode cM_init 36 = .ok (.aload_n 0, 1) := by decide +kernel
theorem dM_init_37 : decode cM_init 37 = .ok (.bipush 9, 2) := by decide +kernel
theorem dM_init_39 : decode cM_init 39 = .ok (.newarray .int, 2) := by decide +kernel
theorem dM_init_41 : decode cM_init 41 = .ok (.putfield 22, 3) := by decide +kernel
theorem dM_init_44 : decode cM_init 44 = .ok (.return_, 1) := by decide +kernel
theorem dM_thrown_0 : decode cM_thrown 0 = .ok (.aload_n 0, 1) := by decide +kernel
theorem dM_thrown_1 : decode cM_thrown 1 = .ok (.getfield 25, 3) := by decide +kernel
theorem dM_thrown_4 : decode cM_thrown 4 = .ok (.ireturn, 1) := by decide +kernel
theorem dM_grow_0 : decode cM_grow 0 = .ok (.aload_n 0, 1) := by decide +kernel
theorem dM_grow_1 : decode cM_grow 1 = .ok (.aload_n 0, 1) := by decide +kernel
theorem dM_grow_2 : decode cM_grow 2 = .ok (.getfield 29, 3) := by decide +kernel
theorem dM_grow_5 : decode cM_grow 5 = .ok (.bipush 8, 2) := by decide +kernel
theorem dM_grow_7 : decode cM_grow 7 = .ok (.if_icmp .ne 7, 3) := by decide +kernel
theorem dM_grow_10 : decode cM_grow 10 = .ok (.iconst 1, 1) := by decide +kernel
theorem dM_grow_11 : decode cM_grow 11 = .ok (.goto 4, 3) := by decide +kernel
theorem dM_grow_14 : decode cM_grow 14 = .ok (.iconst 0, 1) := by decide +kernel
theorem dM_grow_15 : decode cM_grow 15 = .ok (.putfield 25, 3) := by decide +kernel
theorem dM_grow_18 : decode cM_grow 18 = .ok (.aload_n 0, 1) := by decide +kernel
theorem dM_grow_19 : decode cM_grow 19 = .ok (.getfield 25, 3) := by decide +kernel
theorem dM_grow_22 : decode cM_grow 22 = .ok (.ifCond .le 5, 3) := by decide +kernel
theorem dM_grow_25 : decode cM_grow 25 = .ok (.iconst 0, 1) := by decide +kernel
theorem dM_grow_26 : decode cM_grow 26 = .ok (.ireturn, 1) := by decide +kernel
theorem dM_grow_27 : decode cM_grow 27 = .ok (.aload_n 0, 1) := by decide +kernel
theorem dM_grow_28 : decode cM_grow 28 = .ok (.dup, 1) := by decide +kernel
theorem dM_grow_29 : decode cM_grow 29 = .ok (.getfield 29, 3) := by decide +kernel
theorem dM_grow_32 : decode cM_grow 32 = .ok (.iconst 1, 1) := by decide +kernel
theorem dM_grow_33 : decode cM_grow 33 = .ok (.iadd, 1) := by decide +kernel
theorem dM_grow_34 : decode cM_grow 34 = .ok (.putfield 29, 3) := by decide +kernel
theorem dM_grow_37 : decode cM_grow 37 = .ok (.aload_n 0, 1) := by decide +kernel
theorem dM_grow_38 : decode cM_grow 38 = .ok (.getfield 29, 3) := by decide +kernel
theorem dM_grow_41 : decode cM_grow 41 = .ok (.iconst 1, 1) := by decide +kernel
theorem dM_grow_42 : decode cM_grow 42 = .ok (.isub, 1) := by decide +kernel
theorem dM_grow_43 : decode cM_grow 43 = .ok (.ireturn, 1) := by decide +kernel
theorem dM_shrink_0 : decode cM_shrink 0 = .ok (.aload_n 0, 1) := by decide +kernel
theorem dM_shrink_1 : decode cM_shrink 1 = .ok (.aload_n 0, 1) := by decide +kernel
theorem dM_shrink_2 : decode cM_shrink 2 = .ok (.getfield 29, 3) := by decide +kernel
theorem dM_shrink_5 : decode cM_shrink 5 = .ok (.ifCond .ne 7, 3) := by decide +kernel
theorem dM_shrink_8 : decode cM_shrink 8 = .ok (.iconst 1, 1) := by decide +kernel
theorem dM_shrink_9 : decode cM_shrink 9 = .ok (.goto 4, 3) := by decide +kernel
theorem dM_shrink_12 : decode cM_shrink 12 = .ok (.iconst 0, 1) := by decide +kernel
theorem dM_shrink_13 : decode cM_shrink 13 = .ok (.putfield 25, 3) := by decide +kernel
theorem dM_shrink_16 : decode cM_shrink 16 = .ok (.aload_n 0, 1) := by decide +kernel
theorem dM_shrink_17 : decode cM_shrink 17 = .ok (.getfield 25, 3) := by decide +kernel
theorem dM_shrink_20 : decode cM_shrink 20 = .ok (.ifCond .le 4, 3) := by decide +kernel
theorem dM_shrink_23 : decode cM_shrink 23 = .ok (.return_, 1) := by decide +kernel
theorem dM_shrink_24 : decode cM_shrink 24 = .ok (.aload_n 0, 1) := by decide +kernel
theorem dM_shrink_25 : decode cM_shrink 25 = .ok (.dup, 1) := by decide +kernel
theorem dM_shrink_26 : decode cM_shrink 26 = .ok (.getfield 29, 3) := by decide +kernel
theorem dM_shrink_29 : decode cM_shrink 29 = .ok (.iconst 1, 1) := by decide +kernel
theorem dM_shrink_30 : decode cM_shrink 30 = .ok (.isub, 1) := by decide +kernel
theorem dM_shrink_31 : decode cM_shrink 31 = .ok (.putfield 29, 3) := by decide +kernel
theorem dM_shrink_34 : decode cM_shrink 34 = .ok (.iconst 0, 1) := by decide +kernel
theorem dM_shrink_35 : decode cM_shrink 35 = .ok (.istore_n 1, 1) := by decide +kernel
theorem dM_shrink_36 : decode cM_shrink 36 = .ok (.iload_n 1, 1) := by decide +kernel
theorem dM_shrink_37 : decode cM_shrink 37 = .ok (.bipush 8, 2) := by decide +kernel
theorem dM_shrink_39 : decode cM_shrink 39 = .ok (.if_icmp .ge 39, 3) := by decide +kernel
theorem dM_shrink_42 : decode cM_shrink 42 = .ok (.aload_n 0, 1) := by decide +kernel
theorem dM_shrink_43 : decode cM_shrink 43 = .ok (.getfield 7, 3) := by decide +kernel
theorem dM_shrink_46 : decode cM_shrink 46 = .ok (.bipush 8, 2) := by decide +kernel
theorem dM_shrink_48 : decode cM_shrink 48 = .ok (.aload_n 0, 1) := by decide +kernel
theorem dM_shrink_49 : decode cM_shrink 49 = .ok (.getfield 29, 3) := by decide +kernel
theorem dM_shrink_52 : decode cM_shrink 52 = .ok (.imul, 1) := by decide +kernel
theorem dM_shrink_53 : decode cM_shrink 53 = .ok (.iload_n 1, 1) := by decide +kernel
theorem dM_shrink_54 : decode cM_shrink 54 = .ok (.iadd, 1) := by decide +kernel
theorem dM_shrink_55 : decode cM_shrink 55 = .ok (.iconst 0, 1) := by decide +kernel
theorem dM_shrink_56 : decode cM_shrink 56 = .ok (.iastore, 1) := by decide +kernel
theorem dM_shrink_57 : decode cM_shrink 57 = .ok (.aload_n 0, 1) := by decide +kernel
theorem dM_shrink_58 : decode cM_shrink 58 = .ok (.getfield 7, 3) := by decide +kernel
theorem dM_shrink_61 : decode cM_shrink 61 = .ok (.bipush 8, 2) := by decide +kernel
theorem dM_shrink_63 : decode cM_shrink 63 = .ok (.iload_n 1, 1) := by decide +kernel
theorem dM_shrink_64 : decode cM_shrink 64 = .ok (.imul, 1) := by decide +kernel
theorem dM_shrink_65 : decode cM_shrink 65 = .ok (.aload_n 0, 1) := by decide +kernel
theorem dM_shrink_66 : decode cM_shrink 66 = .ok (.getfield 29, 3) := by decide +kernel
theorem dM_shrink_69 : decode cM_shrink 69 = .ok (.iadd, 1) := by decide +kernel
theorem dM_shrink_70 : decode cM_shrink 70 = .ok (.iconst 0, 1) := by decide +kernel
theorem dM_shrink_71 : decode cM_shrink 71 = .ok (.iastore, 1) := by decide +kernel
theorem dM_shrink_72 : decode cM_shrink 72 = .ok (.iinc 1 1, 3) := by decide +kernel
theorem dM_shrink_75 : decode cM_shrink 75 = .ok (.goto (-39), 3) := by decide +kernel
theorem dM_shrink_78 : decode cM_shrink 78 = .ok (.return_, 1) := by decide +kernel
theorem dM_join_0 : decode cM_join 0 = .ok (.aload_n 0, 1) := by decide +kernel
theorem dM_join_1 : decode cM_join 1 = .ok (.iload_n 1, 1) := by decide +kernel
theorem dM_join_2 : decode cM_join 2 = .ok (.iload_n 2, 1) := by decide +kernel
theorem dM_join_3 : decode cM_join 3 = .ok (.iconst 1, 1) := by decide +kernel
theorem dM_join_4 : decode cM_join 4 = .ok (.invokevirtual 36, 3) := by decide +kernel
theorem dM_join_7 : decode cM_join 7 = .ok (.ireturn, 1) := by decide +kernel
theorem dM_change_0 : decode cM_change 0 = .ok (.aload_n 0, 1) := by decide +kernel
theorem dM_change_1 : decode cM_change 1 = .ok (.aload_n 0, 1) := by decide +kernel
theorem dM_change_2 : decode cM_change 2 = .ok (.iload_n 1, 1) := by decide +kernel
theorem dM_change_3 : decode cM_change 3 = .ok (.invokevirtual 32, 3) := by decide +kernel
theorem dM_change_6 : decode cM_change 6 = .ok (.ifCond .eq 11, 3) := by decide +kernel
theorem dM_change_9 : decode cM_change 9 = .ok (.aload_n 0, 1) := by decide +kernel
theorem dM_change_10 : decode cM_change 10 = .ok (.iload_n 2, 1) := by decide +kernel
theorem dM_change_11 : decode cM_change 11 = .ok (.invokevirtual 32, 3) := by decide +kernel
theorem dM_change_14 : decode cM_change 14 = .ok (.ifCond .ne 7, 3) := by decide +kernel
theorem dM_change_17 : decode cM_change 17 = .ok (.iconst 1, 1) := by decide +kernel
theorem dM_change_18 : decode cM_change 18 = .ok (.goto 13, 3) := by decide +kernel
theorem dM_change_21 : decode cM_change 21 = .ok (.iload_n 1, 1) := by decide +kernel
theorem dM_change_22 : decode cM_change 22 = .ok (.iload_n 2, 1) := by decide +kernel
theorem dM_change_23 : decode cM_change 23 = .ok (.if_icmp .ne 7, 3) := by decide +kernel
theorem dM_change_26 : decode cM_change 26 = .ok (.iconst 2, 1) := by decide +kernel
theorem dM_change_27 : decode cM_change 27 = .ok (.goto 4, 3) := by decide +kernel
theorem dM_change_30 : decode cM_change 30 = .ok (.iconst 0, 1) := by decide +kernel
theorem dM_change_31 : decode cM_change 31 = .ok (.putfield 25, 3) := by decide +kernel
theorem dM_change_34 : decode cM_change 34 = .ok (.aload_n 0, 1) := by decide +kernel
theorem dM_change_35 : decode cM_change 35 = .ok (.getfield 25, 3) := by decide +kernel
theorem dM_change_38 : decode cM_change 38 = .ok (.ifCond .gt 18, 3) := by decide +kernel
theorem dM_change_41 : decode cM_change 41 = .ok (.aload_n 0, 1) := by decide +kernel
theorem dM_change_42 : decode cM_change 42 = .ok (.getfield 7, 3) := by decide +kernel
theorem dM_change_45 : decode cM_change 45 = .ok (.bipush 8, 2) := by decide +kernel
theorem dM_change_47 : decode cM_change 47 = .ok (.iload_n 1, 1) := by decide +kernel
theorem dM_change_48 : decode cM_change 48 = .ok (.imul, 1) := by decide +kernel
theorem dM_change_49 : decode cM_change 49 = .ok (.iload_n 2, 1) := by decide +kernel
theorem dM_change_50 : decode cM_change 50 = .ok (.iadd, 1) := by decide +kernel
theorem dM_change_51 : decode cM_change 51 = .ok (.iaload, 1) := by decide +kernel
theorem dM_change_52 : decode cM_change 52 = .ok (.iload_n 3, 1) := by decide +kernel
theorem dM_change_53 : decode cM_change 53 = .ok (.if_icmp .ne 5, 3) := by decide +kernel
theorem dM_change_56 : decode cM_change 56 = .ok (.iconst 0, 1) := by decide +kernel
theorem dM_change_57 : decode cM_change 57 = .ok (.ireturn, 1) := by decide +kernel
theorem dM_change_58 : decode cM_change 58 = .ok (.aload_n 0, 1) := by decide +kernel
theorem dM_change_59 : decode cM_change 59 = .ok (.getfield 7, 3) := by decide +kernel
theorem dM_change_62 : decode cM_change 62 = .ok (.bipush 8, 2) := by decide +kernel
theorem dM_change_64 : decode cM_change 64 = .ok (.iload_n 1, 1) := by decide +kernel
theorem dM_change_65 : decode cM_change 65 = .ok (.imul, 1) := by decide +kernel
theorem dM_change_66 : decode cM_change 66 = .ok (.iload_n 2, 1) := by decide +kernel
theorem dM_change_67 : decode cM_change 67 = .ok (.iadd, 1) := by decide +kernel
theorem dM_change_68 : decode cM_change 68 = .ok (.iload_n 3, 1) := by decide +kernel
theorem dM_change_69 : decode cM_change 69 = .ok (.iastore, 1) := by decide +kernel
theorem dM_change_70 : decode cM_change 70 = .ok (.aload_n 0, 1) := by decide +kernel
theorem dM_change_71 : decode cM_change 71 = .ok (.getfield 7, 3) := by decide +kernel
theorem dM_change_74 : decode cM_change 74 = .ok (.bipush 8, 2) := by decide +kernel
theorem dM_change_76 : decode cM_change 76 = .ok (.iload_n 2, 1) := by decide +kernel
theorem dM_change_77 : decode cM_change 77 = .ok (.imul, 1) := by decide +kernel
theorem dM_change_78 : decode cM_change 78 = .ok (.iload_n 1, 1) := by decide +kernel
theorem dM_change_79 : decode cM_change 79 = .ok (.iadd, 1) := by decide +kernel
theorem dM_change_80 : decode cM_change 80 = .ok (.iload_n 3, 1) := by decide +kernel
theorem dM_change_81 : decode cM_change 81 = .ok (.iastore, 1) := by decide +kernel
theorem dM_change_82 : decode cM_change 82 = .ok (.iconst 1, 1) := by decide +kernel
theorem dM_change_83 : decode cM_change 83 = .ok (.ireturn, 1) := by decide +kernel
theorem dM_is_0 : decode cM_is 0 = .ok (.iload_n 1, 1) := by decide +kernel
theorem dM_is_1 : decode cM_is 1 = .ok (.ifCond .lt 15, 3) := by decide +kernel
theorem dM_is_4 : decode cM_is 4 = .ok (.iload_n 1, 1) := by decide +kernel
theorem dM_is_5 : decode cM_is 5 = .ok (.aload_n 0, 1) := by decide +kernel
theorem dM_is_6 : decode cM_is 6 = .ok (.getfield 29, 3) := by decide +kernel
theorem dM_is_9 : decode cM_is 9 = .ok (.if_icmp .ge 7, 3) := by decide +kernel
theorem dM_is_12 : decode cM_is 12 = .ok (.iconst 1, 1) := by decide +kernel
theorem dM_is_13 : decode cM_is 13 = .ok (.goto 4, 3) := by decide +kernel
theorem dM_is_16 : decode cM_is 16 = .ok (.iconst 0, 1) := by decide +kernel
theorem dM_is_17 : decode cM_is 17 = .ok (.ireturn, 1) := by decide +kernel
theorem dM_part_0 : decode cM_part 0 = .ok (.aload_n 0, 1) := by decide +kernel
theorem dM_part_1 : decode cM_part 1 = .ok (.iload_n 1, 1) := by decide +kernel
theorem dM_part_2 : decode cM_part 2 = .ok (.iload_n 2, 1) := by decide +kernel
theorem dM_part_3 : decode cM_part 3 = .ok (.iconst 0, 1) := by decide +kernel
theorem dM_part_4 : decode cM_part 4 = .ok (.invokevirtual 36, 3) := by decide +kernel
theorem dM_part_7 : decode cM_part 7 = .ok (.ireturn, 1) := by decide +kernel
theorem dM_adjacent_0 : decode cM_adjacent 0 = .ok (.aload_n 0, 1) := by decide +kernel
theorem dM_adjacent_1 : decode cM_adjacent 1 = .ok (.aload_n 0, 1) := by decide +kernel
theorem dM_adjacent_2 : decode cM_adjacent 2 = .ok (.iload_n 1, 1) := by decide +kernel
theorem dM_adjacent_3 : decode cM_adjacent 3 = .ok (.invokevirtual 32, 3) := by decide +kernel
theorem dM_adjacent_6 : decode cM_adjacent 6 = .ok (.ifCond .eq 11, 3) := by decide +kernel
theorem dM_adjacent_9 : decode cM_adjacent 9 = .ok (.aload_n 0, 1) := by decide +kernel
theorem dM_adjacent_10 : decode cM_adjacent 10 = .ok (.iload_n 2, 1) := by decide +kernel
theorem dM_adjacent_11 : decode cM_adjacent 11 = .ok (.invokevirtual 32, 3) := by decide +kernel
theorem dM_adjacent_14 : decode cM_adjacent 14 = .ok (.ifCond .ne 7, 3) := by decide +kernel
theorem dM_adjacent_17 : decode cM_adjacent 17 = .ok (.iconst 1, 1) := by decide +kernel
theorem dM_adjacent_18 : decode cM_adjacent 18 = .ok (.goto 4, 3) := by decide +kernel
theorem dM_adjacent_21 : decode cM_adjacent 21 = .ok (.iconst 0, 1) := by decide +kernel
theorem dM_adjacent_22 : decode cM_adjacent 22 = .ok (.putfield 25, 3) := by decide +kernel
theorem dM_adjacent_25 : decode cM_adjacent 25 = .ok (.aload_n 0, 1) := by decide +kernel
theorem dM_adjacent_26 : decode cM_adjacent 26 = .ok (.getfield 25, 3) := by decide +kernel
theorem dM_adjacent_29 : decode cM_adjacent 29 = .ok (.ifCond .ne 22, 3) := by decide +kernel
theorem dM_adjacent_32 : decode cM_adjacent 32 = .ok (.aload_n 0, 1) := by decide +kernel
theorem dM_adjacent_33 : decode cM_adjacent 33 = .ok (.getfield 7, 3) := by decide +kernel
theorem dM_adjacent_36 : decode cM_adjacent 36 = .ok (.bipush 8, 2) := by decide +kernel
theorem dM_adjacent_38 : decode cM_adjacent 38 = .ok (.iload_n 1, 1) := by decide +kernel
theorem dM_adjacent_39 : decode cM_adjacent 39 = .ok (.imul, 1) := by decide +kernel
theorem dM_adjacent_40 : decode cM_adjacent 40 = .ok (.iload_n 2, 1) := by decide +kernel
theorem dM_adjacent_41 : decode cM_adjacent 41 = .ok (.iadd, 1) := by decide +kernel
theorem dM_adjacent_42 : decode cM_adjacent 42 = .ok (.iaload, 1) := by decide +kernel
theorem dM_adjacent_43 : decode cM_adjacent 43 = .ok (.iconst 1, 1) := by decide +kernel
theorem dM_adjacent_44 : decode cM_adjacent 44 = .ok (.if_icmp .ne 7, 3) := by decide +kernel
theorem dM_adjacent_47 : decode cM_adjacent 47 = .ok (.iconst 1, 1) := by decide +kernel
theorem dM_adjacent_48 : decode cM_adjacent 48 = .ok (.goto 4, 3) := by decide +kernel
theorem dM_adjacent_51 : decode cM_adjacent 51 = .ok (.iconst 0, 1) := by decide +kernel
theorem dM_adjacent_52 : decode cM_adjacent 52 = .ok (.ireturn, 1) := by decide +kernel
theorem dM_vertices_0 : decode cM_vertices 0 = .ok (.aload_n 0, 1) := by decide +kernel
theorem dM_vertices_1 : decode cM_vertices 1 = .ok (.iconst 0, 1) := by decide +kernel
theorem dM_vertices_2 : decode cM_vertices 2 = .ok (.putfield 25, 3) := by decide +kernel
theorem dM_vertices_5 : decode cM_vertices 5 = .ok (.aload_n 0, 1) := by decide +kernel
theorem dM_vertices_6 : decode cM_vertices 6 = .ok (.getfield 29, 3) := by decide +kernel
theorem dM_vertices_9 : decode cM_vertices 9 = .ok (.ireturn, 1) := by decide +kernel
theorem dM_edges_0 : decode cM_edges 0 = .ok (.aload_n 0, 1) := by decide +kernel
theorem dM_edges_1 : decode cM_edges 1 = .ok (.iconst 0, 1) := by decide +kernel
theorem dM_edges_2 : decode cM_edges 2 = .ok (.putfield 25, 3) := by decide +kernel
theorem dM_edges_5 : decode cM_edges 5 = .ok (.iconst 0, 1) := by decide +kernel
theorem dM_edges_6 : decode cM_edges 6 = .ok (.istore_n 1, 1) := by decide +kernel
theorem dM_edges_7 : decode cM_edges 7 = .ok (.iconst 0, 1) := by decide +kernel
theorem dM_edges_8 : decode cM_edges 8 = .ok (.istore_n 2, 1) := by decide +kernel
theorem dM_edges_9 : decode cM_edges 9 = .ok (.iload_n 2, 1) := by decide +kernel
theorem dM_edges_10 : decode cM_edges 10 = .ok (.bipush 64, 2) := by decide +kernel
theorem dM_edges_12 : decode cM_edges 12 = .ok (.if_icmp .ge 18, 3) := by decide +kernel
theorem dM_edges_15 : decode cM_edges 15 = .ok (.iload_n 1, 1) := by decide +kernel
theorem dM_edges_16 : decode cM_edges 16 = .ok (.aload_n 0, 1) := by decide +kernel
theorem dM_edges_17 : decode cM_edges 17 = .ok (.getfield 7, 3) := by decide +kernel
theorem dM_edges_20 : decode cM_edges 20 = .ok (.iload_n 2, 1) := by decide +kernel
theorem dM_edges_21 : decode cM_edges 21 = .ok (.iaload, 1) := by decide +kernel
theorem dM_edges_22 : decode cM_edges 22 = .ok (.iadd, 1) := by decide +kernel
theorem dM_edges_23 : decode cM_edges 23 = .ok (.istore_n 1, 1) := by decide +kernel
theorem dM_edges_24 : decode cM_edges 24 = .ok (.iinc 2 1, 3) := by decide +kernel
theorem dM_edges_27 : decode cM_edges 27 = .ok (.goto (-18), 3) := by decide +kernel
theorem dM_edges_30 : decode cM_edges 30 = .ok (.iload_n 1, 1) := by decide +kernel
theorem dM_edges_31 : decode cM_edges 31 = .ok (.iconst 2, 1) := by decide +kernel
theorem dM_edges_32 : decode cM_edges 32 = .ok (.idiv, 1) := by decide +kernel
theorem dM_edges_33 : decode cM_edges 33 = .ok (.ireturn, 1) := by decide +kernel
theorem dM_leader_0 : decode cM_leader 0 = .ok (.aload_n 0, 1) := by decide +kernel
theorem dM_leader_1 : decode cM_leader 1 = .ok (.aload_n 0, 1) := by decide +kernel
theorem dM_leader_2 : decode cM_leader 2 = .ok (.iload_n 1, 1) := by decide +kernel
theorem dM_leader_3 : decode cM_leader 3 = .ok (.invokevirtual 32, 3) := by decide +kernel
theorem dM_leader_6 : decode cM_leader 6 = .ok (.ifCond .eq 7, 3) := by decide +kernel
theorem dM_leader_9 : decode cM_leader 9 = .ok (.iconst 0, 1) := by decide +kernel
theorem dM_leader_10 : decode cM_leader 10 = .ok (.goto 4, 3) := by decide +kernel
theorem dM_leader_13 : decode cM_leader 13 = .ok (.iconst 1, 1) := by decide +kernel
theorem dM_leader_14 : decode cM_leader 14 = .ok (.putfield 25, 3) := by decide +kernel
theorem dM_leader_17 : decode cM_leader 17 = .ok (.aload_n 0, 1) := by decide +kernel
theorem dM_leader_18 : decode cM_leader 18 = .ok (.getfield 25, 3) := by decide +kernel
theorem dM_leader_21 : decode cM_leader 21 = .ok (.ifCond .le 5, 3) := by decide +kernel
theorem dM_leader_24 : decode cM_leader 24 = .ok (.iconst 0, 1) := by decide +kernel
theorem dM_leader_25 : decode cM_leader 25 = .ok (.ireturn, 1) := by decide +kernel
theorem dM_leader_26 : decode cM_leader 26 = .ok (.iconst 1, 1) := by decide +kernel
theorem dM_leader_27 : decode cM_leader 27 = .ok (.iload_n 1, 1) := by decide +kernel
theorem dM_leader_28 : decode cM_leader 28 = .ok (.ishl, 1) := by decide +kernel
theorem dM_leader_29 : decode cM_leader 29 = .ok (.istore_n 2, 1) := by decide +kernel
theorem dM_leader_30 : decode cM_leader 30 = .ok (.iconst 0, 1) := by decide +kernel
theorem dM_leader_31 : decode cM_leader 31 = .ok (.istore_n 3, 1) := by decide +kernel
theorem dM_leader_32 : decode cM_leader 32 = .ok (.iload_n 3, 1) := by decide +kernel
theorem dM_leader_33 : decode cM_leader 33 = .ok (.aload_n 0, 1) := by decide +kernel
theorem dM_leader_34 : decode cM_leader 34 = .ok (.getfield 29, 3) := by decide +kernel
theorem dM_leader_37 : decode cM_leader 37 = .ok (.if_icmp .ge 59, 3) := by decide +kernel
theorem dM_leader_40 : decode cM_leader 40 = .ok (.iconst 0, 1) := by decide +kernel
theorem dM_leader_41 : decode cM_leader 41 = .ok (.istore 4, 2) := by decide +kernel
theorem dM_leader_43 : decode cM_leader 43 = .ok (.iload 4, 2) := by decide +kernel
theorem dM_leader_45 : decode cM_leader 45 = .ok (.bipush 64, 2) := by decide +kernel
theorem dM_leader_47 : decode cM_leader 47 = .ok (.if_icmp .ge 43, 3) := by decide +kernel
theorem dM_leader_50 : decode cM_leader 50 = .ok (.aload_n 0, 1) := by decide +kernel
theorem dM_leader_51 : decode cM_leader 51 = .ok (.getfield 7, 3) := by decide +kernel
theorem dM_leader_54 : decode cM_leader 54 = .ok (.iload 4, 2) := by decide +kernel
theorem dM_leader_56 : decode cM_leader 56 = .ok (.iaload, 1) := by decide +kernel
theorem dM_leader_57 : decode cM_leader 57 = .ok (.iconst 1, 1) := by decide +kernel
theorem dM_leader_58 : decode cM_leader 58 = .ok (.if_icmp .ne 26, 3) := by decide +kernel
theorem dM_leader_61 : decode cM_leader 61 = .ok (.iload_n 2, 1) := by decide +kernel
theorem dM_leader_62 : decode cM_leader 62 = .ok (.iload 4, 2) := by decide +kernel
theorem dM_leader_64 : decode cM_leader 64 = .ok (.bipush 8, 2) := by decide +kernel
theorem dM_leader_66 : decode cM_leader 66 = .ok (.idiv, 1) := by decide +kernel
theorem dM_leader_67 : decode cM_leader 67 = .ok (.ishr, 1) := by decide +kernel
theorem dM_leader_68 : decode cM_leader 68 = .ok (.iconst 1, 1) := by decide +kernel
theorem dM_leader_69 : decode cM_leader 69 = .ok (.iand, 1) := by decide +kernel
theorem dM_leader_70 : decode cM_leader 70 = .ok (.iconst 1, 1) := by decide +kernel
theorem dM_leader_71 : decode cM_leader 71 = .ok (.if_icmp .ne 13, 3) := by decide +kernel
theorem dM_leader_74 : decode cM_leader 74 = .ok (.iload_n 2, 1) := by decide +kernel
theorem dM_leader_75 : decode cM_leader 75 = .ok (.iconst 1, 1) := by decide +kernel
theorem dM_leader_76 : decode cM_leader 76 = .ok (.iload 4, 2) := by decide +kernel
theorem dM_leader_78 : decode cM_leader 78 = .ok (.bipush 8, 2) := by decide +kernel
theorem dM_leader_80 : decode cM_leader 80 = .ok (.irem, 1) := by decide +kernel
theorem dM_leader_81 : decode cM_leader 81 = .ok (.ishl, 1) := by decide +kernel
theorem dM_leader_82 : decode cM_leader 82 = .ok (.ior, 1) := by decide +kernel
theorem dM_leader_83 : decode cM_leader 83 = .ok (.istore_n 2, 1) := by decide +kernel
theorem dM_leader_84 : decode cM_leader 84 = .ok (.iinc 4 1, 3) := by decide +kernel
theorem dM_leader_87 : decode cM_leader 87 = .ok (.goto (-44), 3) := by decide +kernel
theorem dM_leader_90 : decode cM_leader 90 = .ok (.iinc 3 1, 3) := by decide +kernel
theorem dM_leader_93 : decode cM_leader 93 = .ok (.goto (-61), 3) := by decide +kernel
theorem dM_leader_96 : decode cM_leader 96 = .ok (.iconst 0, 1) := by decide +kernel
theorem dM_leader_97 : decode cM_leader 97 = .ok (.istore_n 3, 1) := by decide +kernel
theorem dM_leader_98 : decode cM_leader 98 = .ok (.iload_n 2, 1) := by decide +kernel
theorem dM_leader_99 : decode cM_leader 99 = .ok (.iload_n 3, 1) := by decide +kernel
theorem dM_leader_100 : decode cM_leader 100 = .ok (.ishr, 1) := by decide +kernel
theorem dM_leader_101 : decode cM_leader 101 = .ok (.iconst 1, 1) := by decide +kernel
theorem dM_leader_102 : decode cM_leader 102 = .ok (.iand, 1) := by decide +kernel
theorem dM_leader_103 : decode cM_leader 103 = .ok (.ifCond .ne 9, 3) := by decide +kernel
theorem dM_leader_106 : decode cM_leader 106 = .ok (.iinc 3 1, 3) := by decide +kernel
theorem dM_leader_109 : decode cM_leader 109 = .ok (.goto (-11), 3) := by decide +kernel
theorem dM_leader_112 : decode cM_leader 112 = .ok (.iload_n 3, 1) := by decide +kernel
theorem dM_leader_113 : decode cM_leader 113 = .ok (.ireturn, 1) := by decide +kernel
theorem dM_isLine_0 : decode cM_isLine 0 = .ok (.aload_n 0, 1) := by decide +kernel
theorem dM_isLine_1 : decode cM_isLine 1 = .ok (.iconst 0, 1) := by decide +kernel
theorem dM_isLine_2 : decode cM_isLine 2 = .ok (.putfield 25, 3) := by decide +kernel
theorem dM_isLine_5 : decode cM_isLine 5 = .ok (.aload_n 0, 1) := by decide +kernel
theorem dM_isLine_6 : decode cM_isLine 6 = .ok (.aload_n 0, 1) := by decide +kernel
theorem dM_isLine_7 : decode cM_isLine 7 = .ok (.invokevirtual 50, 3) := by decide +kernel
theorem dM_isLine_10 : decode cM_isLine 10 = .ok (.invokevirtual 54, 3) := by decide +kernel
theorem dM_isLine_13 : decode cM_isLine 13 = .ok (.ifCond .lt 7, 3) := by decide +kernel
theorem dM_isLine_16 : decode cM_isLine 16 = .ok (.iconst 1, 1) := by decide +kernel
theorem dM_isLine_17 : decode cM_isLine 17 = .ok (.goto 4, 3) := by decide +kernel
theorem dM_isLine_20 : decode cM_isLine 20 = .ok (.iconst 0, 1) := by decide +kernel
theorem dM_isLine_21 : decode cM_isLine 21 = .ok (.ireturn, 1) := by decide +kernel
theorem dM_all_0 : decode cM_all 0 = .ok (.iconst 1, 1) := by decide +kernel
theorem dM_all_1 : decode cM_all 1 = .ok (.aload_n 0, 1) := by decide +kernel
theorem dM_all_2 : decode cM_all 2 = .ok (.getfield 29, 3) := by decide +kernel
theorem dM_all_5 : decode cM_all 5 = .ok (.ishl, 1) := by decide +kernel
theorem dM_all_6 : decode cM_all 6 = .ok (.iconst 1, 1) := by decide +kernel
theorem dM_all_7 : decode cM_all 7 = .ok (.isub, 1) := by decide +kernel
theorem dM_all_8 : decode cM_all 8 = .ok (.ireturn, 1) := by decide +kernel
theorem dM_name_0 : decode cM_name 0 = .ok (.iconst 0, 1) := by decide +kernel
theorem dM_name_1 : decode cM_name 1 = .ok (.istore_n 2, 1) := by decide +kernel
theorem dM_name_2 : decode cM_name 2 = .ok (.iconst 0, 1) := by decide +kernel
theorem dM_name_3 : decode cM_name 3 = .ok (.istore_n 3, 1) := by decide +kernel
theorem dM_name_4 : decode cM_name 4 = .ok (.iload_n 3, 1) := by decide +kernel
theorem dM_name_5 : decode cM_name 5 = .ok (.aload_n 0, 1) := by decide +kernel
theorem dM_name_6 : decode cM_name 6 = .ok (.getfield 29, 3) := by decide +kernel
theorem dM_name_9 : decode cM_name 9 = .ok (.if_icmp .ge 28, 3) := by decide +kernel
theorem dM_name_12 : decode cM_name 12 = .ok (.iload_n 1, 1) := by decide +kernel
theorem dM_name_13 : decode cM_name 13 = .ok (.iload_n 3, 1) := by decide +kernel
theorem dM_name_14 : decode cM_name 14 = .ok (.ishr, 1) := by decide +kernel
theorem dM_name_15 : decode cM_name 15 = .ok (.iconst 1, 1) := by decide +kernel
theorem dM_name_16 : decode cM_name 16 = .ok (.iand, 1) := by decide +kernel
theorem dM_name_17 : decode cM_name 17 = .ok (.iconst 1, 1) := by decide +kernel
theorem dM_name_18 : decode cM_name 18 = .ok (.if_icmp .ne 13, 3) := by decide +kernel
theorem dM_name_21 : decode cM_name 21 = .ok (.aload_n 0, 1) := by decide +kernel
theorem dM_name_22 : decode cM_name 22 = .ok (.getfield 19, 3) := by decide +kernel
theorem dM_name_25 : decode cM_name 25 = .ok (.iload_n 2, 1) := by decide +kernel
theorem dM_name_26 : decode cM_name 26 = .ok (.iload_n 3, 1) := by decide +kernel
theorem dM_name_27 : decode cM_name 27 = .ok (.iastore, 1) := by decide +kernel
theorem dM_name_28 : decode cM_name 28 = .ok (.iinc 2 1, 3) := by decide +kernel
theorem dM_name_31 : decode cM_name 31 = .ok (.iinc 3 1, 3) := by decide +kernel
theorem dM_name_34 : decode cM_name 34 = .ok (.goto (-30), 3) := by decide +kernel
theorem dM_name_37 : decode cM_name 37 = .ok (.aload_n 0, 1) := by decide +kernel
theorem dM_name_38 : decode cM_name 38 = .ok (.getfield 22, 3) := by decide +kernel
theorem dM_name_41 : decode cM_name 41 = .ok (.iconst 0, 1) := by decide +kernel
theorem dM_name_42 : decode cM_name 42 = .ok (.iconst 0, 1) := by decide +kernel
theorem dM_name_43 : decode cM_name 43 = .ok (.iastore, 1) := by decide +kernel
theorem dM_name_44 : decode cM_name 44 = .ok (.iconst 0, 1) := by decide +kernel
theorem dM_name_45 : decode cM_name 45 = .ok (.istore_n 3, 1) := by decide +kernel
theorem dM_name_46 : decode cM_name 46 = .ok (.iload_n 2, 1) := by decide +kernel
theorem dM_name_47 : decode cM_name 47 = .ok (.ifCond .le 8, 3) := by decide +kernel
theorem dM_name_50 : decode cM_name 50 = .ok (.aload_n 0, 1) := by decide +kernel
theorem dM_name_51 : decode cM_name 51 = .ok (.iconst 0, 1) := by decide +kernel
theorem dM_name_52 : decode cM_name 52 = .ok (.invokevirtual 40, 3) := by decide +kernel
theorem dM_name_55 : decode cM_name 55 = .ok (.iload_n 3, 1) := by decide +kernel
theorem dM_name_56 : decode cM_name 56 = .ok (.ifCond .lt 92, 3) := by decide +kernel
theorem dM_name_59 : decode cM_name 59 = .ok (.iload_n 3, 1) := by decide +kernel
theorem dM_name_60 : decode cM_name 60 = .ok (.iload_n 2, 1) := by decide +kernel
theorem dM_name_61 : decode cM_name 61 = .ok (.if_icmp .ge 87, 3) := by decide +kernel
theorem dM_name_64 : decode cM_name 64 = .ok (.aload_n 0, 1) := by decide +kernel
theorem dM_name_65 : decode cM_name 65 = .ok (.iload_n 3, 1) := by decide +kernel
theorem dM_name_66 : decode cM_name 66 = .ok (.invokevirtual 44, 3) := by decide +kernel
theorem dM_name_69 : decode cM_name 69 = .ok (.ifCond .ne 9, 3) := by decide +kernel
theorem dM_name_72 : decode cM_name 72 = .ok (.iinc 3 (-1), 3) := by decide +kernel
theorem dM_name_75 : decode cM_name 75 = .ok (.goto (-20), 3) := by decide +kernel
theorem dM_name_78 : decode cM_name 78 = .ok (.aload_n 0, 1) := by decide +kernel
theorem dM_name_79 : decode cM_name 79 = .ok (.iload_n 3, 1) := by decide +kernel
theorem dM_name_80 : decode cM_name 80 = .ok (.invokevirtual 47, 3) := by decide +kernel
theorem dM_name_83 : decode cM_name 83 = .ok (.ifCond .eq (-28), 3) := by decide +kernel
theorem dM_name_86 : decode cM_name 86 = .ok (.aload_n 0, 1) := by decide +kernel
theorem dM_name_87 : decode cM_name 87 = .ok (.getfield 16, 3) := by decide +kernel
theorem dM_name_90 : decode cM_name 90 = .ok (.iload_n 3, 1) := by decide +kernel
theorem dM_name_91 : decode cM_name 91 = .ok (.iaload, 1) := by decide +kernel
theorem dM_name_92 : decode cM_name 92 = .ok (.iconst 1, 1) := by decide +kernel
theorem dM_name_93 : decode cM_name 93 = .ok (.iadd, 1) := by decide +kernel
theorem dM_name_94 : decode cM_name 94 = .ok (.aload_n 0, 1) := by decide +kernel
theorem dM_name_95 : decode cM_name 95 = .ok (.getfield 22, 3) := by decide +kernel
theorem dM_name_98 : decode cM_name 98 = .ok (.iload_n 3, 1) := by decide +kernel
theorem dM_name_99 : decode cM_name 99 = .ok (.iaload, 1) := by decide +kernel
theorem dM_name_100 : decode cM_name 100 = .ok (.if_icmp .le 14, 3) := by decide +kernel
theorem dM_name_103 : decode cM_name 103 = .ok (.aload_n 0, 1) := by decide +kernel
theorem dM_name_104 : decode cM_name 104 = .ok (.getfield 16, 3) := by decide +kernel
theorem dM_name_107 : decode cM_name 107 = .ok (.iload_n 3, 1) := by decide +kernel
theorem dM_name_108 : decode cM_name 108 = .ok (.iaload, 1) := by decide +kernel
theorem dM_name_109 : decode cM_name 109 = .ok (.iconst 1, 1) := by decide +kernel
theorem dM_name_110 : decode cM_name 110 = .ok (.iadd, 1) := by decide +kernel
theorem dM_name_111 : decode cM_name 111 = .ok (.goto 9, 3) := by decide +kernel
theorem dM_name_114 : decode cM_name 114 = .ok (.aload_n 0, 1) := by decide +kernel
theorem dM_name_115 : decode cM_name 115 = .ok (.getfield 22, 3) := by decide +kernel
theorem dM_name_118 : decode cM_name 118 = .ok (.iload_n 3, 1) := by decide +kernel
theorem dM_name_119 : decode cM_name 119 = .ok (.iaload, 1) := by decide +kernel
theorem dM_name_120 : decode cM_name 120 = .ok (.istore 4, 2) := by decide +kernel
theorem dM_name_122 : decode cM_name 122 = .ok (.aload_n 0, 1) := by decide +kernel
theorem dM_name_123 : decode cM_name 123 = .ok (.getfield 22, 3) := by decide +kernel
theorem dM_name_126 : decode cM_name 126 = .ok (.iload_n 3, 1) := by decide +kernel
theorem dM_name_127 : decode cM_name 127 = .ok (.iconst 1, 1) := by decide +kernel
theorem dM_name_128 : decode cM_name 128 = .ok (.iadd, 1) := by decide +kernel
theorem dM_name_129 : decode cM_name 129 = .ok (.iload 4, 2) := by decide +kernel
theorem dM_name_131 : decode cM_name 131 = .ok (.iastore, 1) := by decide +kernel
theorem dM_name_132 : decode cM_name 132 = .ok (.iinc 3 1, 3) := by decide +kernel
theorem dM_name_135 : decode cM_name 135 = .ok (.iload_n 3, 1) := by decide +kernel
theorem dM_name_136 : decode cM_name 136 = .ok (.iload_n 2, 1) := by decide +kernel
theorem dM_name_137 : decode cM_name 137 = .ok (.if_icmp .ge 8, 3) := by decide +kernel
theorem dM_name_140 : decode cM_name 140 = .ok (.aload_n 0, 1) := by decide +kernel
theorem dM_name_141 : decode cM_name 141 = .ok (.iload_n 3, 1) := by decide +kernel
theorem dM_name_142 : decode cM_name 142 = .ok (.invokevirtual 40, 3) := by decide +kernel
theorem dM_name_145 : decode cM_name 145 = .ok (.goto (-90), 3) := by decide +kernel
theorem dM_name_148 : decode cM_name 148 = .ok (.iload_n 3, 1) := by decide +kernel
theorem dM_name_149 : decode cM_name 149 = .ok (.ifCond .ge 7, 3) := by decide +kernel
theorem dM_name_152 : decode cM_name 152 = .ok (.iconst (-1), 1) := by decide +kernel
theorem dM_name_153 : decode cM_name 153 = .ok (.goto 9, 3) := by decide +kernel
theorem dM_name_156 : decode cM_name 156 = .ok (.aload_n 0, 1) := by decide +kernel
theorem dM_name_157 : decode cM_name 157 = .ok (.getfield 22, 3) := by decide +kernel
theorem dM_name_160 : decode cM_name 160 = .ok (.iload_n 2, 1) := by decide +kernel
theorem dM_name_161 : decode cM_name 161 = .ok (.iaload, 1) := by decide +kernel
theorem dM_name_162 : decode cM_name 162 = .ok (.ireturn, 1) := by decide +kernel
theorem dM_begin_0 : decode cM_begin 0 = .ok (.aload_n 0, 1) := by decide +kernel
theorem dM_begin_1 : decode cM_begin 1 = .ok (.getfield 13, 3) := by decide +kernel
theorem dM_begin_4 : decode cM_begin 4 = .ok (.iload_n 1, 1) := by decide +kernel
theorem dM_begin_5 : decode cM_begin 5 = .ok (.iconst 0, 1) := by decide +kernel
theorem dM_begin_6 : decode cM_begin 6 = .ok (.iastore, 1) := by decide +kernel
theorem dM_begin_7 : decode cM_begin 7 = .ok (.aload_n 0, 1) := by decide +kernel
theorem dM_begin_8 : decode cM_begin 8 = .ok (.getfield 16, 3) := by decide +kernel
theorem dM_begin_11 : decode cM_begin 11 = .ok (.iload_n 1, 1) := by decide +kernel
theorem dM_begin_12 : decode cM_begin 12 = .ok (.iconst 0, 1) := by decide +kernel
theorem dM_begin_13 : decode cM_begin 13 = .ok (.iastore, 1) := by decide +kernel
theorem dM_begin_14 : decode cM_begin 14 = .ok (.return_, 1) := by decide +kernel
