theorem dX_shrink_0 : decode cX_shrink 0 = .ok (.aload_n 0, 1) := by decide +kernel
theorem dX_shrink_1 : decode cX_shrink 1 = .ok (.getfield 22, 3) := by decide +kernel
theorem dX_shrink_4 : decode cX_shrink 4 = .ok (.ifCond .gt 13, 3) := by decide +kernel
theorem dX_shrink_7 : decode cX_shrink 7 = .ok (.new 29, 3) := by decide +kernel
theorem dX_shrink_10 : decode cX_shrink 10 = .ok (.dup, 1) := by decide +kernel
theorem dX_shrink_11 : decode cX_shrink 11 = .ok (.ldc 36, 2) := by decide +kernel
theorem dX_shrink_13 : decode cX_shrink 13 = .ok (.invokespecial 33, 3) := by decide +kernel
theorem dX_shrink_16 : decode cX_shrink 16 = .ok (.athrow, 1) := by decide +kernel
theorem dX_shrink_17 : decode cX_shrink 17 = .ok (.aload_n 0, 1) := by decide +kernel
theorem dX_shrink_18 : decode cX_shrink 18 = .ok (.dup, 1) := by decide +kernel
theorem dX_shrink_19 : decode cX_shrink 19 = .ok (.getfield 22, 3) := by decide +kernel
theorem dX_shrink_22 : decode cX_shrink 22 = .ok (.iconst 1, 1) := by decide +kernel
theorem dX_shrink_23 : decode cX_shrink 23 = .ok (.isub, 1) := by decide +kernel
theorem dX_shrink_24 : decode cX_shrink 24 = .ok (.putfield 22, 3) := by decide +kernel
theorem dX_shrink_27 : decode cX_shrink 27 = .ok (.iconst 0, 1) := by decide +kernel
theorem dX_shrink_28 : decode cX_shrink 28 = .ok (.istore_n 1, 1) := by decide +kernel
theorem dX_shrink_29 : decode cX_shrink 29 = .ok (.iload_n 1, 1) := by decide +kernel
theorem dX_shrink_30 : decode cX_shrink 30 = .ok (.aload_n 0, 1) := by decide +kernel
theorem dX_shrink_31 : decode cX_shrink 31 = .ok (.getfield 22, 3) := by decide +kernel
theorem dX_shrink_34 : decode cX_shrink 34 = .ok (.if_icmp .ge 27, 3) := by decide +kernel
theorem dX_shrink_37 : decode cX_shrink 37 = .ok (.aload_n 0, 1) := by decide +kernel
theorem dX_shrink_38 : decode cX_shrink 38 = .ok (.getfield 9, 3) := by decide +kernel
theorem dX_shrink_41 : decode cX_shrink 41 = .ok (.iload_n 1, 1) := by decide +kernel
theorem dX_shrink_42 : decode cX_shrink 42 = .ok (.dup2, 1) := by decide +kernel
theorem dX_shrink_43 : decode cX_shrink 43 = .ok (.iaload, 1) := by decide +kernel
theorem dX_shrink_44 : decode cX_shrink 44 = .ok (.aload_n 0, 1) := by decide +kernel
theorem dX_shrink_45 : decode cX_shrink 45 = .ok (.getfield 22, 3) := by decide +kernel
theorem dX_shrink_48 : decode cX_shrink 48 = .ok (.invokestatic 38, 3) := by decide +kernel
theorem dX_shrink_51 : decode cX_shrink 51 = .ok (.iconst (-1), 1) := by decide +kernel
theorem dX_shrink_52 : decode cX_shrink 52 = .ok (.ixor, 1) := by decide +kernel
theorem dX_shrink_53 : decode cX_shrink 53 = .ok (.iand, 1) := by decide +kernel
theorem dX_shrink_54 : decode cX_shrink 54 = .ok (.iastore, 1) := by decide +kernel
theorem dX_shrink_55 : decode cX_shrink 55 = .ok (.iinc 1 1, 3) := by decide +kernel
theorem dX_shrink_58 : decode cX_shrink 58 = .ok (.goto (-29), 3) := by decide +kernel
theorem dX_shrink_61 : decode cX_shrink 61 = .ok (.return_, 1) := by decide +kernel
theorem dX_join_0 : decode cX_join 0 = .ok (.aload_n 0, 1) := by decide +kernel
theorem dX_join_1 : decode cX_join 1 = .ok (.iload_n 1, 1) := by decide +kernel
theorem dX_join_2 : decode cX_join 2 = .ok (.iload_n 2, 1) := by decide +kernel
theorem dX_join_3 : decode cX_join 3 = .ok (.invokevirtual 42, 3) := by decide +kernel
theorem dX_join_6 : decode cX_join 6 = .ok (.aload_n 0, 1) := by decide +kernel
theorem dX_join_7 : decode cX_join 7 = .ok (.getfield 9, 3) := by decide +kernel
theorem dX_join_10 : decode cX_join 10 = .ok (.iload_n 1, 1) := by decide +kernel
theorem dX_join_11 : decode cX_join 11 = .ok (.iaload, 1) := by decide +kernel
theorem dX_join_12 : decode cX_join 12 = .ok (.iload_n 2, 1) := by decide +kernel
theorem dX_join_13 : decode cX_join 13 = .ok (.invokestatic 46, 3) := by decide +kernel
theorem dX_join_16 : decode cX_join 16 = .ok (.ifCond .ne 7, 3) := by decide +kernel
theorem dX_join_19 : decode cX_join 19 = .ok (.iconst 1, 1) := by decide +kernel
theorem dX_join_20 : decode cX_join 20 = .ok (.goto 4, 3) := by decide +kernel
theorem dX_join_23 : decode cX_join 23 = .ok (.iconst 0, 1) := by decide +kernel
theorem dX_join_24 : decode cX_join 24 = .ok (.istore_n 3, 1) := by decide +kernel
theorem dX_join_25 : decode cX_join 25 = .ok (.aload_n 0, 1) := by decide +kernel
theorem dX_join_26 : decode cX_join 26 = .ok (.getfield 9, 3) := by decide +kernel
theorem dX_join_29 : decode cX_join 29 = .ok (.iload_n 1, 1) := by decide +kernel
theorem dX_join_30 : decode cX_join 30 = .ok (.dup2, 1) := by decide +kernel
theorem dX_join_31 : decode cX_join 31 = .ok (.iaload, 1) := by decide +kernel
theorem dX_join_32 : decode cX_join 32 = .ok (.iload_n 2, 1) := by decide +kernel
theorem dX_join_33 : decode cX_join 33 = .ok (.invokestatic 38, 3) := by decide +kernel
theorem dX_join_36 : decode cX_join 36 = .ok (.ior, 1) := by decide +kernel
theorem dX_join_37 : decode cX_join 37 = .ok (.iastore, 1) := by decide +kernel
theorem dX_join_38 : decode cX_join 38 = .ok (.aload_n 0, 1) := by decide +kernel
theorem dX_join_39 : decode cX_join 39 = .ok (.getfield 9, 3) := by decide +kernel
theorem dX_join_42 : decode cX_join 42 = .ok (.iload_n 2, 1) := by decide +kernel
theorem dX_join_43 : decode cX_join 43 = .ok (.dup2, 1) := by decide +kernel
theorem dX_join_44 : decode cX_join 44 = .ok (.iaload, 1) := by decide +kernel
theorem dX_join_45 : decode cX_join 45 = .ok (.iload_n 1, 1) := by decide +kernel
theorem dX_join_46 : decode cX_join 46 = .ok (.invokestatic 38, 3) := by decide +kernel
theorem dX_join_49 : decode cX_join 49 = .ok (.ior, 1) := by decide +kernel
theorem dX_join_50 : decode cX_join 50 = .ok (.iastore, 1) := by decide +kernel
theorem dX_join_51 : decode cX_join 51 = .ok (.iload_n 3, 1) := by decide +kernel
theorem dX_join_52 : decode cX_join 52 = .ok (.ireturn, 1) := by decide +kernel
theorem dX_checkTwo_0 : decode cX_checkTwo 0 = .ok (.aload_n 0, 1) := by decide +kernel
theorem dX_checkTwo_1 : decode cX_checkTwo 1 = .ok (.iload_n 1, 1) := by decide +kernel
theorem dX_checkTwo_2 : decode cX_checkTwo 2 = .ok (.invokevirtual 50, 3) := by decide +kernel
theorem dX_checkTwo_5 : decode cX_checkTwo 5 = .ok (.aload_n 0, 1) := by decide +kernel
theorem dX_checkTwo_6 : decode cX_checkTwo 6 = .ok (.iload_n 2, 1) := by decide +kernel
theorem dX_checkTwo_7 : decode cX_checkTwo 7 = .ok (.invokevirtual 50, 3) := by decide +kernel
theorem dX_checkTwo_10 : decode cX_checkTwo 10 = .ok (.iload_n 1, 1) := by decide +kernel
theorem dX_checkTwo_11 : decode cX_checkTwo 11 = .ok (.iload_n 2, 1) := by decide +kernel
theorem dX_checkTwo_12 : decode cX_checkTwo 12 = .ok (.if_icmp .ne 13, 3) := by decide +kernel
theorem dX_checkTwo_15 : decode cX_checkTwo 15 = .ok (.new 90, 3) := by decide +kernel
theorem dX_checkTwo_18 : decode cX_checkTwo 18 = .ok (.dup, 1) := by decide +kernel
theorem dX_checkTwo_19 : decode cX_checkTwo 19 = .ok (.ldc 92, 2) := by decide +kernel
theorem dX_checkTwo_21 : decode cX_checkTwo 21 = .ok (.invokespecial 94, 3) := by decide +kernel
theorem dX_checkTwo_24 : decode cX_checkTwo 24 = .ok (.athrow, 1) := by decide +kernel
theorem dX_checkTwo_25 : decode cX_checkTwo 25 = .ok (.return_, 1) := by decide +kernel
theorem dX_checkVertex_0 : decode cX_checkVertex 0 = .ok (.iload_n 1, 1) := by decide +kernel
theorem dX_checkVertex_1 : decode cX_checkVertex 1 = .ok (.ifCond .lt 11, 3) := by decide +kernel
theorem dX_checkVertex_4 : decode cX_checkVertex 4 = .ok (.iload_n 1, 1) := by decide +kernel
theorem dX_checkVertex_5 : decode cX_checkVertex 5 = .ok (.aload_n 0, 1) := by decide +kernel
theorem dX_checkVertex_6 : decode cX_checkVertex 6 = .ok (.getfield 22, 3) := by decide +kernel
theorem dX_checkVertex_9 : decode cX_checkVertex 9 = .ok (.if_icmp .lt 13, 3) := by decide +kernel
theorem dX_checkVertex_12 : decode cX_checkVertex 12 = .ok (.new 95, 3) := by decide +kernel
theorem dX_checkVertex_15 : decode cX_checkVertex 15 = .ok (.dup, 1) := by decide +kernel
theorem dX_checkVertex_16 : decode cX_checkVertex 16 = .ok (.ldc 97, 2) := by decide +kernel
theorem dX_checkVertex_18 : decode cX_checkVertex 18 = .ok (.invokespecial 99, 3) := by decide +kernel
theorem dX_checkVertex_21 : decode cX_checkVertex 21 = .ok (.athrow, 1) := by decide +kernel
theorem dX_checkVertex_22 : decode cX_checkVertex 22 = .ok (.return_, 1) := by decide +kernel
theorem dX_part_0 : decode cX_part 0 = .ok (.aload_n 0, 1) := by decide +kernel
theorem dX_part_1 : decode cX_part 1 = .ok (.iload_n 1, 1) := by decide +kernel
theorem dX_part_2 : decode cX_part 2 = .ok (.iload_n 2, 1) := by decide +kernel
theorem dX_part_3 : decode cX_part 3 = .ok (.invokevirtual 42, 3) := by decide +kernel
theorem dX_part_6 : decode cX_part 6 = .ok (.aload_n 0, 1) := by decide +kernel
theorem dX_part_7 : decode cX_part 7 = .ok (.getfield 9, 3) := by decide +kernel
theorem dX_part_10 : decode cX_part 10 = .ok (.iload_n 1, 1) := by decide +kernel
theorem dX_part_11 : decode cX_part 11 = .ok (.iaload, 1) := by decide +kernel
theorem dX_part_12 : decode cX_part 12 = .ok (.iload_n 2, 1) := by decide +kernel
theorem dX_part_13 : decode cX_part 13 = .ok (.invokestatic 46, 3) := by decide +kernel
theorem dX_part_16 : decode cX_part 16 = .ok (.istore_n 3, 1) := by decide +kernel
theorem dX_part_17 : decode cX_part 17 = .ok (.aload_n 0, 1) := by decide +kernel
theorem dX_part_18 : decode cX_part 18 = .ok (.getfield 9, 3) := by decide +kernel
theorem dX_part_21 : decode cX_part 21 = .ok (.iload_n 1, 1) := by decide +kernel
theorem dX_part_22 : decode cX_part 22 = .ok (.dup2, 1) := by decide +kernel
theorem dX_part_23 : decode cX_part 23 = .ok (.iaload, 1) := by decide +kernel
theorem dX_part_24 : decode cX_part 24 = .ok (.iload_n 2, 1) := by decide +kernel
theorem dX_part_25 : decode cX_part 25 = .ok (.invokestatic 38, 3) := by decide +kernel
theorem dX_part_28 : decode cX_part 28 = .ok (.iconst (-1), 1) := by decide +kernel
theorem dX_part_29 : decode cX_part 29 = .ok (.ixor, 1) := by decide +kernel
theorem dX_part_30 : decode cX_part 30 = .ok (.iand, 1) := by decide +kernel
theorem dX_part_31 : decode cX_part 31 = .ok (.iastore, 1) := by decide +kernel
theorem dX_part_32 : decode cX_part 32 = .ok (.aload_n 0, 1) := by decide +kernel
theorem dX_part_33 : decode cX_part 33 = .ok (.getfield 9, 3) := by decide +kernel
theorem dX_part_36 : decode cX_part 36 = .ok (.iload_n 2, 1) := by decide +kernel
theorem dX_part_37 : decode cX_part 37 = .ok (.dup2, 1) := by decide +kernel
theorem dX_part_38 : decode cX_part 38 = .ok (.iaload, 1) := by decide +kernel
theorem dX_part_39 : decode cX_part 39 = .ok (.iload_n 1, 1) := by decide +kernel
theorem dX_part_40 : decode cX_part 40 = .ok (.invokestatic 38, 3) := by decide +kernel
theorem dX_part_43 : decode cX_part 43 = .ok (.iconst (-1), 1) := by decide +kernel
theorem dX_part_44 : decode cX_part 44 = .ok (.ixor, 1) := by decide +kernel
theorem dX_part_45 : decode cX_part 45 = .ok (.iand, 1) := by decide +kernel
theorem dX_part_46 : decode cX_part 46 = .ok (.iastore, 1) := by decide +kernel
theorem dX_part_47 : decode cX_part 47 = .ok (.iload_n 3, 1) := by decide +kernel
theorem dX_part_48 : decode cX_part 48 = .ok (.ireturn, 1) := by decide +kernel
theorem dX_adjacent_0 : decode cX_adjacent 0 = .ok (.aload_n 0, 1) := by decide +kernel
theorem dX_adjacent_1 : decode cX_adjacent 1 = .ok (.iload_n 1, 1) := by decide +kernel
theorem dX_adjacent_2 : decode cX_adjacent 2 = .ok (.invokevirtual 50, 3) := by decide +kernel
theorem dX_adjacent_5 : decode cX_adjacent 5 = .ok (.aload_n 0, 1) := by decide +kernel
theorem dX_adjacent_6 : decode cX_adjacent 6 = .ok (.iload_n 2, 1) := by decide +kernel
theorem dX_adjacent_7 : decode cX_adjacent 7 = .ok (.invokevirtual 50, 3) := by decide +kernel
theorem dX_adjacent_10 : decode cX_adjacent 10 = .ok (.aload_n 0, 1) := by decide +kernel
theorem dX_adjacent_11 : decode cX_adjacent 11 = .ok (.getfield 9, 3) := by decide +kernel
theorem dX_adjacent_14 : decode cX_adjacent 14 = .ok (.iload_n 1, 1) := by decide +kernel
theorem dX_adjacent_15 : decode cX_adjacent 15 = .ok (.iaload, 1) := by decide +kernel
theorem dX_adjacent_16 : decode cX_adjacent 16 = .ok (.iload_n 2, 1) := by decide +kernel
theorem dX_adjacent_17 : decode cX_adjacent 17 = .ok (.invokestatic 46, 3) := by decide +kernel
theorem dX_adjacent_20 : decode cX_adjacent 20 = .ok (.ireturn, 1) := by decide +kernel
theorem dX_leader_0 : decode cX_leader 0 = .ok (.aload_n 0, 1) := by decide +kernel
theorem dX_leader_1 : decode cX_leader 1 = .ok (.iload_n 1, 1) := by decide +kernel
theorem dX_leader_2 : decode cX_leader 2 = .ok (.invokevirtual 50, 3) := by decide +kernel
theorem dX_leader_5 : decode cX_leader 5 = .ok (.iload_n 1, 1) := by decide +kernel
theorem dX_leader_6 : decode cX_leader 6 = .ok (.invokestatic 38, 3) := by decide +kernel
theorem dX_leader_9 : decode cX_leader 9 = .ok (.istore_n 2, 1) := by decide +kernel
theorem dX_leader_10 : decode cX_leader 10 = .ok (.iconst 1, 1) := by decide +kernel
theorem dX_leader_11 : decode cX_leader 11 = .ok (.istore_n 3, 1) := by decide +kernel
theorem dX_leader_12 : decode cX_leader 12 = .ok (.iload_n 3, 1) := by decide +kernel
theorem dX_leader_13 : decode cX_leader 13 = .ok (.aload_n 0, 1) := by decide +kernel
theorem dX_leader_14 : decode cX_leader 14 = .ok (.getfield 22, 3) := by decide +kernel
theorem dX_leader_17 : decode cX_leader 17 = .ok (.if_icmp .ge 17, 3) := by decide +kernel
theorem dX_leader_20 : decode cX_leader 20 = .ok (.iload_n 2, 1) := by decide +kernel
theorem dX_leader_21 : decode cX_leader 21 = .ok (.aload_n 0, 1) := by decide +kernel
theorem dX_leader_22 : decode cX_leader 22 = .ok (.iload_n 2, 1) := by decide +kernel
theorem dX_leader_23 : decode cX_leader 23 = .ok (.invokevirtual 59, 3) := by decide +kernel
theorem dX_leader_26 : decode cX_leader 26 = .ok (.ior, 1) := by decide +kernel
theorem dX_leader_27 : decode cX_leader 27 = .ok (.istore_n 2, 1) := by decide +kernel
theorem dX_leader_28 : decode cX_leader 28 = .ok (.iinc 3 1, 3) := by decide +kernel
theorem dX_leader_31 : decode cX_leader 31 = .ok (.goto (-19), 3) := by decide +kernel
theorem dX_leader_34 : decode cX_leader 34 = .ok (.iload_n 2, 1) := by decide +kernel
theorem dX_leader_35 : decode cX_leader 35 = .ok (.invokestatic 62, 3) := by decide +kernel
theorem dX_leader_38 : decode cX_leader 38 = .ok (.ireturn, 1) := by decide +kernel
theorem dX_ends_0 : decode cX_ends 0 = .ok (.aload_n 0, 1) := by decide +kernel
theorem dX_ends_1 : decode cX_ends 1 = .ok (.invokevirtual 73, 3) := by decide +kernel
theorem dX_ends_4 : decode cX_ends 4 = .ok (.aload_n 0, 1) := by decide +kernel
theorem dX_ends_5 : decode cX_ends 5 = .ok (.getfield 26, 3) := by decide +kernel
theorem dX_ends_8 : decode cX_ends 8 = .ok (.ireturn, 1) := by decide +kernel
theorem dX_nameAll_0 : decode cX_nameAll 0 = .ok (.aload_n 0, 1) := by decide +kernel
theorem dX_nameAll_1 : decode cX_nameAll 1 = .ok (.aload_n 0, 1) := by decide +kernel
theorem dX_nameAll_2 : decode cX_nameAll 2 = .ok (.invokevirtual 65, 3) := by decide +kernel
theorem dX_nameAll_5 : decode cX_nameAll 5 = .ok (.invokevirtual 69, 3) := by decide +kernel
theorem dX_nameAll_8 : decode cX_nameAll 8 = .ok (.ifCond .ne 13, 3) := by decide +kernel
theorem dX_nameAll_11 : decode cX_nameAll 11 = .ok (.new 29, 3) := by decide +kernel
theorem dX_nameAll_14 : decode cX_nameAll 14 = .ok (.dup, 1) := by decide +kernel
theorem dX_nameAll_15 : decode cX_nameAll 15 = .ok (.ldc 100, 2) := by decide +kernel
theorem dX_nameAll_17 : decode cX_nameAll 17 = .ok (.invokespecial 33, 3) := by decide +kernel
theorem dX_nameAll_20 : decode cX_nameAll 20 = .ok (.athrow, 1) := by decide +kernel
theorem dX_nameAll_21 : decode cX_nameAll 21 = .ok (.return_, 1) := by decide +kernel
theorem dX_low_0 : decode cX_low 0 = .ok (.aload_n 0, 1) := by decide +kernel
theorem dX_low_1 : decode cX_low 1 = .ok (.iload_n 1, 1) := by decide +kernel
theorem dX_low_2 : decode cX_low 2 = .ok (.invokevirtual 50, 3) := by decide +kernel
theorem dX_low_5 : decode cX_low 5 = .ok (.aload_n 0, 1) := by decide +kernel
theorem dX_low_6 : decode cX_low 6 = .ok (.invokevirtual 73, 3) := by decide +kernel
theorem dX_low_9 : decode cX_low 9 = .ok (.aload_n 0, 1) := by decide +kernel
theorem dX_low_10 : decode cX_low 10 = .ok (.getfield 13, 3) := by decide +kernel
theorem dX_low_13 : decode cX_low 13 = .ok (.iload_n 1, 1) := by decide +kernel
theorem dX_low_14 : decode cX_low 14 = .ok (.iaload, 1) := by decide +kernel
theorem dX_low_15 : decode cX_low 15 = .ok (.ireturn, 1) := by decide +kernel
theorem dX_high_0 : decode cX_high 0 = .ok (.aload_n 0, 1) := by decide +kernel
theorem dX_high_1 : decode cX_high 1 = .ok (.iload_n 1, 1) := by decide +kernel
theorem dX_high_2 : decode cX_high 2 = .ok (.invokevirtual 50, 3) := by decide +kernel
theorem dX_high_5 : decode cX_high 5 = .ok (.aload_n 0, 1) := by decide +kernel
theorem dX_high_6 : decode cX_high 6 = .ok (.invokevirtual 73, 3) := by decide +kernel
theorem dX_high_9 : decode cX_high 9 = .ok (.aload_n 0, 1) := by decide +kernel
theorem dX_high_10 : decode cX_high 10 = .ok (.getfield 16, 3) := by decide +kernel
theorem dX_high_13 : decode cX_high 13 = .ok (.iload_n 1, 1) := by decide +kernel
theorem dX_high_14 : decode cX_high 14 = .ok (.iaload, 1) := by decide +kernel
theorem dX_high_15 : decode cX_high 15 = .ok (.ireturn, 1) := by decide +kernel
theorem dX_spoiler_0 : decode cX_spoiler 0 = .ok (.aload_n 0, 1) := by decide +kernel
theorem dX_spoiler_1 : decode cX_spoiler 1 = .ok (.invokevirtual 65, 3) := by decide +kernel
theorem dX_spoiler_4 : decode cX_spoiler 4 = .ok (.istore_n 1, 1) := by decide +kernel
theorem dX_spoiler_5 : decode cX_spoiler 5 = .ok (.aload_n 0, 1) := by decide +kernel
theorem dX_spoiler_6 : decode cX_spoiler 6 = .ok (.iload_n 1, 1) := by decide +kernel
theorem dX_spoiler_7 : decode cX_spoiler 7 = .ok (.invokevirtual 69, 3) := by decide +kernel
theorem dX_spoiler_10 : decode cX_spoiler 10 = .ok (.ifCond .eq 13, 3) := by decide +kernel
theorem dX_spoiler_13 : decode cX_spoiler 13 = .ok (.new 29, 3) := by decide +kernel
theorem dX_spoiler_16 : decode cX_spoiler 16 = .ok (.dup, 1) := by decide +kernel
theorem dX_spoiler_17 : decode cX_spoiler 17 = .ok (.ldc 76, 2) := by decide +kernel
theorem dX_spoiler_19 : decode cX_spoiler 19 = .ok (.invokespecial 33, 3) := by decide +kernel
theorem dX_spoiler_22 : decode cX_spoiler 22 = .ok (.athrow, 1) := by decide +kernel
theorem dX_spoiler_23 : decode cX_spoiler 23 = .ok (.iconst 0, 1) := by decide +kernel
theorem dX_spoiler_24 : decode cX_spoiler 24 = .ok (.istore_n 2, 1) := by decide +kernel
theorem dX_spoiler_25 : decode cX_spoiler 25 = .ok (.iload_n 2, 1) := by decide +kernel
theorem dX_spoiler_26 : decode cX_spoiler 26 = .ok (.aload_n 0, 1) := by decide +kernel
theorem dX_spoiler_27 : decode cX_spoiler 27 = .ok (.getfield 22, 3) := by decide +kernel
theorem dX_spoiler_30 : decode cX_spoiler 30 = .ok (.if_icmp .ge 28, 3) := by decide +kernel
theorem dX_spoiler_33 : decode cX_spoiler 33 = .ok (.iload_n 1, 1) := by decide +kernel
theorem dX_spoiler_34 : decode cX_spoiler 34 = .ok (.iload_n 2, 1) := by decide +kernel
theorem dX_spoiler_35 : decode cX_spoiler 35 = .ok (.invokestatic 38, 3) := by decide +kernel
theorem dX_spoiler_38 : decode cX_spoiler 38 = .ok (.iconst (-1), 1) := by decide +kernel
theorem dX_spoiler_39 : decode cX_spoiler 39 = .ok (.ixor, 1) := by decide +kernel
theorem dX_spoiler_40 : decode cX_spoiler 40 = .ok (.iand, 1) := by decide +kernel
theorem dX_spoiler_41 : decode cX_spoiler 41 = .ok (.istore_n 3, 1) := by decide +kernel
theorem dX_spoiler_42 : decode cX_spoiler 42 = .ok (.aload_n 0, 1) := by decide +kernel
theorem dX_spoiler_43 : decode cX_spoiler 43 = .ok (.iload_n 3, 1) := by decide +kernel
theorem dX_spoiler_44 : decode cX_spoiler 44 = .ok (.invokevirtual 69, 3) := by decide +kernel
theorem dX_spoiler_47 : decode cX_spoiler 47 = .ok (.ifCond .ne 5, 3) := by decide +kernel
theorem dX_spoiler_50 : decode cX_spoiler 50 = .ok (.iload_n 3, 1) := by decide +kernel
theorem dX_spoiler_51 : decode cX_spoiler 51 = .ok (.istore_n 1, 1) := by decide +kernel
theorem dX_spoiler_52 : decode cX_spoiler 52 = .ok (.iinc 2 1, 3) := by decide +kernel
theorem dX_spoiler_55 : decode cX_spoiler 55 = .ok (.goto (-30), 3) := by decide +kernel
theorem dX_spoiler_58 : decode cX_spoiler 58 = .ok (.iload_n 1, 1) := by decide +kernel
theorem dX_spoiler_59 : decode cX_spoiler 59 = .ok (.ireturn, 1) := by decide +kernel
theorem dX_loose_0 : decode cX_loose 0 = .ok (.aload_n 0, 1) := by decide +kernel
theorem dX_loose_1 : decode cX_loose 1 = .ok (.invokevirtual 73, 3) := by decide +kernel
theorem dX_loose_4 : decode cX_loose 4 = .ok (.aload_n 0, 1) := by decide +kernel
theorem dX_loose_5 : decode cX_loose 5 = .ok (.invokevirtual 84, 3) := by decide +kernel
theorem dX_loose_8 : decode cX_loose 8 = .ok (.ireturn, 1) := by decide +kernel
theorem dX_looseEnds_0 : decode cX_looseEnds 0 = .ok (.aload_n 0, 1) := by decide +kernel
theorem dX_looseEnds_1 : decode cX_looseEnds 1 = .ok (.invokevirtual 125, 3) := by decide +kernel
theorem dX_looseEnds_4 : decode cX_looseEnds 4 = .ok (.invokestatic 54, 3) := by decide +kernel
theorem dX_looseEnds_7 : decode cX_looseEnds 7 = .ok (.istore_n 1, 1) := by decide +kernel
theorem dX_looseEnds_8 : decode cX_looseEnds 8 = .ok (.aload_n 0, 1) := by decide +kernel
theorem dX_looseEnds_9 : decode cX_looseEnds 9 = .ok (.getfield 26, 3) := by decide +kernel
theorem dX_looseEnds_12 : decode cX_looseEnds 12 = .ok (.invokestatic 38, 3) := by decide +kernel
theorem dX_looseEnds_15 : decode cX_looseEnds 15 = .ok (.iconst 1, 1) := by decide +kernel
theorem dX_looseEnds_16 : decode cX_looseEnds 16 = .ok (.isub, 1) := by decide +kernel
theorem dX_looseEnds_17 : decode cX_looseEnds 17 = .ok (.istore_n 2, 1) := by decide +kernel
theorem dX_looseEnds_18 : decode cX_looseEnds 18 = .ok (.iconst 0, 1) := by decide +kernel
theorem dX_looseEnds_19 : decode cX_looseEnds 19 = .ok (.istore_n 3, 1) := by decide +kernel
theorem dX_looseEnds_20 : decode cX_looseEnds 20 = .ok (.iconst 0, 1) := by decide +kernel
theorem dX_looseEnds_21 : decode cX_looseEnds 21 = .ok (.istore 4, 2) := by decide +kernel
theorem dX_looseEnds_23 : decode cX_looseEnds 23 = .ok (.iload 4, 2) := by decide +kernel
theorem dX_looseEnds_25 : decode cX_looseEnds 25 = .ok (.aload_n 0, 1) := by decide +kernel
theorem dX_looseEnds_26 : decode cX_looseEnds 26 = .ok (.invokevirtual 65, 3) := by decide +kernel
theorem dX_looseEnds_29 : decode cX_looseEnds 29 = .ok (.if_icmp .gt 40, 3) := by decide +kernel
theorem dX_looseEnds_32 : decode cX_looseEnds 32 = .ok (.iload 4, 2) := by decide +kernel
theorem dX_looseEnds_34 : decode cX_looseEnds 34 = .ok (.invokestatic 54, 3) := by decide +kernel
theorem dX_looseEnds_37 : decode cX_looseEnds 37 = .ok (.iload_n 1, 1) := by decide +kernel
theorem dX_looseEnds_38 : decode cX_looseEnds 38 = .ok (.if_icmp .ne 25, 3) := by decide +kernel
theorem dX_looseEnds_41 : decode cX_looseEnds 41 = .ok (.aload_n 0, 1) := by decide +kernel
theorem dX_looseEnds_42 : decode cX_looseEnds 42 = .ok (.iload 4, 2) := by decide +kernel
theorem dX_looseEnds_44 : decode cX_looseEnds 44 = .ok (.invokevirtual 78, 3) := by decide +kernel
theorem dX_looseEnds_47 : decode cX_looseEnds 47 = .ok (.ifCond .eq 16, 3) := by decide +kernel
theorem dX_looseEnds_50 : decode cX_looseEnds 50 = .ok (.iload_n 3, 1) := by decide +kernel
theorem dX_looseEnds_51 : decode cX_looseEnds 51 = .ok (.iload_n 2, 1) := by decide +kernel
theorem dX_looseEnds_52 : decode cX_looseEnds 52 = .ok (.aload_n 0, 1) := by decide +kernel
theorem dX_looseEnds_53 : decode cX_looseEnds 53 = .ok (.iload 4, 2) := by decide +kernel
theorem dX_looseEnds_55 : decode cX_looseEnds 55 = .ok (.invokevirtual 128, 3) := by decide +kernel
theorem dX_looseEnds_58 : decode cX_looseEnds 58 = .ok (.iconst (-1), 1) := by decide +kernel
theorem dX_looseEnds_59 : decode cX_looseEnds 59 = .ok (.ixor, 1) := by decide +kernel
theorem dX_looseEnds_60 : decode cX_looseEnds 60 = .ok (.iand, 1) := by decide +kernel
theorem dX_looseEnds_61 : decode cX_looseEnds 61 = .ok (.ior, 1) := by decide +kernel
theorem dX_looseEnds_62 : decode cX_looseEnds 62 = .ok (.istore_n 3, 1) := by decide +kernel
theorem dX_looseEnds_63 : decode cX_looseEnds 63 = .ok (.iinc 4 1, 3) := by decide +kernel
theorem dX_looseEnds_66 : decode cX_looseEnds 66 = .ok (.goto (-43), 3) := by decide +kernel
theorem dX_looseEnds_69 : decode cX_looseEnds 69 = .ok (.iload_n 3, 1) := by decide +kernel
theorem dX_looseEnds_70 : decode cX_looseEnds 70 = .ok (.ireturn, 1) := by decide +kernel
theorem dX_endsOf_0 : decode cX_endsOf 0 = .ok (.iconst 0, 1) := by decide +kernel
theorem dX_endsOf_1 : decode cX_endsOf 1 = .ok (.istore_n 2, 1) := by decide +kernel
theorem dX_endsOf_2 : decode cX_endsOf 2 = .ok (.iconst 0, 1) := by decide +kernel
theorem dX_endsOf_3 : decode cX_endsOf 3 = .ok (.istore_n 3, 1) := by decide +kernel
theorem dX_endsOf_4 : decode cX_endsOf 4 = .ok (.iload_n 3, 1) := by decide +kernel
theorem dX_endsOf_5 : decode cX_endsOf 5 = .ok (.aload_n 0, 1) := by decide +kernel
theorem dX_endsOf_6 : decode cX_endsOf 6 = .ok (.getfield 22, 3) := by decide +kernel
theorem dX_endsOf_9 : decode cX_endsOf 9 = .ok (.if_icmp .ge 25, 3) := by decide +kernel
theorem dX_endsOf_12 : decode cX_endsOf 12 = .ok (.iload_n 1, 1) := by decide +kernel
theorem dX_endsOf_13 : decode cX_endsOf 13 = .ok (.iload_n 3, 1) := by decide +kernel
theorem dX_endsOf_14 : decode cX_endsOf 14 = .ok (.invokestatic 46, 3) := by decide +kernel
theorem dX_endsOf_17 : decode cX_endsOf 17 = .ok (.ifCond .eq 11, 3) := by decide +kernel
theorem dX_endsOf_20 : decode cX_endsOf 20 = .ok (.iload_n 2, 1) := by decide +kernel
theorem dX_endsOf_21 : decode cX_endsOf 21 = .ok (.aload_n 0, 1) := by decide +kernel
theorem dX_endsOf_22 : decode cX_endsOf 22 = .ok (.iload_n 3, 1) := by decide +kernel
theorem dX_endsOf_23 : decode cX_endsOf 23 = .ok (.invokevirtual 87, 3) := by decide +kernel
theorem dX_endsOf_26 : decode cX_endsOf 26 = .ok (.ior, 1) := by decide +kernel
theorem dX_endsOf_27 : decode cX_endsOf 27 = .ok (.istore_n 2, 1) := by decide +kernel
theorem dX_endsOf_28 : decode cX_endsOf 28 = .ok (.iinc 3 1, 3) := by decide +kernel
theorem dX_endsOf_31 : decode cX_endsOf 31 = .ok (.goto (-27), 3) := by decide +kernel
theorem dX_endsOf_34 : decode cX_endsOf 34 = .ok (.iload_n 2, 1) := by decide +kernel
theorem dX_endsOf_35 : decode cX_endsOf 35 = .ok (.ireturn, 1) := by decide +kernel
theorem dX_pairOf_0 : decode cX_pairOf 0 = .ok (.aload_n 0, 1) := by decide +kernel
theorem dX_pairOf_1 : decode cX_pairOf 1 = .ok (.getfield 13, 3) := by decide +kernel
theorem dX_pairOf_4 : decode cX_pairOf 4 = .ok (.iload_n 1, 1) := by decide +kernel
theorem dX_pairOf_5 : decode cX_pairOf 5 = .ok (.iaload, 1) := by decide +kernel
theorem dX_pairOf_6 : decode cX_pairOf 6 = .ok (.invokestatic 38, 3) := by decide +kernel
theorem dX_pairOf_9 : decode cX_pairOf 9 = .ok (.aload_n 0, 1) := by decide +kernel
theorem dX_pairOf_10 : decode cX_pairOf 10 = .ok (.getfield 16, 3) := by decide +kernel
theorem dX_pairOf_13 : decode cX_pairOf 13 = .ok (.iload_n 1, 1) := by decide +kernel
theorem dX_pairOf_14 : decode cX_pairOf 14 = .ok (.iaload, 1) := by decide +kernel
theorem dX_pairOf_15 : decode cX_pairOf 15 = .ok (.invokestatic 38, 3) := by decide +kernel
theorem dX_pairOf_18 : decode cX_pairOf 18 = .ok (.ior, 1) := by decide +kernel
theorem dX_pairOf_19 : decode cX_pairOf 19 = .ok (.ireturn, 1) := by decide +kernel
theorem dX_barrier_0 : decode cX_barrier 0 = .ok (.aload_n 0, 1) := by decide +kernel
theorem dX_barrier_1 : decode cX_barrier 1 = .ok (.invokevirtual 73, 3) := by decide +kernel
theorem dX_barrier_4 : decode cX_barrier 4 = .ok (.aload_n 0, 1) := by decide +kernel
theorem dX_barrier_5 : decode cX_barrier 5 = .ok (.invokevirtual 84, 3) := by decide +kernel
theorem dX_barrier_8 : decode cX_barrier 8 = .ok (.istore_n 1, 1) := by decide +kernel
theorem dX_barrier_9 : decode cX_barrier 9 = .ok (.iconst 0, 1) := by decide +kernel
theorem dX_barrier_10 : decode cX_barrier 10 = .ok (.istore_n 2, 1) := by decide +kernel
theorem dX_barrier_11 : decode cX_barrier 11 = .ok (.iconst 0, 1) := by decide +kernel
theorem dX_barrier_12 : decode cX_barrier 12 = .ok (.istore_n 3, 1) := by decide +kernel
theorem dX_barrier_13 : decode cX_barrier 13 = .ok (.iload_n 3, 1) := by decide +kernel
theorem dX_barrier_14 : decode cX_barrier 14 = .ok (.aload_n 0, 1) := by decide +kernel
theorem dX_barrier_15 : decode cX_barrier 15 = .ok (.getfield 22, 3) := by decide +kernel
theorem dX_barrier_18 : decode cX_barrier 18 = .ok (.if_icmp .ge 28, 3) := by decide +kernel
theorem dX_barrier_21 : decode cX_barrier 21 = .ok (.aload_n 0, 1) := by decide +kernel
theorem dX_barrier_22 : decode cX_barrier 22 = .ok (.iload_n 3, 1) := by decide +kernel
theorem dX_barrier_23 : decode cX_barrier 23 = .ok (.invokevirtual 87, 3) := by decide +kernel
theorem dX_barrier_26 : decode cX_barrier 26 = .ok (.istore 4, 2) := by decide +kernel
theorem dX_barrier_28 : decode cX_barrier 28 = .ok (.iload 4, 2) := by decide +kernel
theorem dX_barrier_30 : decode cX_barrier 30 = .ok (.iload_n 1, 1) := by decide +kernel
theorem dX_barrier_31 : decode cX_barrier 31 = .ok (.iand, 1) := by decide +kernel
theorem dX_barrier_32 : decode cX_barrier 32 = .ok (.ifCond .eq 8, 3) := by decide +kernel
theorem dX_barrier_35 : decode cX_barrier 35 = .ok (.iload_n 2, 1) := by decide +kernel
theorem dX_barrier_36 : decode cX_barrier 36 = .ok (.iload 4, 2) := by decide +kernel
theorem dX_barrier_38 : decode cX_barrier 38 = .ok (.ior, 1) := by decide +kernel
theorem dX_barrier_39 : decode cX_barrier 39 = .ok (.istore_n 2, 1) := by decide +kernel
theorem dX_barrier_40 : decode cX_barrier 40 = .ok (.iinc 3 1, 3) := by decide +kernel
theorem dX_barrier_43 : decode cX_barrier 43 = .ok (.goto (-30), 3) := by decide +kernel
theorem dX_barrier_46 : decode cX_barrier 46 = .ok (.iload_n 2, 1) := by decide +kernel
theorem dX_barrier_47 : decode cX_barrier 47 = .ok (.iload_n 1, 1) := by decide +kernel
theorem dX_barrier_48 : decode cX_barrier 48 = .ok (.iconst (-1), 1) := by decide +kernel
theorem dX_barrier_49 : decode cX_barrier 49 = .ok (.ixor, 1) := by decide +kernel
theorem dX_barrier_50 : decode cX_barrier 50 = .ok (.iand, 1) := by decide +kernel
theorem dX_barrier_51 : decode cX_barrier 51 = .ok (.ireturn, 1) := by decide +kernel
