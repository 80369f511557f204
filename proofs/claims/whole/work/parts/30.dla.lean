abbrev cL_law : ByteArray := code
def yL_law : MethodName := ⟨"PairedEndsLaw", "law", "([I)Z"⟩
theorem dL_grow_0 : decode cL_grow 0 = .ok (.aload_n 1, 1) := by decide +kernel
theorem dL_grow_1 : decode cL_grow 1 = .ok (.iconst 0, 1) := by decide +kernel
theorem dL_grow_2 : decode cL_grow 2 = .ok (.aload_n 0, 1) := by decide +kernel
theorem dL_grow_3 : decode cL_grow 3 = .ok (.invokevirtual 7, 3) := by decide +kernel
theorem dL_grow_6 : decode cL_grow 6 = .ok (.i2l, 1) := by decide +kernel
theorem dL_grow_7 : decode cL_grow 7 = .ok (.lastore, 1) := by decide +kernel
theorem dL_grow_8 : decode cL_grow 8 = .ok (.goto 6, 3) := by decide +kernel
theorem dL_grow_11 : decode cL_grow 11 = .ok (.astore_n 2, 1) := by decide +kernel
theorem dL_grow_12 : decode cL_grow 12 = .ok (.iconst 1, 1) := by decide +kernel
theorem dL_grow_13 : decode cL_grow 13 = .ok (.ireturn, 1) := by decide +kernel
theorem dL_grow_14 : decode cL_grow 14 = .ok (.iconst 0, 1) := by decide +kernel
theorem dL_grow_15 : decode cL_grow 15 = .ok (.ireturn, 1) := by decide +kernel
theorem dL_shrink_0 : decode cL_shrink 0 = .ok (.aload_n 0, 1) := by decide +kernel
theorem dL_shrink_1 : decode cL_shrink 1 = .ok (.invokevirtual 15, 3) := by decide +kernel
theorem dL_shrink_4 : decode cL_shrink 4 = .ok (.goto 6, 3) := by decide +kernel
theorem dL_shrink_7 : decode cL_shrink 7 = .ok (.astore_n 1, 1) := by decide +kernel
theorem dL_shrink_8 : decode cL_shrink 8 = .ok (.iconst 1, 1) := by decide +kernel
theorem dL_shrink_9 : decode cL_shrink 9 = .ok (.ireturn, 1) := by decide +kernel
theorem dL_shrink_10 : decode cL_shrink 10 = .ok (.iconst 0, 1) := by decide +kernel
theorem dL_shrink_11 : decode cL_shrink 11 = .ok (.ireturn, 1) := by decide +kernel
theorem dL_join_0 : decode cL_join 0 = .ok (.aload_n 3, 1) := by decide +kernel
theorem dL_join_1 : decode cL_join 1 = .ok (.iconst 0, 1) := by decide +kernel
theorem dL_join_2 : decode cL_join 2 = .ok (.aload_n 0, 1) := by decide +kernel
theorem dL_join_3 : decode cL_join 3 = .ok (.iload_n 1, 1) := by decide +kernel
theorem dL_join_4 : decode cL_join 4 = .ok (.iload_n 2, 1) := by decide +kernel
theorem dL_join_5 : decode cL_join 5 = .ok (.invokevirtual 18, 3) := by decide +kernel
theorem dL_join_8 : decode cL_join 8 = .ok (.ifCond .eq 7, 3) := by decide +kernel
theorem dL_join_11 : decode cL_join 11 = .ok (.lconst 1, 1) := by decide +kernel
theorem dL_join_12 : decode cL_join 12 = .ok (.goto 4, 3) := by decide +kernel
theorem dL_join_15 : decode cL_join 15 = .ok (.lconst 0, 1) := by decide +kernel
theorem dL_join_16 : decode cL_join 16 = .ok (.lastore, 1) := by decide +kernel
theorem dL_join_17 : decode cL_join 17 = .ok (.goto 11, 3) := by decide +kernel
theorem dL_join_20 : decode cL_join 20 = .ok (.astore 4, 2) := by decide +kernel
theorem dL_join_22 : decode cL_join 22 = .ok (.iconst 1, 1) := by decide +kernel
theorem dL_join_23 : decode cL_join 23 = .ok (.ireturn, 1) := by decide +kernel
theorem dL_join_24 : decode cL_join 24 = .ok (.astore 4, 2) := by decide +kernel
theorem dL_join_26 : decode cL_join 26 = .ok (.iconst 2, 1) := by decide +kernel
theorem dL_join_27 : decode cL_join 27 = .ok (.ireturn, 1) := by decide +kernel
theorem dL_join_28 : decode cL_join 28 = .ok (.iconst 0, 1) := by decide +kernel
theorem dL_join_29 : decode cL_join 29 = .ok (.ireturn, 1) := by decide +kernel
theorem dL_part_0 : decode cL_part 0 = .ok (.aload_n 3, 1) := by decide +kernel
theorem dL_part_1 : decode cL_part 1 = .ok (.iconst 0, 1) := by decide +kernel
theorem dL_part_2 : decode cL_part 2 = .ok (.aload_n 0, 1) := by decide +kernel
theorem dL_part_3 : decode cL_part 3 = .ok (.iload_n 1, 1) := by decide +kernel
theorem dL_part_4 : decode cL_part 4 = .ok (.iload_n 2, 1) := by decide +kernel
theorem dL_part_5 : decode cL_part 5 = .ok (.invokevirtual 26, 3) := by decide +kernel
theorem dL_part_8 : decode cL_part 8 = .ok (.ifCond .eq 7, 3) := by decide +kernel
theorem dL_part_11 : decode cL_part 11 = .ok (.lconst 1, 1) := by decide +kernel
theorem dL_part_12 : decode cL_part 12 = .ok (.goto 4, 3) := by decide +kernel
theorem dL_part_15 : decode cL_part 15 = .ok (.lconst 0, 1) := by decide +kernel
theorem dL_part_16 : decode cL_part 16 = .ok (.lastore, 1) := by decide +kernel
theorem dL_part_17 : decode cL_part 17 = .ok (.goto 11, 3) := by decide +kernel
theorem dL_part_20 : decode cL_part 20 = .ok (.astore 4, 2) := by decide +kernel
theorem dL_part_22 : decode cL_part 22 = .ok (.iconst 1, 1) := by decide +kernel
theorem dL_part_23 : decode cL_part 23 = .ok (.ireturn, 1) := by decide +kernel
theorem dL_part_24 : decode cL_part 24 = .ok (.astore 4, 2) := by decide +kernel
theorem dL_part_26 : decode cL_part 26 = .ok (.iconst 2, 1) := by decide +kernel
theorem dL_part_27 : decode cL_part 27 = .ok (.ireturn, 1) := by decide +kernel
theorem dL_part_28 : decode cL_part 28 = .ok (.iconst 0, 1) := by decide +kernel
theorem dL_part_29 : decode cL_part 29 = .ok (.ireturn, 1) := by decide +kernel
theorem dL_adjacent_0 : decode cL_adjacent 0 = .ok (.aload_n 3, 1) := by decide +kernel
theorem dL_adjacent_1 : decode cL_adjacent 1 = .ok (.iconst 0, 1) := by decide +kernel
theorem dL_adjacent_2 : decode cL_adjacent 2 = .ok (.aload_n 0, 1) := by decide +kernel
theorem dL_adjacent_3 : decode cL_adjacent 3 = .ok (.iload_n 1, 1) := by decide +kernel
theorem dL_adjacent_4 : decode cL_adjacent 4 = .ok (.iload_n 2, 1) := by decide +kernel
theorem dL_adjacent_5 : decode cL_adjacent 5 = .ok (.invokevirtual 29, 3) := by decide +kernel
theorem dL_adjacent_8 : decode cL_adjacent 8 = .ok (.ifCond .eq 7, 3) := by decide +kernel
theorem dL_adjacent_11 : decode cL_adjacent 11 = .ok (.lconst 1, 1) := by decide +kernel
theorem dL_adjacent_12 : decode cL_adjacent 12 = .ok (.goto 4, 3) := by decide +kernel
theorem dL_adjacent_15 : decode cL_adjacent 15 = .ok (.lconst 0, 1) := by decide +kernel
theorem dL_adjacent_16 : decode cL_adjacent 16 = .ok (.lastore, 1) := by decide +kernel
theorem dL_adjacent_17 : decode cL_adjacent 17 = .ok (.goto 7, 3) := by decide +kernel
theorem dL_adjacent_20 : decode cL_adjacent 20 = .ok (.astore 4, 2) := by decide +kernel
theorem dL_adjacent_22 : decode cL_adjacent 22 = .ok (.iconst 1, 1) := by decide +kernel
theorem dL_adjacent_23 : decode cL_adjacent 23 = .ok (.ireturn, 1) := by decide +kernel
theorem dL_adjacent_24 : decode cL_adjacent 24 = .ok (.iconst 0, 1) := by decide +kernel
theorem dL_adjacent_25 : decode cL_adjacent 25 = .ok (.ireturn, 1) := by decide +kernel
theorem dL_leader_0 : decode cL_leader 0 = .ok (.aload_n 2, 1) := by decide +kernel
theorem dL_leader_1 : decode cL_leader 1 = .ok (.iconst 0, 1) := by decide +kernel
theorem dL_leader_2 : decode cL_leader 2 = .ok (.aload_n 0, 1) := by decide +kernel
theorem dL_leader_3 : decode cL_leader 3 = .ok (.iload_n 1, 1) := by decide +kernel
theorem dL_leader_4 : decode cL_leader 4 = .ok (.invokevirtual 32, 3) := by decide +kernel
theorem dL_leader_7 : decode cL_leader 7 = .ok (.i2l, 1) := by decide +kernel
theorem dL_leader_8 : decode cL_leader 8 = .ok (.lastore, 1) := by decide +kernel
theorem dL_leader_9 : decode cL_leader 9 = .ok (.goto 6, 3) := by decide +kernel
theorem dL_leader_12 : decode cL_leader 12 = .ok (.astore_n 3, 1) := by decide +kernel
theorem dL_leader_13 : decode cL_leader 13 = .ok (.iconst 1, 1) := by decide +kernel
theorem dL_leader_14 : decode cL_leader 14 = .ok (.ireturn, 1) := by decide +kernel
theorem dL_leader_15 : decode cL_leader 15 = .ok (.iconst 0, 1) := by decide +kernel
theorem dL_leader_16 : decode cL_leader 16 = .ok (.ireturn, 1) := by decide +kernel
theorem dL_ends_0 : decode cL_ends 0 = .ok (.aload_n 1, 1) := by decide +kernel
theorem dL_ends_1 : decode cL_ends 1 = .ok (.iconst 0, 1) := by decide +kernel
theorem dL_ends_2 : decode cL_ends 2 = .ok (.aload_n 0, 1) := by decide +kernel
theorem dL_ends_3 : decode cL_ends 3 = .ok (.invokevirtual 36, 3) := by decide +kernel
theorem dL_ends_6 : decode cL_ends 6 = .ok (.i2l, 1) := by decide +kernel
theorem dL_ends_7 : decode cL_ends 7 = .ok (.lastore, 1) := by decide +kernel
theorem dL_ends_8 : decode cL_ends 8 = .ok (.goto 6, 3) := by decide +kernel
theorem dL_ends_11 : decode cL_ends 11 = .ok (.astore_n 2, 1) := by decide +kernel
theorem dL_ends_12 : decode cL_ends 12 = .ok (.iconst 1, 1) := by decide +kernel
theorem dL_ends_13 : decode cL_ends 13 = .ok (.ireturn, 1) := by decide +kernel
theorem dL_ends_14 : decode cL_ends 14 = .ok (.iconst 0, 1) := by decide +kernel
theorem dL_ends_15 : decode cL_ends 15 = .ok (.ireturn, 1) := by decide +kernel
theorem dL_low_0 : decode cL_low 0 = .ok (.aload_n 2, 1) := by decide +kernel
theorem dL_low_1 : decode cL_low 1 = .ok (.iconst 0, 1) := by decide +kernel
theorem dL_low_2 : decode cL_low 2 = .ok (.aload_n 0, 1) := by decide +kernel
theorem dL_low_3 : decode cL_low 3 = .ok (.iload_n 1, 1) := by decide +kernel
theorem dL_low_4 : decode cL_low 4 = .ok (.invokevirtual 39, 3) := by decide +kernel
theorem dL_low_7 : decode cL_low 7 = .ok (.i2l, 1) := by decide +kernel
theorem dL_low_8 : decode cL_low 8 = .ok (.lastore, 1) := by decide +kernel
theorem dL_low_9 : decode cL_low 9 = .ok (.goto 9, 3) := by decide +kernel
theorem dL_low_12 : decode cL_low 12 = .ok (.astore_n 3, 1) := by decide +kernel
theorem dL_low_13 : decode cL_low 13 = .ok (.iconst 1, 1) := by decide +kernel
theorem dL_low_14 : decode cL_low 14 = .ok (.ireturn, 1) := by decide +kernel
theorem dL_low_15 : decode cL_low 15 = .ok (.astore_n 3, 1) := by decide +kernel
theorem dL_low_16 : decode cL_low 16 = .ok (.iconst 2, 1) := by decide +kernel
theorem dL_low_17 : decode cL_low 17 = .ok (.ireturn, 1) := by decide +kernel
theorem dL_low_18 : decode cL_low 18 = .ok (.iconst 0, 1) := by decide +kernel
theorem dL_low_19 : decode cL_low 19 = .ok (.ireturn, 1) := by decide +kernel
theorem dL_high_0 : decode cL_high 0 = .ok (.aload_n 2, 1) := by decide +kernel
theorem dL_high_1 : decode cL_high 1 = .ok (.iconst 0, 1) := by decide +kernel
theorem dL_high_2 : decode cL_high 2 = .ok (.aload_n 0, 1) := by decide +kernel
theorem dL_high_3 : decode cL_high 3 = .ok (.iload_n 1, 1) := by decide +kernel
theorem dL_high_4 : decode cL_high 4 = .ok (.invokevirtual 42, 3) := by decide +kernel
theorem dL_high_7 : decode cL_high 7 = .ok (.i2l, 1) := by decide +kernel
theorem dL_high_8 : decode cL_high 8 = .ok (.lastore, 1) := by decide +kernel
theorem dL_high_9 : decode cL_high 9 = .ok (.goto 9, 3) := by decide +kernel
theorem dL_high_12 : decode cL_high 12 = .ok (.astore_n 3, 1) := by decide +kernel
theorem dL_high_13 : decode cL_high 13 = .ok (.iconst 1, 1) := by decide +kernel
theorem dL_high_14 : decode cL_high 14 = .ok (.ireturn, 1) := by decide +kernel
theorem dL_high_15 : decode cL_high 15 = .ok (.astore_n 3, 1) := by decide +kernel
theorem dL_high_16 : decode cL_high 16 = .ok (.iconst 2, 1) := by decide +kernel
theorem dL_high_17 : decode cL_high 17 = .ok (.ireturn, 1) := by decide +kernel
theorem dL_high_18 : decode cL_high 18 = .ok (.iconst 0, 1) := by decide +kernel
theorem dL_high_19 : decode cL_high 19 = .ok (.ireturn, 1) := by decide +kernel
theorem dL_spoiler_0 : decode cL_spoiler 0 = .ok (.aload_n 1, 1) := by decide +kernel
theorem dL_spoiler_1 : decode cL_spoiler 1 = .ok (.iconst 0, 1) := by decide +kernel
theorem dL_spoiler_2 : decode cL_spoiler 2 = .ok (.aload_n 0, 1) := by decide +kernel
theorem dL_spoiler_3 : decode cL_spoiler 3 = .ok (.invokevirtual 45, 3) := by decide +kernel
theorem dL_spoiler_6 : decode cL_spoiler 6 = .ok (.i2l, 1) := by decide +kernel
theorem dL_spoiler_7 : decode cL_spoiler 7 = .ok (.lastore, 1) := by decide +kernel
theorem dL_spoiler_8 : decode cL_spoiler 8 = .ok (.goto 6, 3) := by decide +kernel
theorem dL_spoiler_11 : decode cL_spoiler 11 = .ok (.astore_n 2, 1) := by decide +kernel
theorem dL_spoiler_12 : decode cL_spoiler 12 = .ok (.iconst 1, 1) := by decide +kernel
theorem dL_spoiler_13 : decode cL_spoiler 13 = .ok (.ireturn, 1) := by decide +kernel
theorem dL_spoiler_14 : decode cL_spoiler 14 = .ok (.iconst 0, 1) := by decide +kernel
theorem dL_spoiler_15 : decode cL_spoiler 15 = .ok (.ireturn, 1) := by decide +kernel
theorem dL_loose_0 : decode cL_loose 0 = .ok (.aload_n 1, 1) := by decide +kernel
theorem dL_loose_1 : decode cL_loose 1 = .ok (.iconst 0, 1) := by decide +kernel
theorem dL_loose_2 : decode cL_loose 2 = .ok (.aload_n 0, 1) := by decide +kernel
theorem dL_loose_3 : decode cL_loose 3 = .ok (.invokevirtual 48, 3) := by decide +kernel
theorem dL_loose_6 : decode cL_loose 6 = .ok (.i2l, 1) := by decide +kernel
theorem dL_loose_7 : decode cL_loose 7 = .ok (.lastore, 1) := by decide +kernel
theorem dL_loose_8 : decode cL_loose 8 = .ok (.goto 6, 3) := by decide +kernel
theorem dL_loose_11 : decode cL_loose 11 = .ok (.astore_n 2, 1) := by decide +kernel
theorem dL_loose_12 : decode cL_loose 12 = .ok (.iconst 1, 1) := by decide +kernel
theorem dL_loose_13 : decode cL_loose 13 = .ok (.ireturn, 1) := by decide +kernel
theorem dL_loose_14 : decode cL_loose 14 = .ok (.iconst 0, 1) := by decide +kernel
theorem dL_loose_15 : decode cL_loose 15 = .ok (.ireturn, 1) := by decide +kernel
theorem dL_barrier_0 : decode cL_barrier 0 = .ok (.aload_n 1, 1) := by decide +kernel
theorem dL_barrier_1 : decode cL_barrier 1 = .ok (.iconst 0, 1) := by decide +kernel
theorem dL_barrier_2 : decode cL_barrier 2 = .ok (.aload_n 0, 1) := by decide +kernel
theorem dL_barrier_3 : decode cL_barrier 3 = .ok (.invokevirtual 51, 3) := by decide +kernel
theorem dL_barrier_6 : decode cL_barrier 6 = .ok (.i2l, 1) := by decide +kernel
theorem dL_barrier_7 : decode cL_barrier 7 = .ok (.lastore, 1) := by decide +kernel
theorem dL_barrier_8 : decode cL_barrier 8 = .ok (.goto 6, 3) := by decide +kernel
theorem dL_barrier_11 : decode cL_barrier 11 = .ok (.astore_n 2, 1) := by decide +kernel
theorem dL_barrier_12 : decode cL_barrier 12 = .ok (.iconst 1, 1) := by decide +kernel
theorem dL_barrier_13 : decode cL_barrier 13 = .ok (.ireturn, 1) := by decide +kernel
theorem dL_barrier_14 : decode cL_barrier 14 = .ok (.iconst 0, 1) := by decide +kernel
theorem dL_barrier_15 : decode cL_barrier 15 = .ok (.ireturn, 1) := by decide +kernel
