theorem nb_us : ∀ n, n < 32 → (((nI n).toUInt32 &&& Int32.toUInt32 31).toBitVec % 32).toNat = n := by decide +kernel
theorem nv_iushr {p : Program} {l : Launch} {e : Env} {R : Room} {s : State} {m : MethodId} {args : Array Value} {below : List Frame} {meth : Method} {c : Code} {H : Heap} {locs : List Loc} {cells slots : Nat} {Q : State → Prop} {cc : ByteArray} {pc : Nat} {ls : Array Slot} {rest : List Value} (hx : p.tables.exec = Jvm.exec) (hb : c.code = cc) {x y : Nat} (hd : decode cc pc = .ok (.iushr, 1)) (hx2 : x < 2 ^ 32) (h : y < 32) (k : W p l e R s m args below meth c H locs cells slots Q (F0 m (pc + 1) ls (.int (nI (x / 2 ^ y)) :: rest))) : W p l e R s m args below meth c H locs cells slots Q (F0 m pc ls (.int (nI y) :: .int (nI x) :: rest)) :=
  lv_iushr hx hb hd (pk_ushrN hx2 (nI y) y (nb_us y h)) k
def bc1 (x : Int32) : Int32 := x - ((x.toUInt32 >>> ((1 : Int32).toUInt32 &&& Int32.toUInt32 31)).toInt32 &&& 1431655765)
def bc2 (x : Int32) : Int32 := (x &&& 858993459) + ((x.toUInt32 >>> ((2 : Int32).toUInt32 &&& Int32.toUInt32 31)).toInt32 &&& 858993459)
def bc3 (x : Int32) : Int32 := (x + (x.toUInt32 >>> ((4 : Int32).toUInt32 &&& Int32.toUInt32 31)).toInt32) &&& 252645135
def bc4 (x : Int32) : Int32 := x + (x.toUInt32 >>> ((8 : Int32).toUInt32 &&& Int32.toUInt32 31)).toInt32
def bc5 (x : Int32) : Int32 := x + (x.toUInt32 >>> ((16 : Int32).toUInt32 &&& Int32.toUInt32 31)).toInt32
theorem bc_ok : ∀ a, a < 256 → bc5 (bc4 (bc3 (bc2 (bc1 (nI a))))) &&& 63 = nI (pcN a) := by decide +kernel
def nz1 (x : Int32) : Int32 := (x ^^^ (-1)) &&& (x - 1)
theorem nz_ok : ∀ a, a < 256 → a ≠ 0 → nz1 (nI a) = nI (2 ^ tzN a - 1) ∧ tzN a < 8 := by decide +kernel

theorem dI_bitCount_0 : decode cI_bitCount 0 = .ok (.iload_n 0, 1) := by decide +kernel
theorem dI_bitCount_1 : decode cI_bitCount 1 = .ok (.iload_n 0, 1) := by decide +kernel
theorem dI_bitCount_2 : decode cI_bitCount 2 = .ok (.iconst 1, 1) := by decide +kernel
theorem dI_bitCount_3 : decode cI_bitCount 3 = .ok (.iushr, 1) := by decide +kernel
theorem dI_bitCount_4 : decode cI_bitCount 4 = .ok (.ldc_w 265, 3) := by decide +kernel
theorem dI_bitCount_7 : decode cI_bitCount 7 = .ok (.iand, 1) := by decide +kernel
theorem dI_bitCount_8 : decode cI_bitCount 8 = .ok (.isub, 1) := by decide +kernel
theorem dI_bitCount_9 : decode cI_bitCount 9 = .ok (.istore_n 0, 1) := by decide +kernel
theorem dI_bitCount_10 : decode cI_bitCount 10 = .ok (.iload_n 0, 1) := by decide +kernel
theorem dI_bitCount_11 : decode cI_bitCount 11 = .ok (.ldc_w 266, 3) := by decide +kernel
theorem dI_bitCount_14 : decode cI_bitCount 14 = .ok (.iand, 1) := by decide +kernel
theorem dI_bitCount_15 : decode cI_bitCount 15 = .ok (.iload_n 0, 1) := by decide +kernel
theorem dI_bitCount_16 : decode cI_bitCount 16 = .ok (.iconst 2, 1) := by decide +kernel
theorem dI_bitCount_17 : decode cI_bitCount 17 = .ok (.iushr, 1) := by decide +kernel
theorem dI_bitCount_18 : decode cI_bitCount 18 = .ok (.ldc_w 266, 3) := by decide +kernel
theorem dI_bitCount_21 : decode cI_bitCount 21 = .ok (.iand, 1) := by decide +kernel
theorem dI_bitCount_22 : decode cI_bitCount 22 = .ok (.iadd, 1) := by decide +kernel
theorem dI_bitCount_23 : decode cI_bitCount 23 = .ok (.istore_n 0, 1) := by decide +kernel
theorem dI_bitCount_24 : decode cI_bitCount 24 = .ok (.iload_n 0, 1) := by decide +kernel
theorem dI_bitCount_25 : decode cI_bitCount 25 = .ok (.iload_n 0, 1) := by decide +kernel
theorem dI_bitCount_26 : decode cI_bitCount 26 = .ok (.iconst 4, 1) := by decide +kernel
theorem dI_bitCount_27 : decode cI_bitCount 27 = .ok (.iushr, 1) := by decide +kernel
theorem dI_bitCount_28 : decode cI_bitCount 28 = .ok (.iadd, 1) := by decide +kernel
theorem dI_bitCount_29 : decode cI_bitCount 29 = .ok (.ldc_w 267, 3) := by decide +kernel
theorem dI_bitCount_32 : decode cI_bitCount 32 = .ok (.iand, 1) := by decide +kernel
theorem dI_bitCount_33 : decode cI_bitCount 33 = .ok (.istore_n 0, 1) := by decide +kernel
theorem dI_bitCount_34 : decode cI_bitCount 34 = .ok (.iload_n 0, 1) := by decide +kernel
theorem dI_bitCount_35 : decode cI_bitCount 35 = .ok (.iload_n 0, 1) := by decide +kernel
theorem dI_bitCount_36 : decode cI_bitCount 36 = .ok (.bipush 8, 2) := by decide +kernel
theorem dI_bitCount_38 : decode cI_bitCount 38 = .ok (.iushr, 1) := by decide +kernel
theorem dI_bitCount_39 : decode cI_bitCount 39 = .ok (.iadd, 1) := by decide +kernel
theorem dI_bitCount_40 : decode cI_bitCount 40 = .ok (.istore_n 0, 1) := by decide +kernel
theorem dI_bitCount_41 : decode cI_bitCount 41 = .ok (.iload_n 0, 1) := by decide +kernel
theorem dI_bitCount_42 : decode cI_bitCount 42 = .ok (.iload_n 0, 1) := by decide +kernel
theorem dI_bitCount_43 : decode cI_bitCount 43 = .ok (.bipush 16, 2) := by decide +kernel
theorem dI_bitCount_45 : decode cI_bitCount 45 = .ok (.iushr, 1) := by decide +kernel
theorem dI_bitCount_46 : decode cI_bitCount 46 = .ok (.iadd, 1) := by decide +kernel
theorem dI_bitCount_47 : decode cI_bitCount 47 = .ok (.istore_n 0, 1) := by decide +kernel
theorem dI_bitCount_48 : decode cI_bitCount 48 = .ok (.iload_n 0, 1) := by decide +kernel
theorem dI_bitCount_49 : decode cI_bitCount 49 = .ok (.bipush 63, 2) := by decide +kernel
theorem dI_bitCount_51 : decode cI_bitCount 51 = .ok (.iand, 1) := by decide +kernel
theorem dI_bitCount_52 : decode cI_bitCount 52 = .ok (.ireturn, 1) := by decide +kernel
theorem dI_numberOfTrailingZeros_0 : decode cI_numberOfTrailingZeros 0 = .ok (.iload_n 0, 1) := by decide +kernel
theorem dI_numberOfTrailingZeros_1 : decode cI_numberOfTrailingZeros 1 = .ok (.iconst (-1), 1) := by decide +kernel
theorem dI_numberOfTrailingZeros_2 : decode cI_numberOfTrailingZeros 2 = .ok (.ixor, 1) := by decide +kernel
theorem dI_numberOfTrailingZeros_3 : decode cI_numberOfTrailingZeros 3 = .ok (.iload_n 0, 1) := by decide +kernel
theorem dI_numberOfTrailingZeros_4 : decode cI_numberOfTrailingZeros 4 = .ok (.iconst 1, 1) := by decide +kernel
theorem dI_numberOfTrailingZeros_5 : decode cI_numberOfTrailingZeros 5 = .ok (.isub, 1) := by decide +kernel
theorem dI_numberOfTrailingZeros_6 : decode cI_numberOfTrailingZeros 6 = .ok (.iand, 1) := by decide +kernel
theorem dI_numberOfTrailingZeros_7 : decode cI_numberOfTrailingZeros 7 = .ok (.istore_n 0, 1) := by decide +kernel
theorem dI_numberOfTrailingZeros_8 : decode cI_numberOfTrailingZeros 8 = .ok (.iload_n 0, 1) := by decide +kernel
theorem dI_numberOfTrailingZeros_9 : decode cI_numberOfTrailingZeros 9 = .ok (.ifCond .gt 8, 3) := by decide +kernel
theorem dI_numberOfTrailingZeros_12 : decode cI_numberOfTrailingZeros 12 = .ok (.iload_n 0, 1) := by decide +kernel
theorem dI_numberOfTrailingZeros_13 : decode cI_numberOfTrailingZeros 13 = .ok (.bipush 32, 2) := by decide +kernel
theorem dI_numberOfTrailingZeros_15 : decode cI_numberOfTrailingZeros 15 = .ok (.iand, 1) := by decide +kernel
theorem dI_numberOfTrailingZeros_16 : decode cI_numberOfTrailingZeros 16 = .ok (.ireturn, 1) := by decide +kernel
theorem dI_numberOfTrailingZeros_17 : decode cI_numberOfTrailingZeros 17 = .ok (.iconst 1, 1) := by decide +kernel
theorem dI_numberOfTrailingZeros_18 : decode cI_numberOfTrailingZeros 18 = .ok (.istore_n 1, 1) := by decide +kernel
theorem dI_numberOfTrailingZeros_19 : decode cI_numberOfTrailingZeros 19 = .ok (.iload_n 0, 1) := by decide +kernel
theorem dI_numberOfTrailingZeros_20 : decode cI_numberOfTrailingZeros 20 = .ok (.ldc_w 264, 3) := by decide +kernel
theorem dI_numberOfTrailingZeros_23 : decode cI_numberOfTrailingZeros 23 = .ok (.if_icmp .le 11, 3) := by decide +kernel
theorem dI_numberOfTrailingZeros_26 : decode cI_numberOfTrailingZeros 26 = .ok (.iinc 1 16, 3) := by decide +kernel
theorem dI_numberOfTrailingZeros_29 : decode cI_numberOfTrailingZeros 29 = .ok (.iload_n 0, 1) := by decide +kernel
theorem dI_numberOfTrailingZeros_30 : decode cI_numberOfTrailingZeros 30 = .ok (.bipush 16, 2) := by decide +kernel
theorem dI_numberOfTrailingZeros_32 : decode cI_numberOfTrailingZeros 32 = .ok (.iushr, 1) := by decide +kernel
theorem dI_numberOfTrailingZeros_33 : decode cI_numberOfTrailingZeros 33 = .ok (.istore_n 0, 1) := by decide +kernel
theorem dI_numberOfTrailingZeros_34 : decode cI_numberOfTrailingZeros 34 = .ok (.iload_n 0, 1) := by decide +kernel
theorem dI_numberOfTrailingZeros_35 : decode cI_numberOfTrailingZeros 35 = .ok (.sipush 256, 3) := by decide +kernel
theorem dI_numberOfTrailingZeros_38 : decode cI_numberOfTrailingZeros 38 = .ok (.if_icmp .le 11, 3) := by decide +kernel
theorem dI_numberOfTrailingZeros_41 : decode cI_numberOfTrailingZeros 41 = .ok (.iinc 1 8, 3) := by decide +kernel
theorem dI_numberOfTrailingZeros_44 : decode cI_numberOfTrailingZeros 44 = .ok (.iload_n 0, 1) := by decide +kernel
theorem dI_numberOfTrailingZeros_45 : decode cI_numberOfTrailingZeros 45 = .ok (.bipush 8, 2) := by decide +kernel
theorem dI_numberOfTrailingZeros_47 : decode cI_numberOfTrailingZeros 47 = .ok (.iushr, 1) := by decide +kernel
theorem dI_numberOfTrailingZeros_48 : decode cI_numberOfTrailingZeros 48 = .ok (.istore_n 0, 1) := by decide +kernel
theorem dI_numberOfTrailingZeros_49 : decode cI_numberOfTrailingZeros 49 = .ok (.iload_n 0, 1) := by decide +kernel
theorem dI_numberOfTrailingZeros_50 : decode cI_numberOfTrailingZeros 50 = .ok (.bipush 16, 2) := by decide +kernel
theorem dI_numberOfTrailingZeros_52 : decode cI_numberOfTrailingZeros 52 = .ok (.if_icmp .le 10, 3) := by decide +kernel
theorem dI_numberOfTrailingZeros_55 : decode cI_numberOfTrailingZeros 55 = .ok (.iinc 1 4, 3) := by decide +kernel
theorem dI_numberOfTrailingZeros_58 : decode cI_numberOfTrailingZeros 58 = .ok (.iload_n 0, 1) := by decide +kernel
theorem dI_numberOfTrailingZeros_59 : decode cI_numberOfTrailingZeros 59 = .ok (.iconst 4, 1) := by decide +kernel
theorem dI_numberOfTrailingZeros_60 : decode cI_numberOfTrailingZeros 60 = .ok (.iushr, 1) := by decide +kernel
theorem dI_numberOfTrailingZeros_61 : decode cI_numberOfTrailingZeros 61 = .ok (.istore_n 0, 1) := by decide +kernel
theorem dI_numberOfTrailingZeros_62 : decode cI_numberOfTrailingZeros 62 = .ok (.iload_n 0, 1) := by decide +kernel
theorem dI_numberOfTrailingZeros_63 : decode cI_numberOfTrailingZeros 63 = .ok (.iconst 4, 1) := by decide +kernel
theorem dI_numberOfTrailingZeros_64 : decode cI_numberOfTrailingZeros 64 = .ok (.if_icmp .le 10, 3) := by decide +kernel
theorem dI_numberOfTrailingZeros_67 : decode cI_numberOfTrailingZeros 67 = .ok (.iinc 1 2, 3) := by decide +kernel
theorem dI_numberOfTrailingZeros_70 : decode cI_numberOfTrailingZeros 70 = .ok (.iload_n 0, 1) := by decide +kernel
theorem dI_numberOfTrailingZeros_71 : decode cI_numberOfTrailingZeros 71 = .ok (.iconst 2, 1) := by decide +kernel
theorem dI_numberOfTrailingZeros_72 : decode cI_numberOfTrailingZeros 72 = .ok (.iushr, 1) := by decide +kernel
theorem dI_numberOfTrailingZeros_73 : decode cI_numberOfTrailingZeros 73 = .ok (.istore_n 0, 1) := by decide +kernel
theorem dI_numberOfTrailingZeros_74 : decode cI_numberOfTrailingZeros 74 = .ok (.iload_n 1, 1) := by decide +kernel
theorem dI_numberOfTrailingZeros_75 : decode cI_numberOfTrailingZeros 75 = .ok (.iload_n 0, 1) := by decide +kernel
theorem dI_numberOfTrailingZeros_76 : decode cI_numberOfTrailingZeros 76 = .ok (.iconst 1, 1) := by decide +kernel
theorem dI_numberOfTrailingZeros_77 : decode cI_numberOfTrailingZeros 77 = .ok (.iushr, 1) := by decide +kernel
theorem dI_numberOfTrailingZeros_78 : decode cI_numberOfTrailingZeros 78 = .ok (.iadd, 1) := by decide +kernel
theorem dI_numberOfTrailingZeros_79 : decode cI_numberOfTrailingZeros 79 = .ok (.ireturn, 1) := by decide +kernel

set_option maxHeartbeats 4000000 in
set_option maxRecDepth 100000 in
theorem cI_bitCount_c (l : Launch) (a : Nat) (ha : a < 256) : Rd l yI_bitCount (Cond.code yI_bitCount cI_bitCount 1 (some FieldType.int) :: bw) (rmL 1) [.int (nI a)] gT ((nI (pcN a))) := by
  refine Met.ofW (cc := cI_bitCount) (maxL := 1) (ret := (some FieldType.int)) (by decide) rfl ?_
  intro p e s m args below meth c s₁ B9 hml hv
  obtain ⟨rfl, -⟩ := hv
  have hx := B9.exec
  have hb := B9.bytes
  have hr := B9.returns
  have hts := atoms_spec (ws := (Cond.code yI_bitCount cI_bitCount 1 (some FieldType.int) :: bw)) B9.pre
  have hw : ∀ w ∈ bw, w.before _ s = true := fun w h => hts w (List.mem_cons_of_mem _ h)
  have hown : s.vm.findClass RI = some m.cls := findClass_of_methodNamed B9.named
  have hlocks := B9.notSynchronized
  have hl := lv_entry ([.int (nI a)]) (n := 1) (Nat.le_of_ble_eq_true rfl)
  rw [lg_entry_eq]
  generalize (lg_sl ([.int (nI a)]) ++ List.replicate (1 - (lg_sl ([.int (nI a)])).length) Slot.unset).toArray = ls at hl ⊢
  have hl : lv_has ls 1 [(0, .int (nI a))] := hl
  refine lv_iload_n hx hb dI_bitCount_0 rfl (lv_at hl 0 rfl) ?_
  refine lv_iload_n hx hb dI_bitCount_1 rfl (lv_at hl 0 rfl) ?_
  refine lv_iconst (v := 1) hx hb dI_bitCount_2 (by decide) ?_
  refine lv_iushr hx hb dI_bitCount_3 rfl ?_
  refine lv_ldcw (v := 1431655765) hx hb hown (hw _ w1_50) dI_bitCount_4 ?_
  refine lv_iand hx hb dI_bitCount_7 ?_
  refine lv_isub hx hb dI_bitCount_8 ?_
  refine W.eq (g2 := F0 m 9 ls [.int (bc1 (nI a))]) rfl ?_
  refine lv_istore_n hx hb dI_bitCount_9 rfl hl (by decide) (lv' := [(0, .int (bc1 (nI a)))]) rfl (fun ls hl => ?_)
  refine lv_iload_n hx hb dI_bitCount_10 rfl (lv_at hl 0 rfl) ?_
  refine lv_ldcw (v := 858993459) hx hb hown (hw _ w1_51) dI_bitCount_11 ?_
  refine lv_iand hx hb dI_bitCount_14 ?_
  refine lv_iload_n hx hb dI_bitCount_15 rfl (lv_at hl 0 rfl) ?_
  refine lv_iconst (v := 2) hx hb dI_bitCount_16 (by decide) ?_
  refine lv_iushr hx hb dI_bitCount_17 rfl ?_
  refine lv_ldcw (v := 858993459) hx hb hown (hw _ w1_51) dI_bitCount_18 ?_
  refine lv_iand hx hb dI_bitCount_21 ?_
  refine lv_iadd hx hb dI_bitCount_22 ?_
  refine W.eq (g2 := F0 m 23 ls [.int (bc2 (bc1 (nI a)))]) rfl ?_
  refine lv_istore_n hx hb dI_bitCount_23 rfl hl (by decide) (lv' := [(0, .int (bc2 (bc1 (nI a))))]) rfl (fun ls hl => ?_)
  refine lv_iload_n hx hb dI_bitCount_24 rfl (lv_at hl 0 rfl) ?_
  refine lv_iload_n hx hb dI_bitCount_25 rfl (lv_at hl 0 rfl) ?_
  refine lv_iconst (v := 4) hx hb dI_bitCount_26 (by decide) ?_
  refine lv_iushr hx hb dI_bitCount_27 rfl ?_
  refine lv_iadd hx hb dI_bitCount_28 ?_
  refine lv_ldcw (v := 252645135) hx hb hown (hw _ w1_52) dI_bitCount_29 ?_
  refine lv_iand hx hb dI_bitCount_32 ?_
  refine W.eq (g2 := F0 m 33 ls [.int (bc3 (bc2 (bc1 (nI a))))]) rfl ?_
  refine lv_istore_n hx hb dI_bitCount_33 rfl hl (by decide) (lv' := [(0, .int (bc3 (bc2 (bc1 (nI a)))))]) rfl (fun ls hl => ?_)
  refine lv_iload_n hx hb dI_bitCount_34 rfl (lv_at hl 0 rfl) ?_
  refine lv_iload_n hx hb dI_bitCount_35 rfl (lv_at hl 0 rfl) ?_
  refine lv_bipush (v := 8) hx hb dI_bitCount_36 (by decide) ?_
  refine lv_iushr hx hb dI_bitCount_38 rfl ?_
  refine lv_iadd hx hb dI_bitCount_39 ?_
  refine W.eq (g2 := F0 m 40 ls [.int (bc4 (bc3 (bc2 (bc1 (nI a)))))]) rfl ?_
  refine lv_istore_n hx hb dI_bitCount_40 rfl hl (by decide) (lv' := [(0, .int (bc4 (bc3 (bc2 (bc1 (nI a))))))]) rfl (fun ls hl => ?_)
  refine lv_iload_n hx hb dI_bitCount_41 rfl (lv_at hl 0 rfl) ?_
  refine lv_iload_n hx hb dI_bitCount_42 rfl (lv_at hl 0 rfl) ?_
  refine lv_bipush (v := 16) hx hb dI_bitCount_43 (by decide) ?_
  refine lv_iushr hx hb dI_bitCount_45 rfl ?_
  refine lv_iadd hx hb dI_bitCount_46 ?_
  refine W.eq (g2 := F0 m 47 ls [.int (bc5 (bc4 (bc3 (bc2 (bc1 (nI a))))))]) rfl ?_
  refine lv_istore_n hx hb dI_bitCount_47 rfl hl (by decide) (lv' := [(0, .int (bc5 (bc4 (bc3 (bc2 (bc1 (nI a)))))))]) rfl (fun ls hl => ?_)
  refine lv_iload_n hx hb dI_bitCount_48 rfl (lv_at hl 0 rfl) ?_
  refine lv_bipush (v := 63) hx hb dI_bitCount_49 (by decide) ?_
  refine lv_iand hx hb dI_bitCount_51 ?_
  exact W.iret (v := ((bc5 (bc4 (bc3 (bc2 (bc1 (nI a)))))) &&& 63)) hx hb hr (fun t ht hW => ⟨by rw [bc_ok a ha], ht⟩) (fun q h => by cases h) dI_bitCount_52

set_option maxHeartbeats 4000000 in
set_option maxRecDepth 100000 in
theorem cI_numberOfTrailingZeros_c (l : Launch) (a : Nat) (ha : a < 256) (h0 : a ≠ 0) : Rd l yI_numberOfTrailingZeros (Cond.code yI_numberOfTrailingZeros cI_numberOfTrailingZeros 2 (some FieldType.int) :: bw) (rmL 1) [.int (nI a)] gT ((nI (tzN a))) := by
  refine Met.ofW (cc := cI_numberOfTrailingZeros) (maxL := 2) (ret := (some FieldType.int)) (by decide) rfl ?_
  intro p e s m args below meth c s₁ B9 hml hv
  obtain ⟨rfl, -⟩ := hv
  have hx := B9.exec
  have hb := B9.bytes
  have hr := B9.returns
  have hts := atoms_spec (ws := (Cond.code yI_numberOfTrailingZeros cI_numberOfTrailingZeros 2 (some FieldType.int) :: bw)) B9.pre
  have hw : ∀ w ∈ bw, w.before _ s = true := fun w h => hts w (List.mem_cons_of_mem _ h)
  have hown : s.vm.findClass RI = some m.cls := findClass_of_methodNamed B9.named
  have hlocks := B9.notSynchronized
  have hl := lv_entry ([.int (nI a)]) (n := 2) (Nat.le_of_ble_eq_true rfl)
  rw [lg_entry_eq]
  generalize (lg_sl ([.int (nI a)]) ++ List.replicate (2 - (lg_sl ([.int (nI a)])).length) Slot.unset).toArray = ls at hl ⊢
  have hl : lv_has ls 2 [(0, .int (nI a))] := hl
  refine lv_iload_n hx hb dI_numberOfTrailingZeros_0 rfl (lv_at hl 0 rfl) ?_
  refine lv_iconst (v := -1) hx hb dI_numberOfTrailingZeros_1 (by decide) ?_
  refine lv_ixor hx hb dI_numberOfTrailingZeros_2 ?_
  refine lv_iload_n hx hb dI_numberOfTrailingZeros_3 rfl (lv_at hl 0 rfl) ?_
  refine lv_iconst (v := 1) hx hb dI_numberOfTrailingZeros_4 (by decide) ?_
  refine lv_isub hx hb dI_numberOfTrailingZeros_5 ?_
  refine lv_iand hx hb dI_numberOfTrailingZeros_6 ?_
  refine W.eq (g2 := F0 m 7 ls [.int (nz1 (nI a))]) rfl ?_
  obtain ⟨hz, ht⟩ := nz_ok a ha h0
  rw [hz]
  generalize tzN a = t at ht ⊢
  have ht9 : t = 0 ∨ t = 1 ∨ t = 2 ∨ t = 3 ∨ t = 4 ∨ t = 5 ∨ t = 6 ∨ t = 7 := by omega
  rcases ht9 with rfl | rfl | rfl | rfl | rfl | rfl | rfl | rfl
  · refine W.eq (g2 := F0 m 7 ls [.int (nI 0)]) rfl ?_
    refine lv_istore_n hx hb dI_numberOfTrailingZeros_7 rfl hl (by decide) (lv' := [(0, .int (nI 0))]) rfl (fun ls hl => ?_)
    refine lv_iload_n hx hb dI_numberOfTrailingZeros_8 rfl (lv_at hl 0 rfl) ?_
    refine nv_if_gt (x := 0) (tgt := 17) hx hb dI_numberOfTrailingZeros_9 rfl (by omega) (fun hc9 => ?_) (fun hc9 => ?_)
    · exact absurd hc9 (by decide)
    · refine lv_iload_n hx hb dI_numberOfTrailingZeros_12 rfl (lv_at hl 0 rfl) ?_
      refine lv_bipush (v := nI 32) hx hb dI_numberOfTrailingZeros_13 (by decide) ?_
      refine nv_iand (x := 0) (y := 32) hx hb dI_numberOfTrailingZeros_15 ?_
      refine W.eq (g2 := F0 m 16 ls [.int (nI 0)]) rfl ?_
      exact W.iret (v := (nI 0)) hx hb hr (fun t ht hW => ⟨rfl, ht⟩) (fun q h => by cases h) dI_numberOfTrailingZeros_16
  · refine W.eq (g2 := F0 m 7 ls [.int (nI 1)]) rfl ?_
    refine lv_istore_n hx hb dI_numberOfTrailingZeros_7 rfl hl (by decide) (lv' := [(0, .int (nI 1))]) rfl (fun ls hl => ?_)
    refine lv_iload_n hx hb dI_numberOfTrailingZeros_8 rfl (lv_at hl 0 rfl) ?_
    refine nv_if_gt (x := 1) (tgt := 17) hx hb dI_numberOfTrailingZeros_9 rfl (by omega) (fun hc9 => ?_) (fun hc9 => ?_)
    · refine lv_iconst (v := nI 1) hx hb dI_numberOfTrailingZeros_17 (by decide) ?_
      refine lv_istore_n hx hb dI_numberOfTrailingZeros_18 rfl hl (by decide) (lv' := [(1, .int (nI 1)), (0, .int (nI 1))]) rfl (fun ls hl => ?_)
      refine lv_iload_n hx hb dI_numberOfTrailingZeros_19 rfl (lv_at hl 1 rfl) ?_
      refine lv_ldcw (v := 65536) hx hb hown (hw _ w2_30) dI_numberOfTrailingZeros_20 ?_
      refine nv_icmp_le (x := 1) (y := 65536) (tgt := 34) hx hb dI_numberOfTrailingZeros_23 rfl (by omega) (by omega) (fun hc23 => ?_) (fun hc23 => ?_)
      · refine lv_iload_n hx hb dI_numberOfTrailingZeros_34 rfl (lv_at hl 1 rfl) ?_
        refine lv_sipush (v := nI 256) hx hb dI_numberOfTrailingZeros_35 (by decide) ?_
        refine nv_icmp_le (x := 1) (y := 256) (tgt := 49) hx hb dI_numberOfTrailingZeros_38 rfl (by omega) (by omega) (fun hc38 => ?_) (fun hc38 => ?_)
        · refine lv_iload_n hx hb dI_numberOfTrailingZeros_49 rfl (lv_at hl 1 rfl) ?_
          refine lv_bipush (v := nI 16) hx hb dI_numberOfTrailingZeros_50 (by decide) ?_
          refine nv_icmp_le (x := 1) (y := 16) (tgt := 62) hx hb dI_numberOfTrailingZeros_52 rfl (by omega) (by omega) (fun hc52 => ?_) (fun hc52 => ?_)
          · refine lv_iload_n hx hb dI_numberOfTrailingZeros_62 rfl (lv_at hl 1 rfl) ?_
            refine lv_iconst (v := nI 4) hx hb dI_numberOfTrailingZeros_63 (by decide) ?_
            refine nv_icmp_le (x := 1) (y := 4) (tgt := 74) hx hb dI_numberOfTrailingZeros_64 rfl (by omega) (by omega) (fun hc64 => ?_) (fun hc64 => ?_)
            · refine lv_iload_n hx hb dI_numberOfTrailingZeros_74 rfl (lv_at hl 0 rfl) ?_
              refine lv_iload_n hx hb dI_numberOfTrailingZeros_75 rfl (lv_at hl 1 rfl) ?_
              refine lv_iconst (v := nI 1) hx hb dI_numberOfTrailingZeros_76 (by decide) ?_
              refine nv_iushr (x := 1) (y := 1) hx hb dI_numberOfTrailingZeros_77 (by omega) (by omega) ?_
              refine W.eq (g2 := F0 m 78 ls [.int (nI 0), .int (nI 1)]) rfl ?_
              refine nv_iadd (x := 1) (y := 0) hx hb dI_numberOfTrailingZeros_78 ?_
              refine W.eq (g2 := F0 m 79 ls [.int (nI 1)]) rfl ?_
              exact W.iret (v := (nI 1)) hx hb hr (fun t ht hW => ⟨rfl, ht⟩) (fun q h => by cases h) dI_numberOfTrailingZeros_79
            · exact absurd hc64 (by decide)
          · exact absurd hc52 (by decide)
        · exact absurd hc38 (by decide)
      · exact absurd hc23 (by decide)
    · exact absurd hc9 (by decide)
  · refine W.eq (g2 := F0 m 7 ls [.int (nI 3)]) rfl ?_
    refine lv_istore_n hx hb dI_numberOfTrailingZeros_7 rfl hl (by decide) (lv' := [(0, .int (nI 3))]) rfl (fun ls hl => ?_)
    refine lv_iload_n hx hb dI_numberOfTrailingZeros_8 rfl (lv_at hl 0 rfl) ?_
    refine nv_if_gt (x := 3) (tgt := 17) hx hb dI_numberOfTrailingZeros_9 rfl (by omega) (fun hc9 => ?_) (fun hc9 => ?_)
    · refine lv_iconst (v := nI 1) hx hb dI_numberOfTrailingZeros_17 (by decide) ?_
      refine lv_istore_n hx hb dI_numberOfTrailingZeros_18 rfl hl (by decide) (lv' := [(1, .int (nI 1)), (0, .int (nI 3))]) rfl (fun ls hl => ?_)
      refine lv_iload_n hx hb dI_numberOfTrailingZeros_19 rfl (lv_at hl 1 rfl) ?_
      refine lv_ldcw (v := 65536) hx hb hown (hw _ w2_30) dI_numberOfTrailingZeros_20 ?_
      refine nv_icmp_le (x := 3) (y := 65536) (tgt := 34) hx hb dI_numberOfTrailingZeros_23 rfl (by omega) (by omega) (fun hc23 => ?_) (fun hc23 => ?_)
      · refine lv_iload_n hx hb dI_numberOfTrailingZeros_34 rfl (lv_at hl 1 rfl) ?_
        refine lv_sipush (v := nI 256) hx hb dI_numberOfTrailingZeros_35 (by decide) ?_
        refine nv_icmp_le (x := 3) (y := 256) (tgt := 49) hx hb dI_numberOfTrailingZeros_38 rfl (by omega) (by omega) (fun hc38 => ?_) (fun hc38 => ?_)
        · refine lv_iload_n hx hb dI_numberOfTrailingZeros_49 rfl (lv_at hl 1 rfl) ?_
          refine lv_bipush (v := nI 16) hx hb dI_numberOfTrailingZeros_50 (by decide) ?_
          refine nv_icmp_le (x := 3) (y := 16) (tgt := 62) hx hb dI_numberOfTrailingZeros_52 rfl (by omega) (by omega) (fun hc52 => ?_) (fun hc52 => ?_)
          · refine lv_iload_n hx hb dI_numberOfTrailingZeros_62 rfl (lv_at hl 1 rfl) ?_
            refine lv_iconst (v := nI 4) hx hb dI_numberOfTrailingZeros_63 (by decide) ?_
            refine nv_icmp_le (x := 3) (y := 4) (tgt := 74) hx hb dI_numberOfTrailingZeros_64 rfl (by omega) (by omega) (fun hc64 => ?_) (fun hc64 => ?_)
            · refine lv_iload_n hx hb dI_numberOfTrailingZeros_74 rfl (lv_at hl 0 rfl) ?_
              refine lv_iload_n hx hb dI_numberOfTrailingZeros_75 rfl (lv_at hl 1 rfl) ?_
              refine lv_iconst (v := nI 1) hx hb dI_numberOfTrailingZeros_76 (by decide) ?_
              refine nv_iushr (x := 3) (y := 1) hx hb dI_numberOfTrailingZeros_77 (by omega) (by omega) ?_
              refine W.eq (g2 := F0 m 78 ls [.int (nI 1), .int (nI 1)]) rfl ?_
              refine nv_iadd (x := 1) (y := 1) hx hb dI_numberOfTrailingZeros_78 ?_
              refine W.eq (g2 := F0 m 79 ls [.int (nI 2)]) rfl ?_
              exact W.iret (v := (nI 2)) hx hb hr (fun t ht hW => ⟨rfl, ht⟩) (fun q h => by cases h) dI_numberOfTrailingZeros_79
            · exact absurd hc64 (by decide)
          · exact absurd hc52 (by decide)
        · exact absurd hc38 (by decide)
      · exact absurd hc23 (by decide)
    · exact absurd hc9 (by decide)
  · refine W.eq (g2 := F0 m 7 ls [.int (nI 7)]) rfl ?_
    refine lv_istore_n hx hb dI_numberOfTrailingZeros_7 rfl hl (by decide) (lv' := [(0, .int (nI 7))]) rfl (fun ls hl => ?_)
    refine lv_iload_n hx hb dI_numberOfTrailingZeros_8 rfl (lv_at hl 0 rfl) ?_
    refine nv_if_gt (x := 7) (tgt := 17) hx hb dI_numberOfTrailingZeros_9 rfl (by omega) (fun hc9 => ?_) (fun hc9 => ?_)
    · refine lv_iconst (v := nI 1) hx hb dI_numberOfTrailingZeros_17 (by decide) ?_
      refine lv_istore_n hx hb dI_numberOfTrailingZeros_18 rfl hl (by decide) (lv' := [(1, .int (nI 1)), (0, .int (nI 7))]) rfl (fun ls hl => ?_)
      refine lv_iload_n hx hb dI_numberOfTrailingZeros_19 rfl (lv_at hl 1 rfl) ?_
      refine lv_ldcw (v := 65536) hx hb hown (hw _ w2_30) dI_numberOfTrailingZeros_20 ?_
      refine nv_icmp_le (x := 7) (y := 65536) (tgt := 34) hx hb dI_numberOfTrailingZeros_23 rfl (by omega) (by omega) (fun hc23 => ?_) (fun hc23 => ?_)
      · refine lv_iload_n hx hb dI_numberOfTrailingZeros_34 rfl (lv_at hl 1 rfl) ?_
        refine lv_sipush (v := nI 256) hx hb dI_numberOfTrailingZeros_35 (by decide) ?_
        refine nv_icmp_le (x := 7) (y := 256) (tgt := 49) hx hb dI_numberOfTrailingZeros_38 rfl (by omega) (by omega) (fun hc38 => ?_) (fun hc38 => ?_)
        · refine lv_iload_n hx hb dI_numberOfTrailingZeros_49 rfl (lv_at hl 1 rfl) ?_
          refine lv_bipush (v := nI 16) hx hb dI_numberOfTrailingZeros_50 (by decide) ?_
          refine nv_icmp_le (x := 7) (y := 16) (tgt := 62) hx hb dI_numberOfTrailingZeros_52 rfl (by omega) (by omega) (fun hc52 => ?_) (fun hc52 => ?_)
          · refine lv_iload_n hx hb dI_numberOfTrailingZeros_62 rfl (lv_at hl 1 rfl) ?_
            refine lv_iconst (v := nI 4) hx hb dI_numberOfTrailingZeros_63 (by decide) ?_
            refine nv_icmp_le (x := 7) (y := 4) (tgt := 74) hx hb dI_numberOfTrailingZeros_64 rfl (by omega) (by omega) (fun hc64 => ?_) (fun hc64 => ?_)
            · exact absurd hc64 (by decide)
            · refine lv_iinc (k := 0) hx hb dI_numberOfTrailingZeros_67 hl rfl (nI_add _ 2) (by decide) (lv' := [(1, .int (nI 3)), (0, .int (nI 7))]) rfl (fun ls hl => ?_)
              refine lv_iload_n hx hb dI_numberOfTrailingZeros_70 rfl (lv_at hl 1 rfl) ?_
              refine lv_iconst (v := nI 2) hx hb dI_numberOfTrailingZeros_71 (by decide) ?_
              refine nv_iushr (x := 7) (y := 2) hx hb dI_numberOfTrailingZeros_72 (by omega) (by omega) ?_
              refine W.eq (g2 := F0 m 73 ls [.int (nI 1)]) rfl ?_
              refine lv_istore_n hx hb dI_numberOfTrailingZeros_73 rfl hl (by decide) (lv' := [(0, .int (nI 1)), (1, .int (nI 3))]) rfl (fun ls hl => ?_)
              refine lv_iload_n hx hb dI_numberOfTrailingZeros_74 rfl (lv_at hl 1 rfl) ?_
              refine lv_iload_n hx hb dI_numberOfTrailingZeros_75 rfl (lv_at hl 0 rfl) ?_
              refine lv_iconst (v := nI 1) hx hb dI_numberOfTrailingZeros_76 (by decide) ?_
              refine nv_iushr (x := 1) (y := 1) hx hb dI_numberOfTrailingZeros_77 (by omega) (by omega) ?_
              refine W.eq (g2 := F0 m 78 ls [.int (nI 0), .int (nI 3)]) rfl ?_
              refine nv_iadd (x := 3) (y := 0) hx hb dI_numberOfTrailingZeros_78 ?_
              refine W.eq (g2 := F0 m 79 ls [.int (nI 3)]) rfl ?_
              exact W.iret (v := (nI 3)) hx hb hr (fun t ht hW => ⟨rfl, ht⟩) (fun q h => by cases h) dI_numberOfTrailingZeros_79
          · exact absurd hc52 (by decide)
        · exact absurd hc38 (by decide)
      · exact absurd hc23 (by decide)
    · exact absurd hc9 (by decide)
  · refine W.eq (g2 := F0 m 7 ls [.int (nI 15)]) rfl ?_
    refine lv_istore_n hx hb dI_numberOfTrailingZeros_7 rfl hl (by decide) (lv' := [(0, .int (nI 15))]) rfl (fun ls hl => ?_)
    refine lv_iload_n hx hb dI_numberOfTrailingZeros_8 rfl (lv_at hl 0 rfl) ?_
    refine nv_if_gt (x := 15) (tgt := 17) hx hb dI_numberOfTrailingZeros_9 rfl (by omega) (fun hc9 => ?_) (fun hc9 => ?_)
    · refine lv_iconst (v := nI 1) hx hb dI_numberOfTrailingZeros_17 (by decide) ?_
      refine lv_istore_n hx hb dI_numberOfTrailingZeros_18 rfl hl (by decide) (lv' := [(1, .int (nI 1)), (0, .int (nI 15))]) rfl (fun ls hl => ?_)
      refine lv_iload_n hx hb dI_numberOfTrailingZeros_19 rfl (lv_at hl 1 rfl) ?_
      refine lv_ldcw (v := 65536) hx hb hown (hw _ w2_30) dI_numberOfTrailingZeros_20 ?_
      refine nv_icmp_le (x := 15) (y := 65536) (tgt := 34) hx hb dI_numberOfTrailingZeros_23 rfl (by omega) (by omega) (fun hc23 => ?_) (fun hc23 => ?_)
      · refine lv_iload_n hx hb dI_numberOfTrailingZeros_34 rfl (lv_at hl 1 rfl) ?_
        refine lv_sipush (v := nI 256) hx hb dI_numberOfTrailingZeros_35 (by decide) ?_
        refine nv_icmp_le (x := 15) (y := 256) (tgt := 49) hx hb dI_numberOfTrailingZeros_38 rfl (by omega) (by omega) (fun hc38 => ?_) (fun hc38 => ?_)
        · refine lv_iload_n hx hb dI_numberOfTrailingZeros_49 rfl (lv_at hl 1 rfl) ?_
          refine lv_bipush (v := nI 16) hx hb dI_numberOfTrailingZeros_50 (by decide) ?_
          refine nv_icmp_le (x := 15) (y := 16) (tgt := 62) hx hb dI_numberOfTrailingZeros_52 rfl (by omega) (by omega) (fun hc52 => ?_) (fun hc52 => ?_)
          · refine lv_iload_n hx hb dI_numberOfTrailingZeros_62 rfl (lv_at hl 1 rfl) ?_
            refine lv_iconst (v := nI 4) hx hb dI_numberOfTrailingZeros_63 (by decide) ?_
            refine nv_icmp_le (x := 15) (y := 4) (tgt := 74) hx hb dI_numberOfTrailingZeros_64 rfl (by omega) (by omega) (fun hc64 => ?_) (fun hc64 => ?_)
            · exact absurd hc64 (by decide)
            · refine lv_iinc (k := 0) hx hb dI_numberOfTrailingZeros_67 hl rfl (nI_add _ 2) (by decide) (lv' := [(1, .int (nI 3)), (0, .int (nI 15))]) rfl (fun ls hl => ?_)
              refine lv_iload_n hx hb dI_numberOfTrailingZeros_70 rfl (lv_at hl 1 rfl) ?_
              refine lv_iconst (v := nI 2) hx hb dI_numberOfTrailingZeros_71 (by decide) ?_
              refine nv_iushr (x := 15) (y := 2) hx hb dI_numberOfTrailingZeros_72 (by omega) (by omega) ?_
              refine W.eq (g2 := F0 m 73 ls [.int (nI 3)]) rfl ?_
              refine lv_istore_n hx hb dI_numberOfTrailingZeros_73 rfl hl (by decide) (lv' := [(0, .int (nI 3)), (1, .int (nI 3))]) rfl (fun ls hl => ?_)
              refine lv_iload_n hx hb dI_numberOfTrailingZeros_74 rfl (lv_at hl 1 rfl) ?_
              refine lv_iload_n hx hb dI_numberOfTrailingZeros_75 rfl (lv_at hl 0 rfl) ?_
              refine lv_iconst (v := nI 1) hx hb dI_numberOfTrailingZeros_76 (by decide) ?_
              refine nv_iushr (x := 3) (y := 1) hx hb dI_numberOfTrailingZeros_77 (by omega) (by omega) ?_
              refine W.eq (g2 := F0 m 78 ls [.int (nI 1), .int (nI 3)]) rfl ?_
              refine nv_iadd (x := 3) (y := 1) hx hb dI_numberOfTrailingZeros_78 ?_
              refine W.eq (g2 := F0 m 79 ls [.int (nI 4)]) rfl ?_
              exact W.iret (v := (nI 4)) hx hb hr (fun t ht hW => ⟨rfl, ht⟩) (fun q h => by cases h) dI_numberOfTrailingZeros_79
          · exact absurd hc52 (by decide)
        · exact absurd hc38 (by decide)
      · exact absurd hc23 (by decide)
    · exact absurd hc9 (by decide)
  · refine W.eq (g2 := F0 m 7 ls [.int (nI 31)]) rfl ?_
    refine lv_istore_n hx hb dI_numberOfTrailingZeros_7 rfl hl (by decide) (lv' := [(0, .int (nI 31))]) rfl (fun ls hl => ?_)
    refine lv_iload_n hx hb dI_numberOfTrailingZeros_8 rfl (lv_at hl 0 rfl) ?_
    refine nv_if_gt (x := 31) (tgt := 17) hx hb dI_numberOfTrailingZeros_9 rfl (by omega) (fun hc9 => ?_) (fun hc9 => ?_)
    · refine lv_iconst (v := nI 1) hx hb dI_numberOfTrailingZeros_17 (by decide) ?_
      refine lv_istore_n hx hb dI_numberOfTrailingZeros_18 rfl hl (by decide) (lv' := [(1, .int (nI 1)), (0, .int (nI 31))]) rfl (fun ls hl => ?_)
      refine lv_iload_n hx hb dI_numberOfTrailingZeros_19 rfl (lv_at hl 1 rfl) ?_
      refine lv_ldcw (v := 65536) hx hb hown (hw _ w2_30) dI_numberOfTrailingZeros_20 ?_
      refine nv_icmp_le (x := 31) (y := 65536) (tgt := 34) hx hb dI_numberOfTrailingZeros_23 rfl (by omega) (by omega) (fun hc23 => ?_) (fun hc23 => ?_)
      · refine lv_iload_n hx hb dI_numberOfTrailingZeros_34 rfl (lv_at hl 1 rfl) ?_
        refine lv_sipush (v := nI 256) hx hb dI_numberOfTrailingZeros_35 (by decide) ?_
        refine nv_icmp_le (x := 31) (y := 256) (tgt := 49) hx hb dI_numberOfTrailingZeros_38 rfl (by omega) (by omega) (fun hc38 => ?_) (fun hc38 => ?_)
        · refine lv_iload_n hx hb dI_numberOfTrailingZeros_49 rfl (lv_at hl 1 rfl) ?_
          refine lv_bipush (v := nI 16) hx hb dI_numberOfTrailingZeros_50 (by decide) ?_
          refine nv_icmp_le (x := 31) (y := 16) (tgt := 62) hx hb dI_numberOfTrailingZeros_52 rfl (by omega) (by omega) (fun hc52 => ?_) (fun hc52 => ?_)
          · exact absurd hc52 (by decide)
          · refine lv_iinc (k := 0) hx hb dI_numberOfTrailingZeros_55 hl rfl (nI_add _ 4) (by decide) (lv' := [(1, .int (nI 5)), (0, .int (nI 31))]) rfl (fun ls hl => ?_)
            refine lv_iload_n hx hb dI_numberOfTrailingZeros_58 rfl (lv_at hl 1 rfl) ?_
            refine lv_iconst (v := nI 4) hx hb dI_numberOfTrailingZeros_59 (by decide) ?_
            refine nv_iushr (x := 31) (y := 4) hx hb dI_numberOfTrailingZeros_60 (by omega) (by omega) ?_
            refine W.eq (g2 := F0 m 61 ls [.int (nI 1)]) rfl ?_
            refine lv_istore_n hx hb dI_numberOfTrailingZeros_61 rfl hl (by decide) (lv' := [(0, .int (nI 1)), (1, .int (nI 5))]) rfl (fun ls hl => ?_)
            refine lv_iload_n hx hb dI_numberOfTrailingZeros_62 rfl (lv_at hl 0 rfl) ?_
            refine lv_iconst (v := nI 4) hx hb dI_numberOfTrailingZeros_63 (by decide) ?_
            refine nv_icmp_le (x := 1) (y := 4) (tgt := 74) hx hb dI_numberOfTrailingZeros_64 rfl (by omega) (by omega) (fun hc64 => ?_) (fun hc64 => ?_)
            · refine lv_iload_n hx hb dI_numberOfTrailingZeros_74 rfl (lv_at hl 1 rfl) ?_
              refine lv_iload_n hx hb dI_numberOfTrailingZeros_75 rfl (lv_at hl 0 rfl) ?_
              refine lv_iconst (v := nI 1) hx hb dI_numberOfTrailingZeros_76 (by decide) ?_
              refine nv_iushr (x := 1) (y := 1) hx hb dI_numberOfTrailingZeros_77 (by omega) (by omega) ?_
              refine W.eq (g2 := F0 m 78 ls [.int (nI 0), .int (nI 5)]) rfl ?_
              refine nv_iadd (x := 5) (y := 0) hx hb dI_numberOfTrailingZeros_78 ?_
              refine W.eq (g2 := F0 m 79 ls [.int (nI 5)]) rfl ?_
              exact W.iret (v := (nI 5)) hx hb hr (fun t ht hW => ⟨rfl, ht⟩) (fun q h => by cases h) dI_numberOfTrailingZeros_79
            · exact absurd hc64 (by decide)
        · exact absurd hc38 (by decide)
      · exact absurd hc23 (by decide)
    · exact absurd hc9 (by decide)
  · refine W.eq (g2 := F0 m 7 ls [.int (nI 63)]) rfl ?_
    refine lv_istore_n hx hb dI_numberOfTrailingZeros_7 rfl hl (by decide) (lv' := [(0, .int (nI 63))]) rfl (fun ls hl => ?_)
    refine lv_iload_n hx hb dI_numberOfTrailingZeros_8 rfl (lv_at hl 0 rfl) ?_
    refine nv_if_gt (x := 63) (tgt := 17) hx hb dI_numberOfTrailingZeros_9 rfl (by omega) (fun hc9 => ?_) (fun hc9 => ?_)
    · refine lv_iconst (v := nI 1) hx hb dI_numberOfTrailingZeros_17 (by decide) ?_
      refine lv_istore_n hx hb dI_numberOfTrailingZeros_18 rfl hl (by decide) (lv' := [(1, .int (nI 1)), (0, .int (nI 63))]) rfl (fun ls hl => ?_)
      refine lv_iload_n hx hb dI_numberOfTrailingZeros_19 rfl (lv_at hl 1 rfl) ?_
      refine lv_ldcw (v := 65536) hx hb hown (hw _ w2_30) dI_numberOfTrailingZeros_20 ?_
      refine nv_icmp_le (x := 63) (y := 65536) (tgt := 34) hx hb dI_numberOfTrailingZeros_23 rfl (by omega) (by omega) (fun hc23 => ?_) (fun hc23 => ?_)
      · refine lv_iload_n hx hb dI_numberOfTrailingZeros_34 rfl (lv_at hl 1 rfl) ?_
        refine lv_sipush (v := nI 256) hx hb dI_numberOfTrailingZeros_35 (by decide) ?_
        refine nv_icmp_le (x := 63) (y := 256) (tgt := 49) hx hb dI_numberOfTrailingZeros_38 rfl (by omega) (by omega) (fun hc38 => ?_) (fun hc38 => ?_)
        · refine lv_iload_n hx hb dI_numberOfTrailingZeros_49 rfl (lv_at hl 1 rfl) ?_
          refine lv_bipush (v := nI 16) hx hb dI_numberOfTrailingZeros_50 (by decide) ?_
          refine nv_icmp_le (x := 63) (y := 16) (tgt := 62) hx hb dI_numberOfTrailingZeros_52 rfl (by omega) (by omega) (fun hc52 => ?_) (fun hc52 => ?_)
          · exact absurd hc52 (by decide)
          · refine lv_iinc (k := 0) hx hb dI_numberOfTrailingZeros_55 hl rfl (nI_add _ 4) (by decide) (lv' := [(1, .int (nI 5)), (0, .int (nI 63))]) rfl (fun ls hl => ?_)
            refine lv_iload_n hx hb dI_numberOfTrailingZeros_58 rfl (lv_at hl 1 rfl) ?_
            refine lv_iconst (v := nI 4) hx hb dI_numberOfTrailingZeros_59 (by decide) ?_
            refine nv_iushr (x := 63) (y := 4) hx hb dI_numberOfTrailingZeros_60 (by omega) (by omega) ?_
            refine W.eq (g2 := F0 m 61 ls [.int (nI 3)]) rfl ?_
            refine lv_istore_n hx hb dI_numberOfTrailingZeros_61 rfl hl (by decide) (lv' := [(0, .int (nI 3)), (1, .int (nI 5))]) rfl (fun ls hl => ?_)
            refine lv_iload_n hx hb dI_numberOfTrailingZeros_62 rfl (lv_at hl 0 rfl) ?_
            refine lv_iconst (v := nI 4) hx hb dI_numberOfTrailingZeros_63 (by decide) ?_
            refine nv_icmp_le (x := 3) (y := 4) (tgt := 74) hx hb dI_numberOfTrailingZeros_64 rfl (by omega) (by omega) (fun hc64 => ?_) (fun hc64 => ?_)
            · refine lv_iload_n hx hb dI_numberOfTrailingZeros_74 rfl (lv_at hl 1 rfl) ?_
              refine lv_iload_n hx hb dI_numberOfTrailingZeros_75 rfl (lv_at hl 0 rfl) ?_
              refine lv_iconst (v := nI 1) hx hb dI_numberOfTrailingZeros_76 (by decide) ?_
              refine nv_iushr (x := 3) (y := 1) hx hb dI_numberOfTrailingZeros_77 (by omega) (by omega) ?_
              refine W.eq (g2 := F0 m 78 ls [.int (nI 1), .int (nI 5)]) rfl ?_
              refine nv_iadd (x := 5) (y := 1) hx hb dI_numberOfTrailingZeros_78 ?_
              refine W.eq (g2 := F0 m 79 ls [.int (nI 6)]) rfl ?_
              exact W.iret (v := (nI 6)) hx hb hr (fun t ht hW => ⟨rfl, ht⟩) (fun q h => by cases h) dI_numberOfTrailingZeros_79
            · exact absurd hc64 (by decide)
        · exact absurd hc38 (by decide)
      · exact absurd hc23 (by decide)
    · exact absurd hc9 (by decide)
  · refine W.eq (g2 := F0 m 7 ls [.int (nI 127)]) rfl ?_
    refine lv_istore_n hx hb dI_numberOfTrailingZeros_7 rfl hl (by decide) (lv' := [(0, .int (nI 127))]) rfl (fun ls hl => ?_)
    refine lv_iload_n hx hb dI_numberOfTrailingZeros_8 rfl (lv_at hl 0 rfl) ?_
    refine nv_if_gt (x := 127) (tgt := 17) hx hb dI_numberOfTrailingZeros_9 rfl (by omega) (fun hc9 => ?_) (fun hc9 => ?_)
    · refine lv_iconst (v := nI 1) hx hb dI_numberOfTrailingZeros_17 (by decide) ?_
      refine lv_istore_n hx hb dI_numberOfTrailingZeros_18 rfl hl (by decide) (lv' := [(1, .int (nI 1)), (0, .int (nI 127))]) rfl (fun ls hl => ?_)
      refine lv_iload_n hx hb dI_numberOfTrailingZeros_19 rfl (lv_at hl 1 rfl) ?_
      refine lv_ldcw (v := 65536) hx hb hown (hw _ w2_30) dI_numberOfTrailingZeros_20 ?_
      refine nv_icmp_le (x := 127) (y := 65536) (tgt := 34) hx hb dI_numberOfTrailingZeros_23 rfl (by omega) (by omega) (fun hc23 => ?_) (fun hc23 => ?_)
      · refine lv_iload_n hx hb dI_numberOfTrailingZeros_34 rfl (lv_at hl 1 rfl) ?_
        refine lv_sipush (v := nI 256) hx hb dI_numberOfTrailingZeros_35 (by decide) ?_
        refine nv_icmp_le (x := 127) (y := 256) (tgt := 49) hx hb dI_numberOfTrailingZeros_38 rfl (by omega) (by omega) (fun hc38 => ?_) (fun hc38 => ?_)
        · refine lv_iload_n hx hb dI_numberOfTrailingZeros_49 rfl (lv_at hl 1 rfl) ?_
          refine lv_bipush (v := nI 16) hx hb dI_numberOfTrailingZeros_50 (by decide) ?_
          refine nv_icmp_le (x := 127) (y := 16) (tgt := 62) hx hb dI_numberOfTrailingZeros_52 rfl (by omega) (by omega) (fun hc52 => ?_) (fun hc52 => ?_)
          · exact absurd hc52 (by decide)
          · refine lv_iinc (k := 0) hx hb dI_numberOfTrailingZeros_55 hl rfl (nI_add _ 4) (by decide) (lv' := [(1, .int (nI 5)), (0, .int (nI 127))]) rfl (fun ls hl => ?_)
            refine lv_iload_n hx hb dI_numberOfTrailingZeros_58 rfl (lv_at hl 1 rfl) ?_
            refine lv_iconst (v := nI 4) hx hb dI_numberOfTrailingZeros_59 (by decide) ?_
            refine nv_iushr (x := 127) (y := 4) hx hb dI_numberOfTrailingZeros_60 (by omega) (by omega) ?_
            refine W.eq (g2 := F0 m 61 ls [.int (nI 7)]) rfl ?_
            refine lv_istore_n hx hb dI_numberOfTrailingZeros_61 rfl hl (by decide) (lv' := [(0, .int (nI 7)), (1, .int (nI 5))]) rfl (fun ls hl => ?_)
            refine lv_iload_n hx hb dI_numberOfTrailingZeros_62 rfl (lv_at hl 0 rfl) ?_
            refine lv_iconst (v := nI 4) hx hb dI_numberOfTrailingZeros_63 (by decide) ?_
            refine nv_icmp_le (x := 7) (y := 4) (tgt := 74) hx hb dI_numberOfTrailingZeros_64 rfl (by omega) (by omega) (fun hc64 => ?_) (fun hc64 => ?_)
            · exact absurd hc64 (by decide)
            · refine lv_iinc (k := 1) hx hb dI_numberOfTrailingZeros_67 hl rfl (nI_add _ 2) (by decide) (lv' := [(1, .int (nI 7)), (0, .int (nI 7))]) rfl (fun ls hl => ?_)
              refine lv_iload_n hx hb dI_numberOfTrailingZeros_70 rfl (lv_at hl 1 rfl) ?_
              refine lv_iconst (v := nI 2) hx hb dI_numberOfTrailingZeros_71 (by decide) ?_
              refine nv_iushr (x := 7) (y := 2) hx hb dI_numberOfTrailingZeros_72 (by omega) (by omega) ?_
              refine W.eq (g2 := F0 m 73 ls [.int (nI 1)]) rfl ?_
              refine lv_istore_n hx hb dI_numberOfTrailingZeros_73 rfl hl (by decide) (lv' := [(0, .int (nI 1)), (1, .int (nI 7))]) rfl (fun ls hl => ?_)
              refine lv_iload_n hx hb dI_numberOfTrailingZeros_74 rfl (lv_at hl 1 rfl) ?_
              refine lv_iload_n hx hb dI_numberOfTrailingZeros_75 rfl (lv_at hl 0 rfl) ?_
              refine lv_iconst (v := nI 1) hx hb dI_numberOfTrailingZeros_76 (by decide) ?_
              refine nv_iushr (x := 1) (y := 1) hx hb dI_numberOfTrailingZeros_77 (by omega) (by omega) ?_
              refine W.eq (g2 := F0 m 78 ls [.int (nI 0), .int (nI 7)]) rfl ?_
              refine nv_iadd (x := 7) (y := 0) hx hb dI_numberOfTrailingZeros_78 ?_
              refine W.eq (g2 := F0 m 79 ls [.int (nI 7)]) rfl ?_
              exact W.iret (v := (nI 7)) hx hb hr (fun t ht hW => ⟨rfl, ht⟩) (fun q h => by cases h) dI_numberOfTrailingZeros_79
        · exact absurd hc38 (by decide)
      · exact absurd hc23 (by decide)
    · exact absurd hc9 (by decide)
