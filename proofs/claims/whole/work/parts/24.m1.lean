set_option maxHeartbeats 4000000 in
set_option maxRecDepth 100000 in
theorem cM_thrown_c (l : Launch) (D : va_G) (A : Nat → Prop) (g0 b1 b2 b3 b4 b5 : Nat) (cA : ClassId) (n ft : Nat) (ed lw hg od ud : Nat → Nat)   : Rd l yM_thrown (Cond.code yM_thrown cM_thrown 1 (some FieldType.int) :: bw) (rmL 1) [.ref g0] (gB D vwCl [(g0, .inr (1, [.int (nI n), .ref b1, .int (nI ft), .ref b2, .ref b3, .ref b4, .ref b5])), (b1, .inl (cA, 64, .inl (fun j => nI (ed j)))), (b2, .inl (cA, 8, .inl (fun j => nI (lw j)))), (b3, .inl (cA, 8, .inl (fun j => nI (hg j)))), (b4, .inl (cA, 8, .inl (fun j => nI (od j)))), (b5, .inl (cA, 9, .inl (fun j => nI (ud j))))] [(cA, .int)]) ((nI ft)) := by
  refine Met.ofW (cc := cM_thrown) (maxL := 1) (ret := (some FieldType.int)) (by decide) rfl ?_
  intro p e s m args below meth c s₁ B9 hml hv
  obtain ⟨rfl, hP, hK⟩ := hv
  have hx := B9.exec
  have hb := B9.bytes
  have hr := B9.returns
  have hts := atoms_spec (ws := (Cond.code yM_thrown cM_thrown 1 (some FieldType.int) :: bw)) B9.pre
  have hw : ∀ w ∈ bw, w.before _ s = true := fun w h => hts w (List.mem_cons_of_mem _ h)
  have hown : s.vm.findClass RM = some m.cls := findClass_of_methodNamed B9.named
  have hlocks := B9.notSynchronized
  have hl := lv_entry ([.ref g0]) (n := 1) (Nat.le_of_ble_eq_true rfl)
  rw [lg_entry_eq]
  generalize (lg_sl ([.ref g0]) ++ List.replicate (1 - (lg_sl ([.ref g0])).length) Slot.unset).toArray = ls at hl ⊢
  have hl : lv_has ls 1 [(0, .ref g0)] := hl
  refine lv_aload_n hx hb dM_thrown_0 rfl (lv_at hl 0 rfl) ?_
  refine va_get (D := D) (ci := 1) (v := .int (nI ft)) (C := RM) (T := TM) (N := 7) hx hb hw uM hown hK hP 0 rfl rfl 2 (by decide) (hw _ w2_100) (fun _ h9 => h9) rfl dM_thrown_1 ?_
  exact W.iret (v := (nI ft)) hx hb hr (fun t ht hW => ⟨rfl, ht⟩) (fun q h => by cases h) dM_thrown_4

set_option maxHeartbeats 4000000 in
set_option maxRecDepth 100000 in
theorem cM_all_c (l : Launch) (D : va_G) (A : Nat → Prop) (g0 b1 b2 b3 b4 b5 : Nat) (cA : ClassId) (n ft : Nat) (ed lw hg od ud : Nat → Nat)  (hn : n ≤ 8) : Rd l yM_all (Cond.code yM_all cM_all 1 (some FieldType.int) :: bw) (rmL 1) [.ref g0] (gB D vwCl [(g0, .inr (1, [.int (nI n), .ref b1, .int (nI ft), .ref b2, .ref b3, .ref b4, .ref b5])), (b1, .inl (cA, 64, .inl (fun j => nI (ed j)))), (b2, .inl (cA, 8, .inl (fun j => nI (lw j)))), (b3, .inl (cA, 8, .inl (fun j => nI (hg j)))), (b4, .inl (cA, 8, .inl (fun j => nI (od j)))), (b5, .inl (cA, 9, .inl (fun j => nI (ud j))))] [(cA, .int)]) ((nI (2 ^ n - 1))) := by
  refine Met.ofW (cc := cM_all) (maxL := 1) (ret := (some FieldType.int)) (by decide) rfl ?_
  intro p e s m args below meth c s₁ B9 hml hv
  obtain ⟨rfl, hP, hK⟩ := hv
  have hx := B9.exec
  have hb := B9.bytes
  have hr := B9.returns
  have hts := atoms_spec (ws := (Cond.code yM_all cM_all 1 (some FieldType.int) :: bw)) B9.pre
  have hw : ∀ w ∈ bw, w.before _ s = true := fun w h => hts w (List.mem_cons_of_mem _ h)
  have hown : s.vm.findClass RM = some m.cls := findClass_of_methodNamed B9.named
  have hlocks := B9.notSynchronized
  have hl := lv_entry ([.ref g0]) (n := 1) (Nat.le_of_ble_eq_true rfl)
  rw [lg_entry_eq]
  generalize (lg_sl ([.ref g0]) ++ List.replicate (1 - (lg_sl ([.ref g0])).length) Slot.unset).toArray = ls at hl ⊢
  have hl : lv_has ls 1 [(0, .ref g0)] := hl
  refine lv_iconst (v := nI 1) hx hb dM_all_0 (by decide) ?_
  refine lv_aload_n hx hb dM_all_1 rfl (lv_at hl 0 rfl) ?_
  refine va_get (D := D) (ci := 1) (v := .int (nI n)) (C := RM) (T := TM) (N := 7) hx hb hw uM hown hK hP 0 rfl rfl 0 (by decide) (hw _ w2_98) (fun _ h9 => h9) rfl dM_all_2 ?_
  refine nv_ishl (y := n) hx hb dM_all_5 (by omega) ?_
  refine lv_iconst (v := nI 1) hx hb dM_all_6 (by decide) ?_
  have hq8 := Nat.two_pow_pos n
  refine nv_isub (x := 2 ^ n) (y := 1) hx hb dM_all_7 (by omega) ?_
  exact W.iret (v := (nI ((2 ^ n) - 1))) hx hb hr (fun t ht hW => ⟨rfl, ht⟩) (fun q h => by cases h) dM_all_8

set_option maxHeartbeats 4000000 in
set_option maxRecDepth 100000 in
theorem cM_is_y (l : Launch) (D : va_G) (A : Nat → Prop) (g0 b1 b2 b3 b4 b5 : Nat) (cA : ClassId) (n ft : Nat) (ed lw hg od ud : Nat → Nat) (v : Nat) (hn : n ≤ 8) (hv : v < n) : Rd l yM_is (Cond.code yM_is cM_is 2 (some FieldType.boolean) :: bw) (rmL 1) [.ref g0, .int (nI v)] (gB D vwCl [(g0, .inr (1, [.int (nI n), .ref b1, .int (nI ft), .ref b2, .ref b3, .ref b4, .ref b5])), (b1, .inl (cA, 64, .inl (fun j => nI (ed j)))), (b2, .inl (cA, 8, .inl (fun j => nI (lw j)))), (b3, .inl (cA, 8, .inl (fun j => nI (hg j)))), (b4, .inl (cA, 8, .inl (fun j => nI (od j)))), (b5, .inl (cA, 9, .inl (fun j => nI (ud j))))] [(cA, .int)]) ((bI true)) := by
  refine Met.ofW (cc := cM_is) (maxL := 2) (ret := (some FieldType.boolean)) (by decide) rfl ?_
  intro p e s m args below meth c s₁ B9 hml hv
  obtain ⟨rfl, hP, hK⟩ := hv
  have hx := B9.exec
  have hb := B9.bytes
  have hr := B9.returns
  have hts := atoms_spec (ws := (Cond.code yM_is cM_is 2 (some FieldType.boolean) :: bw)) B9.pre
  have hw : ∀ w ∈ bw, w.before _ s = true := fun w h => hts w (List.mem_cons_of_mem _ h)
  have hown : s.vm.findClass RM = some m.cls := findClass_of_methodNamed B9.named
  have hlocks := B9.notSynchronized
  have hl := lv_entry ([.ref g0, .int (nI v)]) (n := 2) (Nat.le_of_ble_eq_true rfl)
  rw [lg_entry_eq]
  generalize (lg_sl ([.ref g0, .int (nI v)]) ++ List.replicate (2 - (lg_sl ([.ref g0, .int (nI v)])).length) Slot.unset).toArray = ls at hl ⊢
  have hl : lv_has ls 2 [(0, .ref g0), (1, .int (nI v))] := hl
  refine lv_iload_n hx hb dM_is_0 rfl (lv_at hl 1 rfl) ?_
  refine nv_if_lt (x := v) (tgt := 16) hx hb dM_is_1 rfl (by omega) ?_
  refine lv_iload_n hx hb dM_is_4 rfl (lv_at hl 1 rfl) ?_
  refine lv_aload_n hx hb dM_is_5 rfl (lv_at hl 0 rfl) ?_
  refine va_get (D := D) (ci := 1) (v := .int (nI n)) (C := RM) (T := TM) (N := 7) hx hb hw uM hown hK hP 0 rfl rfl 0 (by decide) (hw _ w2_98) (fun _ h9 => h9) rfl dM_is_6 ?_
  refine nv_icmp_ge (x := v) (y := n) (tgt := 16) hx hb dM_is_9 rfl (by omega) (by omega) (fun hc9 => ?_) (fun hc9 => ?_)
  · exact absurd hc9 (by omega)
  · refine lv_iconst (v := nI 1) hx hb dM_is_12 (by decide) ?_
    refine lv_goto (tgt := 17) hx hb dM_is_13 rfl ?_
    exact W.zret (v := (nI 1)) hx hb hr rfl (fun t ht hW => ⟨rfl, ht⟩) (fun q h => by cases h) dM_is_17

set_option maxHeartbeats 4000000 in
set_option maxRecDepth 100000 in
theorem cM_is_n (l : Launch) (D : va_G) (A : Nat → Prop) (g0 b1 b2 b3 b4 b5 : Nat) (cA : ClassId) (n ft : Nat) (ed lw hg od ud : Nat → Nat) (z : Int32) (hn : n ≤ 8) (hz9 : ∀ k, k < n → z ≠ nI k) : Rd l yM_is (Cond.code yM_is cM_is 2 (some FieldType.boolean) :: bw) (rmL 1) [.ref g0, .int z] (gB D vwCl [(g0, .inr (1, [.int (nI n), .ref b1, .int (nI ft), .ref b2, .ref b3, .ref b4, .ref b5])), (b1, .inl (cA, 64, .inl (fun j => nI (ed j)))), (b2, .inl (cA, 8, .inl (fun j => nI (lw j)))), (b3, .inl (cA, 8, .inl (fun j => nI (hg j)))), (b4, .inl (cA, 8, .inl (fun j => nI (od j)))), (b5, .inl (cA, 9, .inl (fun j => nI (ud j))))] [(cA, .int)]) ((bI false)) := by
  refine Met.ofW (cc := cM_is) (maxL := 2) (ret := (some FieldType.boolean)) (by decide) rfl ?_
  intro p e s m args below meth c s₁ B9 hml hv
  obtain ⟨rfl, hP, hK⟩ := hv
  have hx := B9.exec
  have hb := B9.bytes
  have hr := B9.returns
  have hts := atoms_spec (ws := (Cond.code yM_is cM_is 2 (some FieldType.boolean) :: bw)) B9.pre
  have hw : ∀ w ∈ bw, w.before _ s = true := fun w h => hts w (List.mem_cons_of_mem _ h)
  have hown : s.vm.findClass RM = some m.cls := findClass_of_methodNamed B9.named
  have hlocks := B9.notSynchronized
  have hl := lv_entry ([.ref g0, .int z]) (n := 2) (Nat.le_of_ble_eq_true rfl)
  rw [lg_entry_eq]
  generalize (lg_sl ([.ref g0, .int z]) ++ List.replicate (2 - (lg_sl ([.ref g0, .int z])).length) Slot.unset).toArray = ls at hl ⊢
  have hl : lv_has ls 2 [(0, .ref g0), (1, .int z)] := hl
  refine lv_iload_n hx hb dM_is_0 rfl (lv_at hl 1 rfl) ?_
  refine lv_if_lt (tgt := 16) hx hb dM_is_1 rfl (fun hc1 => ?_) (fun hc1 => ?_)
  · refine lv_iconst (v := nI 0) hx hb dM_is_16 (by decide) ?_
    exact W.zret (v := (nI 0)) hx hb hr rfl (fun t ht hW => ⟨rfl, ht⟩) (fun q h => by cases h) dM_is_17
  · refine lv_iload_n hx hb dM_is_4 rfl (lv_at hl 1 rfl) ?_
    refine lv_aload_n hx hb dM_is_5 rfl (lv_at hl 0 rfl) ?_
    refine va_get (D := D) (ci := 1) (v := .int (nI n)) (C := RM) (T := TM) (N := 7) hx hb hw uM hown hK hP 0 rfl rfl 0 (by decide) (hw _ w2_98) (fun _ h9 => h9) rfl dM_is_6 ?_
    refine lv_icmp_ge (tgt := 16) hx hb dM_is_9 rfl (fun hc9 => ?_) (fun hc9 => ?_)
    · refine lv_iconst (v := nI 0) hx hb dM_is_16 (by decide) ?_
      exact W.zret (v := (nI 0)) hx hb hr rfl (fun t ht hW => ⟨rfl, ht⟩) (fun q h => by cases h) dM_is_17
    · exact absurd (pk_ix z (n := n) (by omega)) (fun h9 => by rcases h9 with h8 | h8 | ⟨j, hj, e8⟩; exact hc1 h8; exact hc9 h8; exact hz9 j hj e8)

set_option maxHeartbeats 4000000 in
set_option maxRecDepth 100000 in
theorem cM_count_c (l : Launch) (a : Nat) (ha : a < 2 ^ 31) : Rd l yM_count (Cond.code yM_count cM_count 3 (some FieldType.int) :: bw) (rmL 1) [.int (nI a)] gT ((nI (pcN a))) := by
  refine Met.ofW (cc := cM_count) (maxL := 3) (ret := (some FieldType.int)) (by decide) rfl ?_
  intro p e s m args below meth c s₁ B9 hml hv
  obtain ⟨rfl, -⟩ := hv
  have hx := B9.exec
  have hb := B9.bytes
  have hr := B9.returns
  have hts := atoms_spec (ws := (Cond.code yM_count cM_count 3 (some FieldType.int) :: bw)) B9.pre
  have hw : ∀ w ∈ bw, w.before _ s = true := fun w h => hts w (List.mem_cons_of_mem _ h)
  have hown : s.vm.findClass RM = some m.cls := findClass_of_methodNamed B9.named
  have hlocks := B9.notSynchronized
  have hl := lv_entry ([.int (nI a)]) (n := 3) (Nat.le_of_ble_eq_true rfl)
  rw [lg_entry_eq]
  generalize (lg_sl ([.int (nI a)]) ++ List.replicate (3 - (lg_sl ([.int (nI a)])).length) Slot.unset).toArray = ls at hl ⊢
  have hl : lv_has ls 3 [(0, .int (nI a))] := hl
  refine lv_iconst (v := nI 0) hx hb dM_count_0 (by decide) ?_
  refine lv_istore_n hx hb dM_count_1 rfl hl (by decide) (lv' := [(1, .int (nI 0)), (0, .int (nI a))]) rfl (fun ls hl => ?_)
  refine lv_iconst (v := nI 0) hx hb dM_count_2 (by decide) ?_
  refine lv_istore_n hx hb dM_count_3 rfl hl (by decide) (lv' := [(2, .int (nI 0)), (1, .int (nI 0)), (0, .int (nI a))]) rfl (fun ls hl => ?_)
  have L4 : ∀ (k9 : Nat) (i : Nat), k9 = 16 - i → i ≤ 16 → ∀ (ls : Array Slot), lv_has ls 3 [(2, .int (nI i)), (1, .int (nI (pcM a i))), (0, .int (nI a))] → W p l e (headSpec (Cond.code yM_count cM_count 3 (some FieldType.int) :: bw) (rmL 1)).room s m ([.int (nI a)] : List Value).toArray below meth c s.heap [] 0 0 (MQ below (QcRead ((nI (pcN a)))) ([.int (nI a)] : List Value).toArray s 0 0 (fun _ => False)) (F0 m 4 ls []) := by
    intro k9
    induction k9 using Nat.strongRecOn with
    | _ k9 ih4 =>
      intro i hk9 hi9 ls hl
      refine lv_iload_n hx hb dM_count_4 rfl (lv_at hl 0 rfl) ?_
      refine lv_bipush (v := nI 16) hx hb dM_count_5 (by decide) ?_
      refine nv_icmp_ge (x := i) (y := 16) (tgt := 24) hx hb dM_count_7 rfl (by omega) (by omega) (fun hc7 => ?_) (fun hc7 => ?_)
      · refine lv_iload_n hx hb dM_count_24 rfl (lv_at hl 1 rfl) ?_
        exact W.iret (v := (nI (pcM a i))) hx hb hr (fun t ht hW => ⟨by rw [show i = 16 by omega]; rfl, ht⟩) (fun q h => by cases h) dM_count_25
      · refine lv_iload_n hx hb dM_count_10 rfl (lv_at hl 1 rfl) ?_
        refine lv_iload_n hx hb dM_count_11 rfl (lv_at hl 2 rfl) ?_
        refine lv_iload_n hx hb dM_count_12 rfl (lv_at hl 0 rfl) ?_
        refine nv_ishr (x := a) (y := i) hx hb dM_count_13 (by omega) (by omega) ?_
        refine lv_iconst (v := nI 1) hx hb dM_count_14 (by decide) ?_
        refine nv_iand (x := a >>> i) (y := 1) hx hb dM_count_15 ?_
        refine nv_iadd (x := pcM a i) (y := (a >>> i) &&& 1) hx hb dM_count_16 ?_
        refine lv_istore_n hx hb dM_count_17 rfl hl (by decide) (lv' := [(1, .int (nI ((pcM a i) + ((a >>> i) &&& 1)))), (2, .int (nI i)), (0, .int (nI a))]) rfl (fun ls hl => ?_)
        refine lv_iinc (k := 1) hx hb dM_count_18 hl rfl (nb_inc _) (by decide) (lv' := [(2, .int (nI (i + 1))), (1, .int (nI ((pcM a i) + ((a >>> i) &&& 1)))), (0, .int (nI a))]) rfl (fun ls hl => ?_)
        refine lv_goto (tgt := 4) hx hb dM_count_21 rfl ?_
        exact ih4 _ (by omega) (i + 1) rfl (by omega) ls hl
  exact L4 _ 0 rfl (Nat.zero_le _) ls hl
