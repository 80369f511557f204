theorem mRo_lt {ed : Nat → Nat} {r : Nat} (h : r < 256) : ∀ k, mRo ed r k < 256
  | 0 => h
  | k + 1 => by
    have ih := mRo_lt (ed := ed) h k
    rw [mRo_s]
    split
    · exact or_8 ih (pw_7 (Nat.mod_lt _ (by omega)))
    · exact ih
theorem mRe_lt {ed : Nat → Nat} {v : Nat} (hv : v < 8) : ∀ k, mRe ed v k < 256
  | 0 => pw_7 hv
  | k + 1 => mRo_lt (mRe_lt hv k) 64
theorem mRe_v {ed : Nat → Nat} {v : Nat} : ∀ k, (mRe ed v k).testBit v = true
  | 0 => Nat.testBit_two_pow_self
  | k + 1 => mRo_up 64 v (mRe_v k)
theorem tz_y {r i : Nat} (hi : i < 8) (h : r.testBit i = true) : tzG r (8 - i) i = i := by
  obtain ⟨f, hf⟩ : ∃ f, 8 - i = f + 1 := ⟨7 - i, by omega⟩
  rw [hf]
  show (if r.testBit i = true then i else tzG r f (i + 1)) = i
  rw [if_pos h]
theorem tz_n {r i : Nat} (hi : i < 8) (h : r.testBit i = false) : tzG r (8 - i) i = tzG r (8 - (i + 1)) (i + 1) := by
  obtain ⟨f, hf⟩ : ∃ f, 8 - i = f + 1 := ⟨7 - i, by omega⟩
  have hf2 : 8 - (i + 1) = f := by omega
  rw [hf, hf2]
  show (if r.testBit i = true then i else tzG r f (i + 1)) = _
  rw [if_neg (by rw [h]; exact Bool.false_ne_true)]

set_option maxHeartbeats 4000000 in
set_option maxRecDepth 100000 in
theorem cM_change_a1 (l : Launch) (D : va_G) (A : Nat → Prop) (g0 b1 b2 b3 b4 b5 : Nat) (cA : ClassId) (n ft : Nat) (ed lw hg od ud : Nat → Nat) (z1 z2 : Int32) (to : Nat) (hn : n ≤ 8)(hz9 : ∀ k, k < n → z1 ≠ nI k) : Met l yM_change (Cond.code yM_change cM_change 4 (some FieldType.boolean) :: bw) (rmL 2) (va_Pc [.ref g0, .int z1, .int z2, .int (nI to)] (gW D vwCl A [(g0, .inr (1, [.int (nI n), .ref b1, .int (nI ft), .ref b2, .ref b3, .ref b4, .ref b5])), (b1, .inl (cA, 64, .inl (fun j => nI (ed j)))), (b2, .inl (cA, 8, .inl (fun j => nI (lw j)))), (b3, .inl (cA, 8, .inl (fun j => nI (hg j)))), (b4, .inl (cA, 8, .inl (fun j => nI (od j)))), (b5, .inl (cA, 9, .inl (fun j => nI (ud j))))] [(cA, .int)])) (va_Qi (fun (r9 : Int32) (_ : Unit) => r9 = (bI false)) (fun _ => gW D vwCl A [(g0, .inr (1, [.int (nI n), .ref b1, .int (nI 1), .ref b2, .ref b3, .ref b4, .ref b5])), (b1, .inl (cA, 64, .inl (fun j => nI (ed j)))), (b2, .inl (cA, 8, .inl (fun j => nI (lw j)))), (b3, .inl (cA, 8, .inl (fun j => nI (hg j)))), (b4, .inl (cA, 8, .inl (fun j => nI (od j)))), (b5, .inl (cA, 9, .inl (fun j => nI (ud j))))] [(cA, .int)]) A) 0 0 A := by
  refine Met.ofW (cc := cM_change) (maxL := 4) (ret := (some FieldType.boolean)) (by decide) rfl ?_
  intro p e s m args below meth c s₁ B9 hml hv
  obtain ⟨rfl, hP, hK, hD⟩ := hv
  have hx := B9.exec
  have hb := B9.bytes
  have hr := B9.returns
  have hts := atoms_spec (ws := (Cond.code yM_change cM_change 4 (some FieldType.boolean) :: bw)) B9.pre
  have hw : ∀ w ∈ bw, w.before _ s = true := fun w h => hts w (List.mem_cons_of_mem _ h)
  have hown : s.vm.findClass RM = some m.cls := findClass_of_methodNamed B9.named
  have hlocks := B9.notSynchronized
  have hl := lv_entry ([.ref g0, .int z1, .int z2, .int (nI to)]) (n := 4) (Nat.le_of_ble_eq_true rfl)
  rw [lg_entry_eq]
  generalize (lg_sl ([.ref g0, .int z1, .int z2, .int (nI to)]) ++ List.replicate (4 - (lg_sl ([.ref g0, .int z1, .int z2, .int (nI to)])).length) Slot.unset).toArray = ls at hl ⊢
  have hl : lv_has ls 4 [(0, .ref g0), (1, .int z1), (2, .int z2), (3, .int (nI to))] := hl
  have hS : va_S A s.heap s.heap [] := va_S.rf
  refine lv_aload_n hx hb dM_change_0 rfl (lv_at hl 0 rfl) ?_
  refine lv_aload_n hx hb dM_change_1 rfl (lv_at hl 0 rfl) ?_
  refine lv_iload_n hx hb dM_change_2 rfl (lv_at hl 1 rfl) ?_
  refine nr_V (b := g0) (As := [.int z1]) (C := RM) (rest := [.ref g0]) ⟨hx, hb, hml, hown, hw⟩ (cM_is_n l D A g0 b1 b2 b3 b4 b5 cA n ft ed lw hg od ud z1 hn hz9) (cwV 1 hw (gV w2_140 w2_142 w0_17 w1_2 w2_143) rfl rfl rfl ⟨rfl, by decide, by decide, by decide +kernel⟩ ⟨Nat.le_of_ble_eq_true rfl, Nat.le_of_ble_eq_true rfl⟩) gB_blind (va_recv (q0 := 0) (ci := 1) hK hP rfl rfl) (gB_at hP hK _) rfl hl.1 rfl (Nat.le_of_ble_eq_true rfl) dM_change_3 ⟨Nat.zero_le _, Nat.zero_le _⟩ ?_
  refine nv_b_eq (x := false) (tgt := 17) hx hb dM_change_6 rfl (fun hc6 => ?_) (fun hc6 => ?_)
  · refine lv_iconst (v := nI 1) hx hb dM_change_17 (by decide) ?_
    refine lv_goto (tgt := 31) hx hb dM_change_18 rfl ?_
    refine va_put (D := D) (ci := 1) (v := .int (nI 1)) (ty := .int) (C := RM) (T := TM) (N := 7) hx hb hw uM tyM tyM_ok nmM hown hK hP hD hS 0 rfl rfl 2 (by decide) (hw _ w2_100) (fun _ h9 => h9) rfl (by decide +kernel) rfl rfl (Nat.le_of_ble_eq_true rfl) dM_change_31 (fun H locs hP hD hS => ?_)
    have hP : va_P D vwCl [(g0, .inr (1, [.int (nI n), .ref b1, .int (nI 1), .ref b2, .ref b3, .ref b4, .ref b5])), (b1, .inl (cA, 64, .inl (fun j => nI (ed j)))), (b2, .inl (cA, 8, .inl (fun j => nI (lw j)))), (b3, .inl (cA, 8, .inl (fun j => nI (hg j)))), (b4, .inl (cA, 8, .inl (fun j => nI (od j)))), (b5, .inl (cA, 9, .inl (fun j => nI (ud j))))] H := hP
    have hD : va_D A [(g0, .inr (1, [.int (nI n), .ref b1, .int (nI 1), .ref b2, .ref b3, .ref b4, .ref b5])), (b1, .inl (cA, 64, .inl (fun j => nI (ed j)))), (b2, .inl (cA, 8, .inl (fun j => nI (lw j)))), (b3, .inl (cA, 8, .inl (fun j => nI (hg j)))), (b4, .inl (cA, 8, .inl (fun j => nI (od j)))), (b5, .inl (cA, 9, .inl (fun j => nI (ud j))))] := hD
    refine lv_aload_n hx hb dM_change_34 rfl (lv_at hl 0 rfl) ?_
    refine va_get (D := D) (ci := 1) (v := .int (nI 1)) (C := RM) (T := TM) (N := 7) hx hb hw uM hown hK hP 0 rfl rfl 2 (by decide) (hw _ w2_100) (fun _ h9 => h9) rfl dM_change_35 ?_
    refine nv_if_gt (x := 1) (tgt := 56) hx hb dM_change_38 rfl (by omega) (fun hc38 => ?_) (fun hc38 => ?_)
    · refine lv_iconst (v := nI 0) hx hb dM_change_56 (by decide) ?_
      exact W.zret (v := (nI 0)) hx hb hr rfl (fun t ht hW => ⟨⟨_, (), rfl, rfl, by rw [ht]; exact hP, va_K.moved hW.alike hK, hD⟩, hS.F ht⟩) hS.2.2 dM_change_57
    · exact absurd hc38 (by omega)
  · exact absurd hc6 (by decide)

set_option maxHeartbeats 4000000 in
set_option maxRecDepth 100000 in
theorem cM_change_a2 (l : Launch) (D : va_G) (A : Nat → Prop) (g0 b1 b2 b3 b4 b5 : Nat) (cA : ClassId) (n ft : Nat) (ed lw hg od ud : Nat → Nat) (u : Nat) (z2 : Int32) (to : Nat) (hn : n ≤ 8)(hu : u < n)(hz9 : ∀ k, k < n → z2 ≠ nI k) : Met l yM_change (Cond.code yM_change cM_change 4 (some FieldType.boolean) :: bw) (rmL 2) (va_Pc [.ref g0, .int (nI u), .int z2, .int (nI to)] (gW D vwCl A [(g0, .inr (1, [.int (nI n), .ref b1, .int (nI ft), .ref b2, .ref b3, .ref b4, .ref b5])), (b1, .inl (cA, 64, .inl (fun j => nI (ed j)))), (b2, .inl (cA, 8, .inl (fun j => nI (lw j)))), (b3, .inl (cA, 8, .inl (fun j => nI (hg j)))), (b4, .inl (cA, 8, .inl (fun j => nI (od j)))), (b5, .inl (cA, 9, .inl (fun j => nI (ud j))))] [(cA, .int)])) (va_Qi (fun (r9 : Int32) (_ : Unit) => r9 = (bI false)) (fun _ => gW D vwCl A [(g0, .inr (1, [.int (nI n), .ref b1, .int (nI 1), .ref b2, .ref b3, .ref b4, .ref b5])), (b1, .inl (cA, 64, .inl (fun j => nI (ed j)))), (b2, .inl (cA, 8, .inl (fun j => nI (lw j)))), (b3, .inl (cA, 8, .inl (fun j => nI (hg j)))), (b4, .inl (cA, 8, .inl (fun j => nI (od j)))), (b5, .inl (cA, 9, .inl (fun j => nI (ud j))))] [(cA, .int)]) A) 0 0 A := by
  refine Met.ofW (cc := cM_change) (maxL := 4) (ret := (some FieldType.boolean)) (by decide) rfl ?_
  intro p e s m args below meth c s₁ B9 hml hv
  obtain ⟨rfl, hP, hK, hD⟩ := hv
  have hx := B9.exec
  have hb := B9.bytes
  have hr := B9.returns
  have hts := atoms_spec (ws := (Cond.code yM_change cM_change 4 (some FieldType.boolean) :: bw)) B9.pre
  have hw : ∀ w ∈ bw, w.before _ s = true := fun w h => hts w (List.mem_cons_of_mem _ h)
  have hown : s.vm.findClass RM = some m.cls := findClass_of_methodNamed B9.named
  have hlocks := B9.notSynchronized
  have hl := lv_entry ([.ref g0, .int (nI u), .int z2, .int (nI to)]) (n := 4) (Nat.le_of_ble_eq_true rfl)
  rw [lg_entry_eq]
  generalize (lg_sl ([.ref g0, .int (nI u), .int z2, .int (nI to)]) ++ List.replicate (4 - (lg_sl ([.ref g0, .int (nI u), .int z2, .int (nI to)])).length) Slot.unset).toArray = ls at hl ⊢
  have hl : lv_has ls 4 [(0, .ref g0), (1, .int (nI u)), (2, .int z2), (3, .int (nI to))] := hl
  have hS : va_S A s.heap s.heap [] := va_S.rf
  refine lv_aload_n hx hb dM_change_0 rfl (lv_at hl 0 rfl) ?_
  refine lv_aload_n hx hb dM_change_1 rfl (lv_at hl 0 rfl) ?_
  refine lv_iload_n hx hb dM_change_2 rfl (lv_at hl 1 rfl) ?_
  refine nr_V (b := g0) (As := [.int (nI u)]) (C := RM) (rest := [.ref g0]) ⟨hx, hb, hml, hown, hw⟩ (cM_is_y l D A g0 b1 b2 b3 b4 b5 cA n ft ed lw hg od ud u hn hu) (cwV 1 hw (gV w2_140 w2_142 w0_17 w1_2 w2_143) rfl rfl rfl ⟨rfl, by decide, by decide, by decide +kernel⟩ ⟨Nat.le_of_ble_eq_true rfl, Nat.le_of_ble_eq_true rfl⟩) gB_blind (va_recv (q0 := 0) (ci := 1) hK hP rfl rfl) (gB_at hP hK _) rfl hl.1 rfl (Nat.le_of_ble_eq_true rfl) dM_change_3 ⟨Nat.zero_le _, Nat.zero_le _⟩ ?_
  refine nv_b_eq (x := true) (tgt := 17) hx hb dM_change_6 rfl (fun hc6 => ?_) (fun hc6 => ?_)
  · exact absurd hc6 (by decide)
  · refine lv_aload_n hx hb dM_change_9 rfl (lv_at hl 0 rfl) ?_
    refine lv_iload_n hx hb dM_change_10 rfl (lv_at hl 2 rfl) ?_
    refine nr_V (b := g0) (As := [.int z2]) (C := RM) (rest := [.ref g0]) ⟨hx, hb, hml, hown, hw⟩ (cM_is_n l D A g0 b1 b2 b3 b4 b5 cA n ft ed lw hg od ud z2 hn hz9) (cwV 1 hw (gV w2_140 w2_142 w0_17 w1_2 w2_143) rfl rfl rfl ⟨rfl, by decide, by decide, by decide +kernel⟩ ⟨Nat.le_of_ble_eq_true rfl, Nat.le_of_ble_eq_true rfl⟩) gB_blind (va_recv (q0 := 0) (ci := 1) hK hP rfl rfl) (gB_at hP hK _) rfl hl.1 rfl (Nat.le_of_ble_eq_true rfl) dM_change_11 ⟨Nat.zero_le _, Nat.zero_le _⟩ ?_
    refine nv_b_ne (x := false) (tgt := 21) hx hb dM_change_14 rfl (fun hc14 => ?_) (fun hc14 => ?_)
    · exact absurd hc14 (by decide)
    · refine lv_iconst (v := nI 1) hx hb dM_change_17 (by decide) ?_
      refine lv_goto (tgt := 31) hx hb dM_change_18 rfl ?_
      refine va_put (D := D) (ci := 1) (v := .int (nI 1)) (ty := .int) (C := RM) (T := TM) (N := 7) hx hb hw uM tyM tyM_ok nmM hown hK hP hD hS 0 rfl rfl 2 (by decide) (hw _ w2_100) (fun _ h9 => h9) rfl (by decide +kernel) rfl rfl (Nat.le_of_ble_eq_true rfl) dM_change_31 (fun H locs hP hD hS => ?_)
      have hP : va_P D vwCl [(g0, .inr (1, [.int (nI n), .ref b1, .int (nI 1), .ref b2, .ref b3, .ref b4, .ref b5])), (b1, .inl (cA, 64, .inl (fun j => nI (ed j)))), (b2, .inl (cA, 8, .inl (fun j => nI (lw j)))), (b3, .inl (cA, 8, .inl (fun j => nI (hg j)))), (b4, .inl (cA, 8, .inl (fun j => nI (od j)))), (b5, .inl (cA, 9, .inl (fun j => nI (ud j))))] H := hP
      have hD : va_D A [(g0, .inr (1, [.int (nI n), .ref b1, .int (nI 1), .ref b2, .ref b3, .ref b4, .ref b5])), (b1, .inl (cA, 64, .inl (fun j => nI (ed j)))), (b2, .inl (cA, 8, .inl (fun j => nI (lw j)))), (b3, .inl (cA, 8, .inl (fun j => nI (hg j)))), (b4, .inl (cA, 8, .inl (fun j => nI (od j)))), (b5, .inl (cA, 9, .inl (fun j => nI (ud j))))] := hD
      refine lv_aload_n hx hb dM_change_34 rfl (lv_at hl 0 rfl) ?_
      refine va_get (D := D) (ci := 1) (v := .int (nI 1)) (C := RM) (T := TM) (N := 7) hx hb hw uM hown hK hP 0 rfl rfl 2 (by decide) (hw _ w2_100) (fun _ h9 => h9) rfl dM_change_35 ?_
      refine nv_if_gt (x := 1) (tgt := 56) hx hb dM_change_38 rfl (by omega) (fun hc38 => ?_) (fun hc38 => ?_)
      · refine lv_iconst (v := nI 0) hx hb dM_change_56 (by decide) ?_
        exact W.zret (v := (nI 0)) hx hb hr rfl (fun t ht hW => ⟨⟨_, (), rfl, rfl, by rw [ht]; exact hP, va_K.moved hW.alike hK, hD⟩, hS.F ht⟩) hS.2.2 dM_change_57
      · exact absurd hc38 (by omega)

set_option maxHeartbeats 4000000 in
set_option maxRecDepth 100000 in
theorem cM_change_b (l : Launch) (D : va_G) (A : Nat → Prop) (g0 b1 b2 b3 b4 b5 : Nat) (cA : ClassId) (n ft : Nat) (ed lw hg od ud : Nat → Nat) (u to : Nat) (hn : n ≤ 8)(hu : u < n) : Met l yM_change (Cond.code yM_change cM_change 4 (some FieldType.boolean) :: bw) (rmL 2) (va_Pc [.ref g0, .int (nI u), .int (nI u), .int (nI to)] (gW D vwCl A [(g0, .inr (1, [.int (nI n), .ref b1, .int (nI ft), .ref b2, .ref b3, .ref b4, .ref b5])), (b1, .inl (cA, 64, .inl (fun j => nI (ed j)))), (b2, .inl (cA, 8, .inl (fun j => nI (lw j)))), (b3, .inl (cA, 8, .inl (fun j => nI (hg j)))), (b4, .inl (cA, 8, .inl (fun j => nI (od j)))), (b5, .inl (cA, 9, .inl (fun j => nI (ud j))))] [(cA, .int)])) (va_Qi (fun (r9 : Int32) (_ : Unit) => r9 = (bI false)) (fun _ => gW D vwCl A [(g0, .inr (1, [.int (nI n), .ref b1, .int (nI 2), .ref b2, .ref b3, .ref b4, .ref b5])), (b1, .inl (cA, 64, .inl (fun j => nI (ed j)))), (b2, .inl (cA, 8, .inl (fun j => nI (lw j)))), (b3, .inl (cA, 8, .inl (fun j => nI (hg j)))), (b4, .inl (cA, 8, .inl (fun j => nI (od j)))), (b5, .inl (cA, 9, .inl (fun j => nI (ud j))))] [(cA, .int)]) A) 0 0 A := by
  refine Met.ofW (cc := cM_change) (maxL := 4) (ret := (some FieldType.boolean)) (by decide) rfl ?_
  intro p e s m args below meth c s₁ B9 hml hv
  obtain ⟨rfl, hP, hK, hD⟩ := hv
  have hx := B9.exec
  have hb := B9.bytes
  have hr := B9.returns
  have hts := atoms_spec (ws := (Cond.code yM_change cM_change 4 (some FieldType.boolean) :: bw)) B9.pre
  have hw : ∀ w ∈ bw, w.before _ s = true := fun w h => hts w (List.mem_cons_of_mem _ h)
  have hown : s.vm.findClass RM = some m.cls := findClass_of_methodNamed B9.named
  have hlocks := B9.notSynchronized
  have hl := lv_entry ([.ref g0, .int (nI u), .int (nI u), .int (nI to)]) (n := 4) (Nat.le_of_ble_eq_true rfl)
  rw [lg_entry_eq]
  generalize (lg_sl ([.ref g0, .int (nI u), .int (nI u), .int (nI to)]) ++ List.replicate (4 - (lg_sl ([.ref g0, .int (nI u), .int (nI u), .int (nI to)])).length) Slot.unset).toArray = ls at hl ⊢
  have hl : lv_has ls 4 [(0, .ref g0), (1, .int (nI u)), (2, .int (nI u)), (3, .int (nI to))] := hl
  have hS : va_S A s.heap s.heap [] := va_S.rf
  refine lv_aload_n hx hb dM_change_0 rfl (lv_at hl 0 rfl) ?_
  refine lv_aload_n hx hb dM_change_1 rfl (lv_at hl 0 rfl) ?_
  refine lv_iload_n hx hb dM_change_2 rfl (lv_at hl 1 rfl) ?_
  refine nr_V (b := g0) (As := [.int (nI u)]) (C := RM) (rest := [.ref g0]) ⟨hx, hb, hml, hown, hw⟩ (cM_is_y l D A g0 b1 b2 b3 b4 b5 cA n ft ed lw hg od ud u hn hu) (cwV 1 hw (gV w2_140 w2_142 w0_17 w1_2 w2_143) rfl rfl rfl ⟨rfl, by decide, by decide, by decide +kernel⟩ ⟨Nat.le_of_ble_eq_true rfl, Nat.le_of_ble_eq_true rfl⟩) gB_blind (va_recv (q0 := 0) (ci := 1) hK hP rfl rfl) (gB_at hP hK _) rfl hl.1 rfl (Nat.le_of_ble_eq_true rfl) dM_change_3 ⟨Nat.zero_le _, Nat.zero_le _⟩ ?_
  refine nv_b_eq (x := true) (tgt := 17) hx hb dM_change_6 rfl (fun hc6 => ?_) (fun hc6 => ?_)
  · exact absurd hc6 (by decide)
  · refine lv_aload_n hx hb dM_change_9 rfl (lv_at hl 0 rfl) ?_
    refine lv_iload_n hx hb dM_change_10 rfl (lv_at hl 2 rfl) ?_
    refine nr_V (b := g0) (As := [.int (nI u)]) (C := RM) (rest := [.ref g0]) ⟨hx, hb, hml, hown, hw⟩ (cM_is_y l D A g0 b1 b2 b3 b4 b5 cA n ft ed lw hg od ud u hn hu) (cwV 1 hw (gV w2_140 w2_142 w0_17 w1_2 w2_143) rfl rfl rfl ⟨rfl, by decide, by decide, by decide +kernel⟩ ⟨Nat.le_of_ble_eq_true rfl, Nat.le_of_ble_eq_true rfl⟩) gB_blind (va_recv (q0 := 0) (ci := 1) hK hP rfl rfl) (gB_at hP hK _) rfl hl.1 rfl (Nat.le_of_ble_eq_true rfl) dM_change_11 ⟨Nat.zero_le _, Nat.zero_le _⟩ ?_
    refine nv_b_ne (x := true) (tgt := 21) hx hb dM_change_14 rfl (fun hc14 => ?_) (fun hc14 => ?_)
    · refine lv_iload_n hx hb dM_change_21 rfl (lv_at hl 1 rfl) ?_
      refine lv_iload_n hx hb dM_change_22 rfl (lv_at hl 2 rfl) ?_
      refine nv_icmp_ne (x := u) (y := u) (tgt := 30) hx hb dM_change_23 rfl (by omega) (by omega) (fun hc23 => ?_) (fun hc23 => ?_)
      · exact absurd rfl hc23
      · refine lv_iconst (v := nI 2) hx hb dM_change_26 (by decide) ?_
        refine lv_goto (tgt := 31) hx hb dM_change_27 rfl ?_
        refine va_put (D := D) (ci := 1) (v := .int (nI 2)) (ty := .int) (C := RM) (T := TM) (N := 7) hx hb hw uM tyM tyM_ok nmM hown hK hP hD hS 0 rfl rfl 2 (by decide) (hw _ w2_100) (fun _ h9 => h9) rfl (by decide +kernel) rfl rfl (Nat.le_of_ble_eq_true rfl) dM_change_31 (fun H locs hP hD hS => ?_)
        have hP : va_P D vwCl [(g0, .inr (1, [.int (nI n), .ref b1, .int (nI 2), .ref b2, .ref b3, .ref b4, .ref b5])), (b1, .inl (cA, 64, .inl (fun j => nI (ed j)))), (b2, .inl (cA, 8, .inl (fun j => nI (lw j)))), (b3, .inl (cA, 8, .inl (fun j => nI (hg j)))), (b4, .inl (cA, 8, .inl (fun j => nI (od j)))), (b5, .inl (cA, 9, .inl (fun j => nI (ud j))))] H := hP
        have hD : va_D A [(g0, .inr (1, [.int (nI n), .ref b1, .int (nI 2), .ref b2, .ref b3, .ref b4, .ref b5])), (b1, .inl (cA, 64, .inl (fun j => nI (ed j)))), (b2, .inl (cA, 8, .inl (fun j => nI (lw j)))), (b3, .inl (cA, 8, .inl (fun j => nI (hg j)))), (b4, .inl (cA, 8, .inl (fun j => nI (od j)))), (b5, .inl (cA, 9, .inl (fun j => nI (ud j))))] := hD
        refine lv_aload_n hx hb dM_change_34 rfl (lv_at hl 0 rfl) ?_
        refine va_get (D := D) (ci := 1) (v := .int (nI 2)) (C := RM) (T := TM) (N := 7) hx hb hw uM hown hK hP 0 rfl rfl 2 (by decide) (hw _ w2_100) (fun _ h9 => h9) rfl dM_change_35 ?_
        refine nv_if_gt (x := 2) (tgt := 56) hx hb dM_change_38 rfl (by omega) (fun hc38 => ?_) (fun hc38 => ?_)
        · refine lv_iconst (v := nI 0) hx hb dM_change_56 (by decide) ?_
          exact W.zret (v := (nI 0)) hx hb hr rfl (fun t ht hW => ⟨⟨_, (), rfl, rfl, by rw [ht]; exact hP, va_K.moved hW.alike hK, hD⟩, hS.F ht⟩) hS.2.2 dM_change_57
        · exact absurd hc38 (by omega)
    · exact absurd hc14 (by decide)

set_option maxHeartbeats 4000000 in
set_option maxRecDepth 100000 in
theorem cM_change_c (l : Launch) (D : va_G) (A : Nat → Prop) (g0 b1 b2 b3 b4 b5 : Nat) (cA : ClassId) (n ft : Nat) (ed lw hg od ud : Nat → Nat) (u v to : Nat) (hn : n ≤ 8)(hed1 : ∀ k, k < 64 → ed k ≤ 1)(hu : u < n) (hv : v < n) (huv : u ≠ v)(hto : to ≤ 1)(he : ed (8 * u + v) = to) : Met l yM_change (Cond.code yM_change cM_change 4 (some FieldType.boolean) :: bw) (rmL 2) (va_Pc [.ref g0, .int (nI u), .int (nI v), .int (nI to)] (gW D vwCl A [(g0, .inr (1, [.int (nI n), .ref b1, .int (nI ft), .ref b2, .ref b3, .ref b4, .ref b5])), (b1, .inl (cA, 64, .inl (fun j => nI (ed j)))), (b2, .inl (cA, 8, .inl (fun j => nI (lw j)))), (b3, .inl (cA, 8, .inl (fun j => nI (hg j)))), (b4, .inl (cA, 8, .inl (fun j => nI (od j)))), (b5, .inl (cA, 9, .inl (fun j => nI (ud j))))] [(cA, .int)])) (va_Qi (fun (r9 : Int32) (_ : Unit) => r9 = (bI false)) (fun _ => gW D vwCl A [(g0, .inr (1, [.int (nI n), .ref b1, .int (nI 0), .ref b2, .ref b3, .ref b4, .ref b5])), (b1, .inl (cA, 64, .inl (fun j => nI (ed j)))), (b2, .inl (cA, 8, .inl (fun j => nI (lw j)))), (b3, .inl (cA, 8, .inl (fun j => nI (hg j)))), (b4, .inl (cA, 8, .inl (fun j => nI (od j)))), (b5, .inl (cA, 9, .inl (fun j => nI (ud j))))] [(cA, .int)]) A) 0 0 A := by
  refine Met.ofW (cc := cM_change) (maxL := 4) (ret := (some FieldType.boolean)) (by decide) rfl ?_
  intro p e s m args below meth c s₁ B9 hml hv
  obtain ⟨rfl, hP, hK, hD⟩ := hv
  have hx := B9.exec
  have hb := B9.bytes
  have hr := B9.returns
  have hts := atoms_spec (ws := (Cond.code yM_change cM_change 4 (some FieldType.boolean) :: bw)) B9.pre
  have hw : ∀ w ∈ bw, w.before _ s = true := fun w h => hts w (List.mem_cons_of_mem _ h)
  have hown : s.vm.findClass RM = some m.cls := findClass_of_methodNamed B9.named
  have hlocks := B9.notSynchronized
  have hl := lv_entry ([.ref g0, .int (nI u), .int (nI v), .int (nI to)]) (n := 4) (Nat.le_of_ble_eq_true rfl)
  rw [lg_entry_eq]
  generalize (lg_sl ([.ref g0, .int (nI u), .int (nI v), .int (nI to)]) ++ List.replicate (4 - (lg_sl ([.ref g0, .int (nI u), .int (nI v), .int (nI to)])).length) Slot.unset).toArray = ls at hl ⊢
  have hl : lv_has ls 4 [(0, .ref g0), (1, .int (nI u)), (2, .int (nI v)), (3, .int (nI to))] := hl
  have hS : va_S A s.heap s.heap [] := va_S.rf
  refine lv_aload_n hx hb dM_change_0 rfl (lv_at hl 0 rfl) ?_
  refine lv_aload_n hx hb dM_change_1 rfl (lv_at hl 0 rfl) ?_
  refine lv_iload_n hx hb dM_change_2 rfl (lv_at hl 1 rfl) ?_
  refine nr_V (b := g0) (As := [.int (nI u)]) (C := RM) (rest := [.ref g0]) ⟨hx, hb, hml, hown, hw⟩ (cM_is_y l D A g0 b1 b2 b3 b4 b5 cA n ft ed lw hg od ud u hn hu) (cwV 1 hw (gV w2_140 w2_142 w0_17 w1_2 w2_143) rfl rfl rfl ⟨rfl, by decide, by decide, by decide +kernel⟩ ⟨Nat.le_of_ble_eq_true rfl, Nat.le_of_ble_eq_true rfl⟩) gB_blind (va_recv (q0 := 0) (ci := 1) hK hP rfl rfl) (gB_at hP hK _) rfl hl.1 rfl (Nat.le_of_ble_eq_true rfl) dM_change_3 ⟨Nat.zero_le _, Nat.zero_le _⟩ ?_
  refine nv_b_eq (x := true) (tgt := 17) hx hb dM_change_6 rfl (fun hc6 => ?_) (fun hc6 => ?_)
  · exact absurd hc6 (by decide)
  · refine lv_aload_n hx hb dM_change_9 rfl (lv_at hl 0 rfl) ?_
    refine lv_iload_n hx hb dM_change_10 rfl (lv_at hl 2 rfl) ?_
    refine nr_V (b := g0) (As := [.int (nI v)]) (C := RM) (rest := [.ref g0]) ⟨hx, hb, hml, hown, hw⟩ (cM_is_y l D A g0 b1 b2 b3 b4 b5 cA n ft ed lw hg od ud v hn hv) (cwV 1 hw (gV w2_140 w2_142 w0_17 w1_2 w2_143) rfl rfl rfl ⟨rfl, by decide, by decide, by decide +kernel⟩ ⟨Nat.le_of_ble_eq_true rfl, Nat.le_of_ble_eq_true rfl⟩) gB_blind (va_recv (q0 := 0) (ci := 1) hK hP rfl rfl) (gB_at hP hK _) rfl hl.1 rfl (Nat.le_of_ble_eq_true rfl) dM_change_11 ⟨Nat.zero_le _, Nat.zero_le _⟩ ?_
    refine nv_b_ne (x := true) (tgt := 21) hx hb dM_change_14 rfl (fun hc14 => ?_) (fun hc14 => ?_)
    · refine lv_iload_n hx hb dM_change_21 rfl (lv_at hl 1 rfl) ?_
      refine lv_iload_n hx hb dM_change_22 rfl (lv_at hl 2 rfl) ?_
      refine nv_icmp_ne (x := u) (y := v) (tgt := 30) hx hb dM_change_23 rfl (by omega) (by omega) (fun hc23 => ?_) (fun hc23 => ?_)
      · refine lv_iconst (v := nI 0) hx hb dM_change_30 (by decide) ?_
        refine va_put (D := D) (ci := 1) (v := .int (nI 0)) (ty := .int) (C := RM) (T := TM) (N := 7) hx hb hw uM tyM tyM_ok nmM hown hK hP hD hS 0 rfl rfl 2 (by decide) (hw _ w2_100) (fun _ h9 => h9) rfl (by decide +kernel) rfl rfl (Nat.le_of_ble_eq_true rfl) dM_change_31 (fun H locs hP hD hS => ?_)
        have hP : va_P D vwCl [(g0, .inr (1, [.int (nI n), .ref b1, .int (nI 0), .ref b2, .ref b3, .ref b4, .ref b5])), (b1, .inl (cA, 64, .inl (fun j => nI (ed j)))), (b2, .inl (cA, 8, .inl (fun j => nI (lw j)))), (b3, .inl (cA, 8, .inl (fun j => nI (hg j)))), (b4, .inl (cA, 8, .inl (fun j => nI (od j)))), (b5, .inl (cA, 9, .inl (fun j => nI (ud j))))] H := hP
        have hD : va_D A [(g0, .inr (1, [.int (nI n), .ref b1, .int (nI 0), .ref b2, .ref b3, .ref b4, .ref b5])), (b1, .inl (cA, 64, .inl (fun j => nI (ed j)))), (b2, .inl (cA, 8, .inl (fun j => nI (lw j)))), (b3, .inl (cA, 8, .inl (fun j => nI (hg j)))), (b4, .inl (cA, 8, .inl (fun j => nI (od j)))), (b5, .inl (cA, 9, .inl (fun j => nI (ud j))))] := hD
        refine lv_aload_n hx hb dM_change_34 rfl (lv_at hl 0 rfl) ?_
        refine va_get (D := D) (ci := 1) (v := .int (nI 0)) (C := RM) (T := TM) (N := 7) hx hb hw uM hown hK hP 0 rfl rfl 2 (by decide) (hw _ w2_100) (fun _ h9 => h9) rfl dM_change_35 ?_
        refine nv_if_gt (x := 0) (tgt := 56) hx hb dM_change_38 rfl (by omega) (fun hc38 => ?_) (fun hc38 => ?_)
        · exact absurd hc38 (by omega)
        · refine lv_aload_n hx hb dM_change_41 rfl (lv_at hl 0 rfl) ?_
          refine va_get (D := D) (ci := 1) (v := .ref b1) (C := RM) (T := TM) (N := 7) hx hb hw uM hown hK hP 0 rfl rfl 1 (by decide) (hw _ w2_99) (fun _ h9 => h9) rfl dM_change_42 ?_
          refine lv_bipush (v := nI 8) hx hb dM_change_45 (by decide) ?_
          refine lv_iload_n hx hb dM_change_47 rfl (lv_at hl 1 rfl) ?_
          refine nv_imul (x := 8) (y := u) hx hb dM_change_48 ?_
          refine lv_iload_n hx hb dM_change_49 rfl (lv_at hl 2 rfl) ?_
          refine nv_iadd (x := 8 * u) (y := v) hx hb dM_change_50 ?_
          refine nv_iald (i := (8 * u) + v) (f := ed) hx hb hK hP 1 0 rfl rfl (by omega) (by omega) dM_change_51 ?_
          refine lv_iload_n hx hb dM_change_52 rfl (lv_at hl 3 rfl) ?_
          have hq53 := hed1 (8 * u + v) (by omega)
          refine nv_icmp_ne (x := ed ((8 * u) + v)) (y := to) (tgt := 58) hx hb dM_change_53 rfl (by omega) (by omega) (fun hc53 => ?_) (fun hc53 => ?_)
          · exact absurd he hc53
          · refine lv_iconst (v := nI 0) hx hb dM_change_56 (by decide) ?_
            exact W.zret (v := (nI 0)) hx hb hr rfl (fun t ht hW => ⟨⟨_, (), rfl, rfl, by rw [ht]; exact hP, va_K.moved hW.alike hK, hD⟩, hS.F ht⟩) hS.2.2 dM_change_57
      · exact absurd hc23 huv
    · exact absurd hc14 (by decide)

set_option maxHeartbeats 4000000 in
set_option maxRecDepth 100000 in
theorem cM_change_d (l : Launch) (D : va_G) (A : Nat → Prop) (g0 b1 b2 b3 b4 b5 : Nat) (cA : ClassId) (n ft : Nat) (ed lw hg od ud : Nat → Nat) (u v to : Nat) (hn : n ≤ 8)(hed1 : ∀ k, k < 64 → ed k ≤ 1)(hu : u < n) (hv : v < n) (huv : u ≠ v)(hto : to ≤ 1)(he : ed (8 * u + v) ≠ to) : Met l yM_change (Cond.code yM_change cM_change 4 (some FieldType.boolean) :: bw) (rmL 2) (va_Pc [.ref g0, .int (nI u), .int (nI v), .int (nI to)] (gW D vwCl A [(g0, .inr (1, [.int (nI n), .ref b1, .int (nI ft), .ref b2, .ref b3, .ref b4, .ref b5])), (b1, .inl (cA, 64, .inl (fun j => nI (ed j)))), (b2, .inl (cA, 8, .inl (fun j => nI (lw j)))), (b3, .inl (cA, 8, .inl (fun j => nI (hg j)))), (b4, .inl (cA, 8, .inl (fun j => nI (od j)))), (b5, .inl (cA, 9, .inl (fun j => nI (ud j))))] [(cA, .int)])) (va_Qi (fun (r9 : Int32) (_ : Unit) => r9 = (bI true)) (fun _ => gW D vwCl A [(g0, .inr (1, [.int (nI n), .ref b1, .int (nI 0), .ref b2, .ref b3, .ref b4, .ref b5])), (b1, .inl (cA, 64, .inl (fun j => nI ((upN (upN ed (8 * u + v) to) (8 * v + u) to) j)))), (b2, .inl (cA, 8, .inl (fun j => nI (lw j)))), (b3, .inl (cA, 8, .inl (fun j => nI (hg j)))), (b4, .inl (cA, 8, .inl (fun j => nI (od j)))), (b5, .inl (cA, 9, .inl (fun j => nI (ud j))))] [(cA, .int)]) A) 0 0 A := by
  refine Met.ofW (cc := cM_change) (maxL := 4) (ret := (some FieldType.boolean)) (by decide) rfl ?_
  intro p e s m args below meth c s₁ B9 hml hv
  obtain ⟨rfl, hP, hK, hD⟩ := hv
  have hx := B9.exec
  have hb := B9.bytes
  have hr := B9.returns
  have hts := atoms_spec (ws := (Cond.code yM_change cM_change 4 (some FieldType.boolean) :: bw)) B9.pre
  have hw : ∀ w ∈ bw, w.before _ s = true := fun w h => hts w (List.mem_cons_of_mem _ h)
  have hown : s.vm.findClass RM = some m.cls := findClass_of_methodNamed B9.named
  have hlocks := B9.notSynchronized
  have hl := lv_entry ([.ref g0, .int (nI u), .int (nI v), .int (nI to)]) (n := 4) (Nat.le_of_ble_eq_true rfl)
  rw [lg_entry_eq]
  generalize (lg_sl ([.ref g0, .int (nI u), .int (nI v), .int (nI to)]) ++ List.replicate (4 - (lg_sl ([.ref g0, .int (nI u), .int (nI v), .int (nI to)])).length) Slot.unset).toArray = ls at hl ⊢
  have hl : lv_has ls 4 [(0, .ref g0), (1, .int (nI u)), (2, .int (nI v)), (3, .int (nI to))] := hl
  have hS : va_S A s.heap s.heap [] := va_S.rf
  refine lv_aload_n hx hb dM_change_0 rfl (lv_at hl 0 rfl) ?_
  refine lv_aload_n hx hb dM_change_1 rfl (lv_at hl 0 rfl) ?_
  refine lv_iload_n hx hb dM_change_2 rfl (lv_at hl 1 rfl) ?_
  refine nr_V (b := g0) (As := [.int (nI u)]) (C := RM) (rest := [.ref g0]) ⟨hx, hb, hml, hown, hw⟩ (cM_is_y l D A g0 b1 b2 b3 b4 b5 cA n ft ed lw hg od ud u hn hu) (cwV 1 hw (gV w2_140 w2_142 w0_17 w1_2 w2_143) rfl rfl rfl ⟨rfl, by decide, by decide, by decide +kernel⟩ ⟨Nat.le_of_ble_eq_true rfl, Nat.le_of_ble_eq_true rfl⟩) gB_blind (va_recv (q0 := 0) (ci := 1) hK hP rfl rfl) (gB_at hP hK _) rfl hl.1 rfl (Nat.le_of_ble_eq_true rfl) dM_change_3 ⟨Nat.zero_le _, Nat.zero_le _⟩ ?_
  refine nv_b_eq (x := true) (tgt := 17) hx hb dM_change_6 rfl (fun hc6 => ?_) (fun hc6 => ?_)
  · exact absurd hc6 (by decide)
  · refine lv_aload_n hx hb dM_change_9 rfl (lv_at hl 0 rfl) ?_
    refine lv_iload_n hx hb dM_change_10 rfl (lv_at hl 2 rfl) ?_
    refine nr_V (b := g0) (As := [.int (nI v)]) (C := RM) (rest := [.ref g0]) ⟨hx, hb, hml, hown, hw⟩ (cM_is_y l D A g0 b1 b2 b3 b4 b5 cA n ft ed lw hg od ud v hn hv) (cwV 1 hw (gV w2_140 w2_142 w0_17 w1_2 w2_143) rfl rfl rfl ⟨rfl, by decide, by decide, by decide +kernel⟩ ⟨Nat.le_of_ble_eq_true rfl, Nat.le_of_ble_eq_true rfl⟩) gB_blind (va_recv (q0 := 0) (ci := 1) hK hP rfl rfl) (gB_at hP hK _) rfl hl.1 rfl (Nat.le_of_ble_eq_true rfl) dM_change_11 ⟨Nat.zero_le _, Nat.zero_le _⟩ ?_
    refine nv_b_ne (x := true) (tgt := 21) hx hb dM_change_14 rfl (fun hc14 => ?_) (fun hc14 => ?_)
    · refine lv_iload_n hx hb dM_change_21 rfl (lv_at hl 1 rfl) ?_
      refine lv_iload_n hx hb dM_change_22 rfl (lv_at hl 2 rfl) ?_
      refine nv_icmp_ne (x := u) (y := v) (tgt := 30) hx hb dM_change_23 rfl (by omega) (by omega) (fun hc23 => ?_) (fun hc23 => ?_)
      · refine lv_iconst (v := nI 0) hx hb dM_change_30 (by decide) ?_
        refine va_put (D := D) (ci := 1) (v := .int (nI 0)) (ty := .int) (C := RM) (T := TM) (N := 7) hx hb hw uM tyM tyM_ok nmM hown hK hP hD hS 0 rfl rfl 2 (by decide) (hw _ w2_100) (fun _ h9 => h9) rfl (by decide +kernel) rfl rfl (Nat.le_of_ble_eq_true rfl) dM_change_31 (fun H locs hP hD hS => ?_)
        have hP : va_P D vwCl [(g0, .inr (1, [.int (nI n), .ref b1, .int (nI 0), .ref b2, .ref b3, .ref b4, .ref b5])), (b1, .inl (cA, 64, .inl (fun j => nI (ed j)))), (b2, .inl (cA, 8, .inl (fun j => nI (lw j)))), (b3, .inl (cA, 8, .inl (fun j => nI (hg j)))), (b4, .inl (cA, 8, .inl (fun j => nI (od j)))), (b5, .inl (cA, 9, .inl (fun j => nI (ud j))))] H := hP
        have hD : va_D A [(g0, .inr (1, [.int (nI n), .ref b1, .int (nI 0), .ref b2, .ref b3, .ref b4, .ref b5])), (b1, .inl (cA, 64, .inl (fun j => nI (ed j)))), (b2, .inl (cA, 8, .inl (fun j => nI (lw j)))), (b3, .inl (cA, 8, .inl (fun j => nI (hg j)))), (b4, .inl (cA, 8, .inl (fun j => nI (od j)))), (b5, .inl (cA, 9, .inl (fun j => nI (ud j))))] := hD
        refine lv_aload_n hx hb dM_change_34 rfl (lv_at hl 0 rfl) ?_
        refine va_get (D := D) (ci := 1) (v := .int (nI 0)) (C := RM) (T := TM) (N := 7) hx hb hw uM hown hK hP 0 rfl rfl 2 (by decide) (hw _ w2_100) (fun _ h9 => h9) rfl dM_change_35 ?_
        refine nv_if_gt (x := 0) (tgt := 56) hx hb dM_change_38 rfl (by omega) (fun hc38 => ?_) (fun hc38 => ?_)
        · exact absurd hc38 (by omega)
        · refine lv_aload_n hx hb dM_change_41 rfl (lv_at hl 0 rfl) ?_
          refine va_get (D := D) (ci := 1) (v := .ref b1) (C := RM) (T := TM) (N := 7) hx hb hw uM hown hK hP 0 rfl rfl 1 (by decide) (hw _ w2_99) (fun _ h9 => h9) rfl dM_change_42 ?_
          refine lv_bipush (v := nI 8) hx hb dM_change_45 (by decide) ?_
          refine lv_iload_n hx hb dM_change_47 rfl (lv_at hl 1 rfl) ?_
          refine nv_imul (x := 8) (y := u) hx hb dM_change_48 ?_
          refine lv_iload_n hx hb dM_change_49 rfl (lv_at hl 2 rfl) ?_
          refine nv_iadd (x := 8 * u) (y := v) hx hb dM_change_50 ?_
          refine nv_iald (i := (8 * u) + v) (f := ed) hx hb hK hP 1 0 rfl rfl (by omega) (by omega) dM_change_51 ?_
          refine lv_iload_n hx hb dM_change_52 rfl (lv_at hl 3 rfl) ?_
          have hq53 := hed1 (8 * u + v) (by omega)
          refine nv_icmp_ne (x := ed ((8 * u) + v)) (y := to) (tgt := 58) hx hb dM_change_53 rfl (by omega) (by omega) (fun hc53 => ?_) (fun hc53 => ?_)
          · refine lv_aload_n hx hb dM_change_58 rfl (lv_at hl 0 rfl) ?_
            refine va_get (D := D) (ci := 1) (v := .ref b1) (C := RM) (T := TM) (N := 7) hx hb hw uM hown hK hP 0 rfl rfl 1 (by decide) (hw _ w2_99) (fun _ h9 => h9) rfl dM_change_59 ?_
            refine lv_bipush (v := nI 8) hx hb dM_change_62 (by decide) ?_
            refine lv_iload_n hx hb dM_change_64 rfl (lv_at hl 1 rfl) ?_
            refine nv_imul (x := 8) (y := u) hx hb dM_change_65 ?_
            refine lv_iload_n hx hb dM_change_66 rfl (lv_at hl 2 rfl) ?_
            refine nv_iadd (x := 8 * u) (y := v) hx hb dM_change_67 ?_
            refine lv_iload_n hx hb dM_change_68 rfl (lv_at hl 3 rfl) ?_
            refine nv_iast (i := (8 * u) + v) (x := to) (f := ed) hx hb hK hP hD hS 1 0 rfl rfl (by omega) (by omega) dM_change_69 (fun H locs hP hD hS => ?_)
            have hP : va_P D vwCl [(g0, .inr (1, [.int (nI n), .ref b1, .int (nI 0), .ref b2, .ref b3, .ref b4, .ref b5])), (b1, .inl (cA, 64, .inl (fun j => nI ((upN ed ((8 * u) + v) to) j)))), (b2, .inl (cA, 8, .inl (fun j => nI (lw j)))), (b3, .inl (cA, 8, .inl (fun j => nI (hg j)))), (b4, .inl (cA, 8, .inl (fun j => nI (od j)))), (b5, .inl (cA, 9, .inl (fun j => nI (ud j))))] H := hP
            have hD : va_D A [(g0, .inr (1, [.int (nI n), .ref b1, .int (nI 0), .ref b2, .ref b3, .ref b4, .ref b5])), (b1, .inl (cA, 64, .inl (fun j => nI ((upN ed ((8 * u) + v) to) j)))), (b2, .inl (cA, 8, .inl (fun j => nI (lw j)))), (b3, .inl (cA, 8, .inl (fun j => nI (hg j)))), (b4, .inl (cA, 8, .inl (fun j => nI (od j)))), (b5, .inl (cA, 9, .inl (fun j => nI (ud j))))] := hD
            refine lv_aload_n hx hb dM_change_70 rfl (lv_at hl 0 rfl) ?_
            refine va_get (D := D) (ci := 1) (v := .ref b1) (C := RM) (T := TM) (N := 7) hx hb hw uM hown hK hP 0 rfl rfl 1 (by decide) (hw _ w2_99) (fun _ h9 => h9) rfl dM_change_71 ?_
            refine lv_bipush (v := nI 8) hx hb dM_change_74 (by decide) ?_
            refine lv_iload_n hx hb dM_change_76 rfl (lv_at hl 2 rfl) ?_
            refine nv_imul (x := 8) (y := v) hx hb dM_change_77 ?_
            refine lv_iload_n hx hb dM_change_78 rfl (lv_at hl 1 rfl) ?_
            refine nv_iadd (x := 8 * v) (y := u) hx hb dM_change_79 ?_
            refine lv_iload_n hx hb dM_change_80 rfl (lv_at hl 3 rfl) ?_
            refine nv_iast (i := (8 * v) + u) (x := to) (f := upN ed ((8 * u) + v) to) hx hb hK hP hD hS 1 0 rfl rfl (by omega) (by omega) dM_change_81 (fun H locs hP hD hS => ?_)
            have hP : va_P D vwCl [(g0, .inr (1, [.int (nI n), .ref b1, .int (nI 0), .ref b2, .ref b3, .ref b4, .ref b5])), (b1, .inl (cA, 64, .inl (fun j => nI ((upN (upN ed ((8 * u) + v) to) ((8 * v) + u) to) j)))), (b2, .inl (cA, 8, .inl (fun j => nI (lw j)))), (b3, .inl (cA, 8, .inl (fun j => nI (hg j)))), (b4, .inl (cA, 8, .inl (fun j => nI (od j)))), (b5, .inl (cA, 9, .inl (fun j => nI (ud j))))] H := hP
            have hD : va_D A [(g0, .inr (1, [.int (nI n), .ref b1, .int (nI 0), .ref b2, .ref b3, .ref b4, .ref b5])), (b1, .inl (cA, 64, .inl (fun j => nI ((upN (upN ed ((8 * u) + v) to) ((8 * v) + u) to) j)))), (b2, .inl (cA, 8, .inl (fun j => nI (lw j)))), (b3, .inl (cA, 8, .inl (fun j => nI (hg j)))), (b4, .inl (cA, 8, .inl (fun j => nI (od j)))), (b5, .inl (cA, 9, .inl (fun j => nI (ud j))))] := hD
            refine lv_iconst (v := nI 1) hx hb dM_change_82 (by decide) ?_
            exact W.zret (v := (nI 1)) hx hb hr rfl (fun t ht hW => ⟨⟨_, (), rfl, rfl, by rw [ht]; exact hP, va_K.moved hW.alike hK, hD⟩, hS.F ht⟩) hS.2.2 dM_change_83
          · exact absurd hc53 he
      · exact absurd hc23 huv
    · exact absurd hc14 (by decide)

set_option maxHeartbeats 4000000 in
set_option maxRecDepth 100000 in
theorem cM_join_a1 (l : Launch) (D : va_G) (A : Nat → Prop) (g0 b1 b2 b3 b4 b5 : Nat) (cA : ClassId) (n ft : Nat) (ed lw hg od ud : Nat → Nat) (z1 z2 : Int32) (hn : n ≤ 8)(hz9 : ∀ k, k < n → z1 ≠ nI k) : Met l yM_join (Cond.code yM_join cM_join 3 (some FieldType.boolean) :: bw) (rmL 3) (va_Pc [.ref g0, .int z1, .int z2] (gW D vwCl A [(g0, .inr (1, [.int (nI n), .ref b1, .int (nI ft), .ref b2, .ref b3, .ref b4, .ref b5])), (b1, .inl (cA, 64, .inl (fun j => nI (ed j)))), (b2, .inl (cA, 8, .inl (fun j => nI (lw j)))), (b3, .inl (cA, 8, .inl (fun j => nI (hg j)))), (b4, .inl (cA, 8, .inl (fun j => nI (od j)))), (b5, .inl (cA, 9, .inl (fun j => nI (ud j))))] [(cA, .int)])) (va_Qi (fun (r9 : Int32) (_ : Unit) => r9 = (bI false)) (fun _ => gW D vwCl A [(g0, .inr (1, [.int (nI n), .ref b1, .int (nI 1), .ref b2, .ref b3, .ref b4, .ref b5])), (b1, .inl (cA, 64, .inl (fun j => nI (ed j)))), (b2, .inl (cA, 8, .inl (fun j => nI (lw j)))), (b3, .inl (cA, 8, .inl (fun j => nI (hg j)))), (b4, .inl (cA, 8, .inl (fun j => nI (od j)))), (b5, .inl (cA, 9, .inl (fun j => nI (ud j))))] [(cA, .int)]) A) 0 0 A := by
  refine Met.ofW (cc := cM_join) (maxL := 3) (ret := (some FieldType.boolean)) (by decide) rfl ?_
  intro p e s m args below meth c s₁ B9 hml hv
  obtain ⟨rfl, hP, hK, hD⟩ := hv
  have hx := B9.exec
  have hb := B9.bytes
  have hr := B9.returns
  have hts := atoms_spec (ws := (Cond.code yM_join cM_join 3 (some FieldType.boolean) :: bw)) B9.pre
  have hw : ∀ w ∈ bw, w.before _ s = true := fun w h => hts w (List.mem_cons_of_mem _ h)
  have hown : s.vm.findClass RM = some m.cls := findClass_of_methodNamed B9.named
  have hlocks := B9.notSynchronized
  have hl := lv_entry ([.ref g0, .int z1, .int z2]) (n := 3) (Nat.le_of_ble_eq_true rfl)
  rw [lg_entry_eq]
  generalize (lg_sl ([.ref g0, .int z1, .int z2]) ++ List.replicate (3 - (lg_sl ([.ref g0, .int z1, .int z2])).length) Slot.unset).toArray = ls at hl ⊢
  have hl : lv_has ls 3 [(0, .ref g0), (1, .int z1), (2, .int z2)] := hl
  have hS : va_S A s.heap s.heap [] := va_S.rf
  refine lv_aload_n hx hb dM_join_0 rfl (lv_at hl 0 rfl) ?_
  refine lv_iload_n hx hb dM_join_1 rfl (lv_at hl 1 rfl) ?_
  refine lv_iload_n hx hb dM_join_2 rfl (lv_at hl 2 rfl) ?_
  refine lv_iconst (v := nI 1) hx hb dM_join_3 (by decide) ?_
  refine va_calli (va_runV (C := RM) (As := [.int z1, .int z2, .int (nI 1)]) (rest := []) ⟨hx, hb, hml, hown, hw⟩ (cM_change_a1 l D A g0 b1 b2 b3 b4 b5 cA n ft ed lw hg od ud z1 z2 1 hn hz9) (cwV 3 hw (gV w2_136 w2_138 w0_16 w1_2 w2_139) rfl rfl rfl ⟨rfl, by decide, by decide, by decide +kernel⟩ ⟨Nat.le_of_ble_eq_true rfl, Nat.le_of_ble_eq_true rfl⟩) ⟨gW_blind, va_recv (q0 := 0) (ci := 1) hK hP rfl rfl, gW_at hP hK hD _⟩ rfl rfl hl.1 rfl (lv_room (Nat.le_of_ble_eq_true rfl)) dM_join_4 ⟨Nat.zero_le _, Nat.zero_le _⟩) hS (fun q _ h => h) (fun q h => h) (fun r9 u9 t9 H locs ht9 hvm9 hpost9 hB9 hz9 hk8 hS => ?_)
  obtain ⟨hP, -, hD⟩ := hB9
  rw [ht9] at hP
  subst hpost9
  have hP : va_P D vwCl [(g0, .inr (1, [.int (nI n), .ref b1, .int (nI 1), .ref b2, .ref b3, .ref b4, .ref b5])), (b1, .inl (cA, 64, .inl (fun j => nI (ed j)))), (b2, .inl (cA, 8, .inl (fun j => nI (lw j)))), (b3, .inl (cA, 8, .inl (fun j => nI (hg j)))), (b4, .inl (cA, 8, .inl (fun j => nI (od j)))), (b5, .inl (cA, 9, .inl (fun j => nI (ud j))))] H := hP
  have hD : va_D A [(g0, .inr (1, [.int (nI n), .ref b1, .int (nI 1), .ref b2, .ref b3, .ref b4, .ref b5])), (b1, .inl (cA, 64, .inl (fun j => nI (ed j)))), (b2, .inl (cA, 8, .inl (fun j => nI (lw j)))), (b3, .inl (cA, 8, .inl (fun j => nI (hg j)))), (b4, .inl (cA, 8, .inl (fun j => nI (od j)))), (b5, .inl (cA, 9, .inl (fun j => nI (ud j))))] := hD
  exact W.zret (v := (bI false)) hx hb hr (nb_nar _) (fun t ht hW => ⟨⟨_, (), rfl, rfl, by rw [ht]; exact hP, va_K.moved hW.alike hK, hD⟩, hS.F ht⟩) hS.2.2 dM_join_7

set_option maxHeartbeats 4000000 in
set_option maxRecDepth 100000 in
theorem cM_join_a2 (l : Launch) (D : va_G) (A : Nat → Prop) (g0 b1 b2 b3 b4 b5 : Nat) (cA : ClassId) (n ft : Nat) (ed lw hg od ud : Nat → Nat) (u : Nat) (z2 : Int32) (hn : n ≤ 8)(hu : u < n)(hz9 : ∀ k, k < n → z2 ≠ nI k) : Met l yM_join (Cond.code yM_join cM_join 3 (some FieldType.boolean) :: bw) (rmL 3) (va_Pc [.ref g0, .int (nI u), .int z2] (gW D vwCl A [(g0, .inr (1, [.int (nI n), .ref b1, .int (nI ft), .ref b2, .ref b3, .ref b4, .ref b5])), (b1, .inl (cA, 64, .inl (fun j => nI (ed j)))), (b2, .inl (cA, 8, .inl (fun j => nI (lw j)))), (b3, .inl (cA, 8, .inl (fun j => nI (hg j)))), (b4, .inl (cA, 8, .inl (fun j => nI (od j)))), (b5, .inl (cA, 9, .inl (fun j => nI (ud j))))] [(cA, .int)])) (va_Qi (fun (r9 : Int32) (_ : Unit) => r9 = (bI false)) (fun _ => gW D vwCl A [(g0, .inr (1, [.int (nI n), .ref b1, .int (nI 1), .ref b2, .ref b3, .ref b4, .ref b5])), (b1, .inl (cA, 64, .inl (fun j => nI (ed j)))), (b2, .inl (cA, 8, .inl (fun j => nI (lw j)))), (b3, .inl (cA, 8, .inl (fun j => nI (hg j)))), (b4, .inl (cA, 8, .inl (fun j => nI (od j)))), (b5, .inl (cA, 9, .inl (fun j => nI (ud j))))] [(cA, .int)]) A) 0 0 A := by
  refine Met.ofW (cc := cM_join) (maxL := 3) (ret := (some FieldType.boolean)) (by decide) rfl ?_
  intro p e s m args below meth c s₁ B9 hml hv
  obtain ⟨rfl, hP, hK, hD⟩ := hv
  have hx := B9.exec
  have hb := B9.bytes
  have hr := B9.returns
  have hts := atoms_spec (ws := (Cond.code yM_join cM_join 3 (some FieldType.boolean) :: bw)) B9.pre
  have hw : ∀ w ∈ bw, w.before _ s = true := fun w h => hts w (List.mem_cons_of_mem _ h)
  have hown : s.vm.findClass RM = some m.cls := findClass_of_methodNamed B9.named
  have hlocks := B9.notSynchronized
  have hl := lv_entry ([.ref g0, .int (nI u), .int z2]) (n := 3) (Nat.le_of_ble_eq_true rfl)
  rw [lg_entry_eq]
  generalize (lg_sl ([.ref g0, .int (nI u), .int z2]) ++ List.replicate (3 - (lg_sl ([.ref g0, .int (nI u), .int z2])).length) Slot.unset).toArray = ls at hl ⊢
  have hl : lv_has ls 3 [(0, .ref g0), (1, .int (nI u)), (2, .int z2)] := hl
  have hS : va_S A s.heap s.heap [] := va_S.rf
  refine lv_aload_n hx hb dM_join_0 rfl (lv_at hl 0 rfl) ?_
  refine lv_iload_n hx hb dM_join_1 rfl (lv_at hl 1 rfl) ?_
  refine lv_iload_n hx hb dM_join_2 rfl (lv_at hl 2 rfl) ?_
  refine lv_iconst (v := nI 1) hx hb dM_join_3 (by decide) ?_
  refine va_calli (va_runV (C := RM) (As := [.int (nI u), .int z2, .int (nI 1)]) (rest := []) ⟨hx, hb, hml, hown, hw⟩ (cM_change_a2 l D A g0 b1 b2 b3 b4 b5 cA n ft ed lw hg od ud u z2 1 hn hu hz9) (cwV 3 hw (gV w2_136 w2_138 w0_16 w1_2 w2_139) rfl rfl rfl ⟨rfl, by decide, by decide, by decide +kernel⟩ ⟨Nat.le_of_ble_eq_true rfl, Nat.le_of_ble_eq_true rfl⟩) ⟨gW_blind, va_recv (q0 := 0) (ci := 1) hK hP rfl rfl, gW_at hP hK hD _⟩ rfl rfl hl.1 rfl (lv_room (Nat.le_of_ble_eq_true rfl)) dM_join_4 ⟨Nat.zero_le _, Nat.zero_le _⟩) hS (fun q _ h => h) (fun q h => h) (fun r9 u9 t9 H locs ht9 hvm9 hpost9 hB9 hz9 hk8 hS => ?_)
  obtain ⟨hP, -, hD⟩ := hB9
  rw [ht9] at hP
  subst hpost9
  have hP : va_P D vwCl [(g0, .inr (1, [.int (nI n), .ref b1, .int (nI 1), .ref b2, .ref b3, .ref b4, .ref b5])), (b1, .inl (cA, 64, .inl (fun j => nI (ed j)))), (b2, .inl (cA, 8, .inl (fun j => nI (lw j)))), (b3, .inl (cA, 8, .inl (fun j => nI (hg j)))), (b4, .inl (cA, 8, .inl (fun j => nI (od j)))), (b5, .inl (cA, 9, .inl (fun j => nI (ud j))))] H := hP
  have hD : va_D A [(g0, .inr (1, [.int (nI n), .ref b1, .int (nI 1), .ref b2, .ref b3, .ref b4, .ref b5])), (b1, .inl (cA, 64, .inl (fun j => nI (ed j)))), (b2, .inl (cA, 8, .inl (fun j => nI (lw j)))), (b3, .inl (cA, 8, .inl (fun j => nI (hg j)))), (b4, .inl (cA, 8, .inl (fun j => nI (od j)))), (b5, .inl (cA, 9, .inl (fun j => nI (ud j))))] := hD
  exact W.zret (v := (bI false)) hx hb hr (nb_nar _) (fun t ht hW => ⟨⟨_, (), rfl, rfl, by rw [ht]; exact hP, va_K.moved hW.alike hK, hD⟩, hS.F ht⟩) hS.2.2 dM_join_7

set_option maxHeartbeats 4000000 in
set_option maxRecDepth 100000 in
theorem cM_join_b (l : Launch) (D : va_G) (A : Nat → Prop) (g0 b1 b2 b3 b4 b5 : Nat) (cA : ClassId) (n ft : Nat) (ed lw hg od ud : Nat → Nat) (u : Nat) (hn : n ≤ 8)(hu : u < n) : Met l yM_join (Cond.code yM_join cM_join 3 (some FieldType.boolean) :: bw) (rmL 3) (va_Pc [.ref g0, .int (nI u), .int (nI u)] (gW D vwCl A [(g0, .inr (1, [.int (nI n), .ref b1, .int (nI ft), .ref b2, .ref b3, .ref b4, .ref b5])), (b1, .inl (cA, 64, .inl (fun j => nI (ed j)))), (b2, .inl (cA, 8, .inl (fun j => nI (lw j)))), (b3, .inl (cA, 8, .inl (fun j => nI (hg j)))), (b4, .inl (cA, 8, .inl (fun j => nI (od j)))), (b5, .inl (cA, 9, .inl (fun j => nI (ud j))))] [(cA, .int)])) (va_Qi (fun (r9 : Int32) (_ : Unit) => r9 = (bI false)) (fun _ => gW D vwCl A [(g0, .inr (1, [.int (nI n), .ref b1, .int (nI 2), .ref b2, .ref b3, .ref b4, .ref b5])), (b1, .inl (cA, 64, .inl (fun j => nI (ed j)))), (b2, .inl (cA, 8, .inl (fun j => nI (lw j)))), (b3, .inl (cA, 8, .inl (fun j => nI (hg j)))), (b4, .inl (cA, 8, .inl (fun j => nI (od j)))), (b5, .inl (cA, 9, .inl (fun j => nI (ud j))))] [(cA, .int)]) A) 0 0 A := by
  refine Met.ofW (cc := cM_join) (maxL := 3) (ret := (some FieldType.boolean)) (by decide) rfl ?_
  intro p e s m args below meth c s₁ B9 hml hv
  obtain ⟨rfl, hP, hK, hD⟩ := hv
  have hx := B9.exec
  have hb := B9.bytes
  have hr := B9.returns
  have hts := atoms_spec (ws := (Cond.code yM_join cM_join 3 (some FieldType.boolean) :: bw)) B9.pre
  have hw : ∀ w ∈ bw, w.before _ s = true := fun w h => hts w (List.mem_cons_of_mem _ h)
  have hown : s.vm.findClass RM = some m.cls := findClass_of_methodNamed B9.named
  have hlocks := B9.notSynchronized
  have hl := lv_entry ([.ref g0, .int (nI u), .int (nI u)]) (n := 3) (Nat.le_of_ble_eq_true rfl)
  rw [lg_entry_eq]
  generalize (lg_sl ([.ref g0, .int (nI u), .int (nI u)]) ++ List.replicate (3 - (lg_sl ([.ref g0, .int (nI u), .int (nI u)])).length) Slot.unset).toArray = ls at hl ⊢
  have hl : lv_has ls 3 [(0, .ref g0), (1, .int (nI u)), (2, .int (nI u))] := hl
  have hS : va_S A s.heap s.heap [] := va_S.rf
  refine lv_aload_n hx hb dM_join_0 rfl (lv_at hl 0 rfl) ?_
  refine lv_iload_n hx hb dM_join_1 rfl (lv_at hl 1 rfl) ?_
  refine lv_iload_n hx hb dM_join_2 rfl (lv_at hl 2 rfl) ?_
  refine lv_iconst (v := nI 1) hx hb dM_join_3 (by decide) ?_
  refine va_calli (va_runV (C := RM) (As := [.int (nI u), .int (nI u), .int (nI 1)]) (rest := []) ⟨hx, hb, hml, hown, hw⟩ (cM_change_b l D A g0 b1 b2 b3 b4 b5 cA n ft ed lw hg od ud u 1 hn hu) (cwV 3 hw (gV w2_136 w2_138 w0_16 w1_2 w2_139) rfl rfl rfl ⟨rfl, by decide, by decide, by decide +kernel⟩ ⟨Nat.le_of_ble_eq_true rfl, Nat.le_of_ble_eq_true rfl⟩) ⟨gW_blind, va_recv (q0 := 0) (ci := 1) hK hP rfl rfl, gW_at hP hK hD _⟩ rfl rfl hl.1 rfl (lv_room (Nat.le_of_ble_eq_true rfl)) dM_join_4 ⟨Nat.zero_le _, Nat.zero_le _⟩) hS (fun q _ h => h) (fun q h => h) (fun r9 u9 t9 H locs ht9 hvm9 hpost9 hB9 hz9 hk8 hS => ?_)
  obtain ⟨hP, -, hD⟩ := hB9
  rw [ht9] at hP
  subst hpost9
  have hP : va_P D vwCl [(g0, .inr (1, [.int (nI n), .ref b1, .int (nI 2), .ref b2, .ref b3, .ref b4, .ref b5])), (b1, .inl (cA, 64, .inl (fun j => nI (ed j)))), (b2, .inl (cA, 8, .inl (fun j => nI (lw j)))), (b3, .inl (cA, 8, .inl (fun j => nI (hg j)))), (b4, .inl (cA, 8, .inl (fun j => nI (od j)))), (b5, .inl (cA, 9, .inl (fun j => nI (ud j))))] H := hP
  have hD : va_D A [(g0, .inr (1, [.int (nI n), .ref b1, .int (nI 2), .ref b2, .ref b3, .ref b4, .ref b5])), (b1, .inl (cA, 64, .inl (fun j => nI (ed j)))), (b2, .inl (cA, 8, .inl (fun j => nI (lw j)))), (b3, .inl (cA, 8, .inl (fun j => nI (hg j)))), (b4, .inl (cA, 8, .inl (fun j => nI (od j)))), (b5, .inl (cA, 9, .inl (fun j => nI (ud j))))] := hD
  exact W.zret (v := (bI false)) hx hb hr (nb_nar _) (fun t ht hW => ⟨⟨_, (), rfl, rfl, by rw [ht]; exact hP, va_K.moved hW.alike hK, hD⟩, hS.F ht⟩) hS.2.2 dM_join_7

set_option maxHeartbeats 4000000 in
set_option maxRecDepth 100000 in
theorem cM_join_c (l : Launch) (D : va_G) (A : Nat → Prop) (g0 b1 b2 b3 b4 b5 : Nat) (cA : ClassId) (n ft : Nat) (ed lw hg od ud : Nat → Nat) (u v : Nat) (hn : n ≤ 8)(hed1 : ∀ k, k < 64 → ed k ≤ 1)(hu : u < n) (hv : v < n) (huv : u ≠ v)(he : ed (8 * u + v) = 1) : Met l yM_join (Cond.code yM_join cM_join 3 (some FieldType.boolean) :: bw) (rmL 3) (va_Pc [.ref g0, .int (nI u), .int (nI v)] (gW D vwCl A [(g0, .inr (1, [.int (nI n), .ref b1, .int (nI ft), .ref b2, .ref b3, .ref b4, .ref b5])), (b1, .inl (cA, 64, .inl (fun j => nI (ed j)))), (b2, .inl (cA, 8, .inl (fun j => nI (lw j)))), (b3, .inl (cA, 8, .inl (fun j => nI (hg j)))), (b4, .inl (cA, 8, .inl (fun j => nI (od j)))), (b5, .inl (cA, 9, .inl (fun j => nI (ud j))))] [(cA, .int)])) (va_Qi (fun (r9 : Int32) (_ : Unit) => r9 = (bI false)) (fun _ => gW D vwCl A [(g0, .inr (1, [.int (nI n), .ref b1, .int (nI 0), .ref b2, .ref b3, .ref b4, .ref b5])), (b1, .inl (cA, 64, .inl (fun j => nI (ed j)))), (b2, .inl (cA, 8, .inl (fun j => nI (lw j)))), (b3, .inl (cA, 8, .inl (fun j => nI (hg j)))), (b4, .inl (cA, 8, .inl (fun j => nI (od j)))), (b5, .inl (cA, 9, .inl (fun j => nI (ud j))))] [(cA, .int)]) A) 0 0 A := by
  refine Met.ofW (cc := cM_join) (maxL := 3) (ret := (some FieldType.boolean)) (by decide) rfl ?_
  intro p e s m args below meth c s₁ B9 hml hv
  obtain ⟨rfl, hP, hK, hD⟩ := hv
  have hx := B9.exec
  have hb := B9.bytes
  have hr := B9.returns
  have hts := atoms_spec (ws := (Cond.code yM_join cM_join 3 (some FieldType.boolean) :: bw)) B9.pre
  have hw : ∀ w ∈ bw, w.before _ s = true := fun w h => hts w (List.mem_cons_of_mem _ h)
  have hown : s.vm.findClass RM = some m.cls := findClass_of_methodNamed B9.named
  have hlocks := B9.notSynchronized
  have hl := lv_entry ([.ref g0, .int (nI u), .int (nI v)]) (n := 3) (Nat.le_of_ble_eq_true rfl)
  rw [lg_entry_eq]
  generalize (lg_sl ([.ref g0, .int (nI u), .int (nI v)]) ++ List.replicate (3 - (lg_sl ([.ref g0, .int (nI u), .int (nI v)])).length) Slot.unset).toArray = ls at hl ⊢
  have hl : lv_has ls 3 [(0, .ref g0), (1, .int (nI u)), (2, .int (nI v))] := hl
  have hS : va_S A s.heap s.heap [] := va_S.rf
  refine lv_aload_n hx hb dM_join_0 rfl (lv_at hl 0 rfl) ?_
  refine lv_iload_n hx hb dM_join_1 rfl (lv_at hl 1 rfl) ?_
  refine lv_iload_n hx hb dM_join_2 rfl (lv_at hl 2 rfl) ?_
  refine lv_iconst (v := nI 1) hx hb dM_join_3 (by decide) ?_
  refine va_calli (va_runV (C := RM) (As := [.int (nI u), .int (nI v), .int (nI 1)]) (rest := []) ⟨hx, hb, hml, hown, hw⟩ (cM_change_c l D A g0 b1 b2 b3 b4 b5 cA n ft ed lw hg od ud u v 1 hn hed1 hu hv huv (by omega) he) (cwV 3 hw (gV w2_136 w2_138 w0_16 w1_2 w2_139) rfl rfl rfl ⟨rfl, by decide, by decide, by decide +kernel⟩ ⟨Nat.le_of_ble_eq_true rfl, Nat.le_of_ble_eq_true rfl⟩) ⟨gW_blind, va_recv (q0 := 0) (ci := 1) hK hP rfl rfl, gW_at hP hK hD _⟩ rfl rfl hl.1 rfl (lv_room (Nat.le_of_ble_eq_true rfl)) dM_join_4 ⟨Nat.zero_le _, Nat.zero_le _⟩) hS (fun q _ h => h) (fun q h => h) (fun r9 u9 t9 H locs ht9 hvm9 hpost9 hB9 hz9 hk8 hS => ?_)
  obtain ⟨hP, -, hD⟩ := hB9
  rw [ht9] at hP
  subst hpost9
  have hP : va_P D vwCl [(g0, .inr (1, [.int (nI n), .ref b1, .int (nI 0), .ref b2, .ref b3, .ref b4, .ref b5])), (b1, .inl (cA, 64, .inl (fun j => nI (ed j)))), (b2, .inl (cA, 8, .inl (fun j => nI (lw j)))), (b3, .inl (cA, 8, .inl (fun j => nI (hg j)))), (b4, .inl (cA, 8, .inl (fun j => nI (od j)))), (b5, .inl (cA, 9, .inl (fun j => nI (ud j))))] H := hP
  have hD : va_D A [(g0, .inr (1, [.int (nI n), .ref b1, .int (nI 0), .ref b2, .ref b3, .ref b4, .ref b5])), (b1, .inl (cA, 64, .inl (fun j => nI (ed j)))), (b2, .inl (cA, 8, .inl (fun j => nI (lw j)))), (b3, .inl (cA, 8, .inl (fun j => nI (hg j)))), (b4, .inl (cA, 8, .inl (fun j => nI (od j)))), (b5, .inl (cA, 9, .inl (fun j => nI (ud j))))] := hD
  exact W.zret (v := (bI false)) hx hb hr (nb_nar _) (fun t ht hW => ⟨⟨_, (), rfl, rfl, by rw [ht]; exact hP, va_K.moved hW.alike hK, hD⟩, hS.F ht⟩) hS.2.2 dM_join_7

set_option maxHeartbeats 4000000 in
set_option maxRecDepth 100000 in
theorem cM_join_d (l : Launch) (D : va_G) (A : Nat → Prop) (g0 b1 b2 b3 b4 b5 : Nat) (cA : ClassId) (n ft : Nat) (ed lw hg od ud : Nat → Nat) (u v : Nat) (hn : n ≤ 8)(hed1 : ∀ k, k < 64 → ed k ≤ 1)(hu : u < n) (hv : v < n) (huv : u ≠ v)(he : ed (8 * u + v) ≠ 1) : Met l yM_join (Cond.code yM_join cM_join 3 (some FieldType.boolean) :: bw) (rmL 3) (va_Pc [.ref g0, .int (nI u), .int (nI v)] (gW D vwCl A [(g0, .inr (1, [.int (nI n), .ref b1, .int (nI ft), .ref b2, .ref b3, .ref b4, .ref b5])), (b1, .inl (cA, 64, .inl (fun j => nI (ed j)))), (b2, .inl (cA, 8, .inl (fun j => nI (lw j)))), (b3, .inl (cA, 8, .inl (fun j => nI (hg j)))), (b4, .inl (cA, 8, .inl (fun j => nI (od j)))), (b5, .inl (cA, 9, .inl (fun j => nI (ud j))))] [(cA, .int)])) (va_Qi (fun (r9 : Int32) (_ : Unit) => r9 = (bI true)) (fun _ => gW D vwCl A [(g0, .inr (1, [.int (nI n), .ref b1, .int (nI 0), .ref b2, .ref b3, .ref b4, .ref b5])), (b1, .inl (cA, 64, .inl (fun j => nI ((upN (upN ed (8 * u + v) 1) (8 * v + u) 1) j)))), (b2, .inl (cA, 8, .inl (fun j => nI (lw j)))), (b3, .inl (cA, 8, .inl (fun j => nI (hg j)))), (b4, .inl (cA, 8, .inl (fun j => nI (od j)))), (b5, .inl (cA, 9, .inl (fun j => nI (ud j))))] [(cA, .int)]) A) 0 0 A := by
  refine Met.ofW (cc := cM_join) (maxL := 3) (ret := (some FieldType.boolean)) (by decide) rfl ?_
  intro p e s m args below meth c s₁ B9 hml hv
  obtain ⟨rfl, hP, hK, hD⟩ := hv
  have hx := B9.exec
  have hb := B9.bytes
  have hr := B9.returns
  have hts := atoms_spec (ws := (Cond.code yM_join cM_join 3 (some FieldType.boolean) :: bw)) B9.pre
  have hw : ∀ w ∈ bw, w.before _ s = true := fun w h => hts w (List.mem_cons_of_mem _ h)
  have hown : s.vm.findClass RM = some m.cls := findClass_of_methodNamed B9.named
  have hlocks := B9.notSynchronized
  have hl := lv_entry ([.ref g0, .int (nI u), .int (nI v)]) (n := 3) (Nat.le_of_ble_eq_true rfl)
  rw [lg_entry_eq]
  generalize (lg_sl ([.ref g0, .int (nI u), .int (nI v)]) ++ List.replicate (3 - (lg_sl ([.ref g0, .int (nI u), .int (nI v)])).length) Slot.unset).toArray = ls at hl ⊢
  have hl : lv_has ls 3 [(0, .ref g0), (1, .int (nI u)), (2, .int (nI v))] := hl
  have hS : va_S A s.heap s.heap [] := va_S.rf
  refine lv_aload_n hx hb dM_join_0 rfl (lv_at hl 0 rfl) ?_
  refine lv_iload_n hx hb dM_join_1 rfl (lv_at hl 1 rfl) ?_
  refine lv_iload_n hx hb dM_join_2 rfl (lv_at hl 2 rfl) ?_
  refine lv_iconst (v := nI 1) hx hb dM_join_3 (by decide) ?_
  refine va_calli (va_runV (C := RM) (As := [.int (nI u), .int (nI v), .int (nI 1)]) (rest := []) ⟨hx, hb, hml, hown, hw⟩ (cM_change_d l D A g0 b1 b2 b3 b4 b5 cA n ft ed lw hg od ud u v 1 hn hed1 hu hv huv (by omega) he) (cwV 3 hw (gV w2_136 w2_138 w0_16 w1_2 w2_139) rfl rfl rfl ⟨rfl, by decide, by decide, by decide +kernel⟩ ⟨Nat.le_of_ble_eq_true rfl, Nat.le_of_ble_eq_true rfl⟩) ⟨gW_blind, va_recv (q0 := 0) (ci := 1) hK hP rfl rfl, gW_at hP hK hD _⟩ rfl rfl hl.1 rfl (lv_room (Nat.le_of_ble_eq_true rfl)) dM_join_4 ⟨Nat.zero_le _, Nat.zero_le _⟩) hS (fun q _ h => h) (fun q h => h) (fun r9 u9 t9 H locs ht9 hvm9 hpost9 hB9 hz9 hk8 hS => ?_)
  obtain ⟨hP, -, hD⟩ := hB9
  rw [ht9] at hP
  subst hpost9
  have hP : va_P D vwCl [(g0, .inr (1, [.int (nI n), .ref b1, .int (nI 0), .ref b2, .ref b3, .ref b4, .ref b5])), (b1, .inl (cA, 64, .inl (fun j => nI ((upN (upN ed (8 * u + v) 1) (8 * v + u) 1) j)))), (b2, .inl (cA, 8, .inl (fun j => nI (lw j)))), (b3, .inl (cA, 8, .inl (fun j => nI (hg j)))), (b4, .inl (cA, 8, .inl (fun j => nI (od j)))), (b5, .inl (cA, 9, .inl (fun j => nI (ud j))))] H := hP
  have hD : va_D A [(g0, .inr (1, [.int (nI n), .ref b1, .int (nI 0), .ref b2, .ref b3, .ref b4, .ref b5])), (b1, .inl (cA, 64, .inl (fun j => nI ((upN (upN ed (8 * u + v) 1) (8 * v + u) 1) j)))), (b2, .inl (cA, 8, .inl (fun j => nI (lw j)))), (b3, .inl (cA, 8, .inl (fun j => nI (hg j)))), (b4, .inl (cA, 8, .inl (fun j => nI (od j)))), (b5, .inl (cA, 9, .inl (fun j => nI (ud j))))] := hD
  exact W.zret (v := (bI true)) hx hb hr (nb_nar _) (fun t ht hW => ⟨⟨_, (), rfl, rfl, by rw [ht]; exact hP, va_K.moved hW.alike hK, hD⟩, hS.F ht⟩) hS.2.2 dM_join_7

set_option maxHeartbeats 4000000 in
set_option maxRecDepth 100000 in
theorem cM_part_a1 (l : Launch) (D : va_G) (A : Nat → Prop) (g0 b1 b2 b3 b4 b5 : Nat) (cA : ClassId) (n ft : Nat) (ed lw hg od ud : Nat → Nat) (z1 z2 : Int32) (hn : n ≤ 8)(hz9 : ∀ k, k < n → z1 ≠ nI k) : Met l yM_part (Cond.code yM_part cM_part 3 (some FieldType.boolean) :: bw) (rmL 3) (va_Pc [.ref g0, .int z1, .int z2] (gW D vwCl A [(g0, .inr (1, [.int (nI n), .ref b1, .int (nI ft), .ref b2, .ref b3, .ref b4, .ref b5])), (b1, .inl (cA, 64, .inl (fun j => nI (ed j)))), (b2, .inl (cA, 8, .inl (fun j => nI (lw j)))), (b3, .inl (cA, 8, .inl (fun j => nI (hg j)))), (b4, .inl (cA, 8, .inl (fun j => nI (od j)))), (b5, .inl (cA, 9, .inl (fun j => nI (ud j))))] [(cA, .int)])) (va_Qi (fun (r9 : Int32) (_ : Unit) => r9 = (bI false)) (fun _ => gW D vwCl A [(g0, .inr (1, [.int (nI n), .ref b1, .int (nI 1), .ref b2, .ref b3, .ref b4, .ref b5])), (b1, .inl (cA, 64, .inl (fun j => nI (ed j)))), (b2, .inl (cA, 8, .inl (fun j => nI (lw j)))), (b3, .inl (cA, 8, .inl (fun j => nI (hg j)))), (b4, .inl (cA, 8, .inl (fun j => nI (od j)))), (b5, .inl (cA, 9, .inl (fun j => nI (ud j))))] [(cA, .int)]) A) 0 0 A := by
  refine Met.ofW (cc := cM_part) (maxL := 3) (ret := (some FieldType.boolean)) (by decide) rfl ?_
  intro p e s m args below meth c s₁ B9 hml hv
  obtain ⟨rfl, hP, hK, hD⟩ := hv
  have hx := B9.exec
  have hb := B9.bytes
  have hr := B9.returns
  have hts := atoms_spec (ws := (Cond.code yM_part cM_part 3 (some FieldType.boolean) :: bw)) B9.pre
  have hw : ∀ w ∈ bw, w.before _ s = true := fun w h => hts w (List.mem_cons_of_mem _ h)
  have hown : s.vm.findClass RM = some m.cls := findClass_of_methodNamed B9.named
  have hlocks := B9.notSynchronized
  have hl := lv_entry ([.ref g0, .int z1, .int z2]) (n := 3) (Nat.le_of_ble_eq_true rfl)
  rw [lg_entry_eq]
  generalize (lg_sl ([.ref g0, .int z1, .int z2]) ++ List.replicate (3 - (lg_sl ([.ref g0, .int z1, .int z2])).length) Slot.unset).toArray = ls at hl ⊢
  have hl : lv_has ls 3 [(0, .ref g0), (1, .int z1), (2, .int z2)] := hl
  have hS : va_S A s.heap s.heap [] := va_S.rf
  refine lv_aload_n hx hb dM_part_0 rfl (lv_at hl 0 rfl) ?_
  refine lv_iload_n hx hb dM_part_1 rfl (lv_at hl 1 rfl) ?_
  refine lv_iload_n hx hb dM_part_2 rfl (lv_at hl 2 rfl) ?_
  refine lv_iconst (v := nI 0) hx hb dM_part_3 (by decide) ?_
  refine va_calli (va_runV (C := RM) (As := [.int z1, .int z2, .int (nI 0)]) (rest := []) ⟨hx, hb, hml, hown, hw⟩ (cM_change_a1 l D A g0 b1 b2 b3 b4 b5 cA n ft ed lw hg od ud z1 z2 0 hn hz9) (cwV 3 hw (gV w2_136 w2_138 w0_16 w1_2 w2_139) rfl rfl rfl ⟨rfl, by decide, by decide, by decide +kernel⟩ ⟨Nat.le_of_ble_eq_true rfl, Nat.le_of_ble_eq_true rfl⟩) ⟨gW_blind, va_recv (q0 := 0) (ci := 1) hK hP rfl rfl, gW_at hP hK hD _⟩ rfl rfl hl.1 rfl (lv_room (Nat.le_of_ble_eq_true rfl)) dM_part_4 ⟨Nat.zero_le _, Nat.zero_le _⟩) hS (fun q _ h => h) (fun q h => h) (fun r9 u9 t9 H locs ht9 hvm9 hpost9 hB9 hz9 hk8 hS => ?_)
  obtain ⟨hP, -, hD⟩ := hB9
  rw [ht9] at hP
  subst hpost9
  have hP : va_P D vwCl [(g0, .inr (1, [.int (nI n), .ref b1, .int (nI 1), .ref b2, .ref b3, .ref b4, .ref b5])), (b1, .inl (cA, 64, .inl (fun j => nI (ed j)))), (b2, .inl (cA, 8, .inl (fun j => nI (lw j)))), (b3, .inl (cA, 8, .inl (fun j => nI (hg j)))), (b4, .inl (cA, 8, .inl (fun j => nI (od j)))), (b5, .inl (cA, 9, .inl (fun j => nI (ud j))))] H := hP
  have hD : va_D A [(g0, .inr (1, [.int (nI n), .ref b1, .int (nI 1), .ref b2, .ref b3, .ref b4, .ref b5])), (b1, .inl (cA, 64, .inl (fun j => nI (ed j)))), (b2, .inl (cA, 8, .inl (fun j => nI (lw j)))), (b3, .inl (cA, 8, .inl (fun j => nI (hg j)))), (b4, .inl (cA, 8, .inl (fun j => nI (od j)))), (b5, .inl (cA, 9, .inl (fun j => nI (ud j))))] := hD
  exact W.zret (v := (bI false)) hx hb hr (nb_nar _) (fun t ht hW => ⟨⟨_, (), rfl, rfl, by rw [ht]; exact hP, va_K.moved hW.alike hK, hD⟩, hS.F ht⟩) hS.2.2 dM_part_7

set_option maxHeartbeats 4000000 in
set_option maxRecDepth 100000 in
theorem cM_part_a2 (l : Launch) (D : va_G) (A : Nat → Prop) (g0 b1 b2 b3 b4 b5 : Nat) (cA : ClassId) (n ft : Nat) (ed lw hg od ud : Nat → Nat) (u : Nat) (z2 : Int32) (hn : n ≤ 8)(hu : u < n)(hz9 : ∀ k, k < n → z2 ≠ nI k) : Met l yM_part (Cond.code yM_part cM_part 3 (some FieldType.boolean) :: bw) (rmL 3) (va_Pc [.ref g0, .int (nI u), .int z2] (gW D vwCl A [(g0, .inr (1, [.int (nI n), .ref b1, .int (nI ft), .ref b2, .ref b3, .ref b4, .ref b5])), (b1, .inl (cA, 64, .inl (fun j => nI (ed j)))), (b2, .inl (cA, 8, .inl (fun j => nI (lw j)))), (b3, .inl (cA, 8, .inl (fun j => nI (hg j)))), (b4, .inl (cA, 8, .inl (fun j => nI (od j)))), (b5, .inl (cA, 9, .inl (fun j => nI (ud j))))] [(cA, .int)])) (va_Qi (fun (r9 : Int32) (_ : Unit) => r9 = (bI false)) (fun _ => gW D vwCl A [(g0, .inr (1, [.int (nI n), .ref b1, .int (nI 1), .ref b2, .ref b3, .ref b4, .ref b5])), (b1, .inl (cA, 64, .inl (fun j => nI (ed j)))), (b2, .inl (cA, 8, .inl (fun j => nI (lw j)))), (b3, .inl (cA, 8, .inl (fun j => nI (hg j)))), (b4, .inl (cA, 8, .inl (fun j => nI (od j)))), (b5, .inl (cA, 9, .inl (fun j => nI (ud j))))] [(cA, .int)]) A) 0 0 A := by
  refine Met.ofW (cc := cM_part) (maxL := 3) (ret := (some FieldType.boolean)) (by decide) rfl ?_
  intro p e s m args below meth c s₁ B9 hml hv
  obtain ⟨rfl, hP, hK, hD⟩ := hv
  have hx := B9.exec
  have hb := B9.bytes
  have hr := B9.returns
  have hts := atoms_spec (ws := (Cond.code yM_part cM_part 3 (some FieldType.boolean) :: bw)) B9.pre
  have hw : ∀ w ∈ bw, w.before _ s = true := fun w h => hts w (List.mem_cons_of_mem _ h)
  have hown : s.vm.findClass RM = some m.cls := findClass_of_methodNamed B9.named
  have hlocks := B9.notSynchronized
  have hl := lv_entry ([.ref g0, .int (nI u), .int z2]) (n := 3) (Nat.le_of_ble_eq_true rfl)
  rw [lg_entry_eq]
  generalize (lg_sl ([.ref g0, .int (nI u), .int z2]) ++ List.replicate (3 - (lg_sl ([.ref g0, .int (nI u), .int z2])).length) Slot.unset).toArray = ls at hl ⊢
  have hl : lv_has ls 3 [(0, .ref g0), (1, .int (nI u)), (2, .int z2)] := hl
  have hS : va_S A s.heap s.heap [] := va_S.rf
  refine lv_aload_n hx hb dM_part_0 rfl (lv_at hl 0 rfl) ?_
  refine lv_iload_n hx hb dM_part_1 rfl (lv_at hl 1 rfl) ?_
  refine lv_iload_n hx hb dM_part_2 rfl (lv_at hl 2 rfl) ?_
  refine lv_iconst (v := nI 0) hx hb dM_part_3 (by decide) ?_
  refine va_calli (va_runV (C := RM) (As := [.int (nI u), .int z2, .int (nI 0)]) (rest := []) ⟨hx, hb, hml, hown, hw⟩ (cM_change_a2 l D A g0 b1 b2 b3 b4 b5 cA n ft ed lw hg od ud u z2 0 hn hu hz9) (cwV 3 hw (gV w2_136 w2_138 w0_16 w1_2 w2_139) rfl rfl rfl ⟨rfl, by decide, by decide, by decide +kernel⟩ ⟨Nat.le_of_ble_eq_true rfl, Nat.le_of_ble_eq_true rfl⟩) ⟨gW_blind, va_recv (q0 := 0) (ci := 1) hK hP rfl rfl, gW_at hP hK hD _⟩ rfl rfl hl.1 rfl (lv_room (Nat.le_of_ble_eq_true rfl)) dM_part_4 ⟨Nat.zero_le _, Nat.zero_le _⟩) hS (fun q _ h => h) (fun q h => h) (fun r9 u9 t9 H locs ht9 hvm9 hpost9 hB9 hz9 hk8 hS => ?_)
  obtain ⟨hP, -, hD⟩ := hB9
  rw [ht9] at hP
  subst hpost9
  have hP : va_P D vwCl [(g0, .inr (1, [.int (nI n), .ref b1, .int (nI 1), .ref b2, .ref b3, .ref b4, .ref b5])), (b1, .inl (cA, 64, .inl (fun j => nI (ed j)))), (b2, .inl (cA, 8, .inl (fun j => nI (lw j)))), (b3, .inl (cA, 8, .inl (fun j => nI (hg j)))), (b4, .inl (cA, 8, .inl (fun j => nI (od j)))), (b5, .inl (cA, 9, .inl (fun j => nI (ud j))))] H := hP
  have hD : va_D A [(g0, .inr (1, [.int (nI n), .ref b1, .int (nI 1), .ref b2, .ref b3, .ref b4, .ref b5])), (b1, .inl (cA, 64, .inl (fun j => nI (ed j)))), (b2, .inl (cA, 8, .inl (fun j => nI (lw j)))), (b3, .inl (cA, 8, .inl (fun j => nI (hg j)))), (b4, .inl (cA, 8, .inl (fun j => nI (od j)))), (b5, .inl (cA, 9, .inl (fun j => nI (ud j))))] := hD
  exact W.zret (v := (bI false)) hx hb hr (nb_nar _) (fun t ht hW => ⟨⟨_, (), rfl, rfl, by rw [ht]; exact hP, va_K.moved hW.alike hK, hD⟩, hS.F ht⟩) hS.2.2 dM_part_7

set_option maxHeartbeats 4000000 in
set_option maxRecDepth 100000 in
theorem cM_part_b (l : Launch) (D : va_G) (A : Nat → Prop) (g0 b1 b2 b3 b4 b5 : Nat) (cA : ClassId) (n ft : Nat) (ed lw hg od ud : Nat → Nat) (u : Nat) (hn : n ≤ 8)(hu : u < n) : Met l yM_part (Cond.code yM_part cM_part 3 (some FieldType.boolean) :: bw) (rmL 3) (va_Pc [.ref g0, .int (nI u), .int (nI u)] (gW D vwCl A [(g0, .inr (1, [.int (nI n), .ref b1, .int (nI ft), .ref b2, .ref b3, .ref b4, .ref b5])), (b1, .inl (cA, 64, .inl (fun j => nI (ed j)))), (b2, .inl (cA, 8, .inl (fun j => nI (lw j)))), (b3, .inl (cA, 8, .inl (fun j => nI (hg j)))), (b4, .inl (cA, 8, .inl (fun j => nI (od j)))), (b5, .inl (cA, 9, .inl (fun j => nI (ud j))))] [(cA, .int)])) (va_Qi (fun (r9 : Int32) (_ : Unit) => r9 = (bI false)) (fun _ => gW D vwCl A [(g0, .inr (1, [.int (nI n), .ref b1, .int (nI 2), .ref b2, .ref b3, .ref b4, .ref b5])), (b1, .inl (cA, 64, .inl (fun j => nI (ed j)))), (b2, .inl (cA, 8, .inl (fun j => nI (lw j)))), (b3, .inl (cA, 8, .inl (fun j => nI (hg j)))), (b4, .inl (cA, 8, .inl (fun j => nI (od j)))), (b5, .inl (cA, 9, .inl (fun j => nI (ud j))))] [(cA, .int)]) A) 0 0 A := by
  refine Met.ofW (cc := cM_part) (maxL := 3) (ret := (some FieldType.boolean)) (by decide) rfl ?_
  intro p e s m args below meth c s₁ B9 hml hv
  obtain ⟨rfl, hP, hK, hD⟩ := hv
  have hx := B9.exec
  have hb := B9.bytes
  have hr := B9.returns
  have hts := atoms_spec (ws := (Cond.code yM_part cM_part 3 (some FieldType.boolean) :: bw)) B9.pre
  have hw : ∀ w ∈ bw, w.before _ s = true := fun w h => hts w (List.mem_cons_of_mem _ h)
  have hown : s.vm.findClass RM = some m.cls := findClass_of_methodNamed B9.named
  have hlocks := B9.notSynchronized
  have hl := lv_entry ([.ref g0, .int (nI u), .int (nI u)]) (n := 3) (Nat.le_of_ble_eq_true rfl)
  rw [lg_entry_eq]
  generalize (lg_sl ([.ref g0, .int (nI u), .int (nI u)]) ++ List.replicate (3 - (lg_sl ([.ref g0, .int (nI u), .int (nI u)])).length) Slot.unset).toArray = ls at hl ⊢
  have hl : lv_has ls 3 [(0, .ref g0), (1, .int (nI u)), (2, .int (nI u))] := hl
  have hS : va_S A s.heap s.heap [] := va_S.rf
  refine lv_aload_n hx hb dM_part_0 rfl (lv_at hl 0 rfl) ?_
  refine lv_iload_n hx hb dM_part_1 rfl (lv_at hl 1 rfl) ?_
  refine lv_iload_n hx hb dM_part_2 rfl (lv_at hl 2 rfl) ?_
  refine lv_iconst (v := nI 0) hx hb dM_part_3 (by decide) ?_
  refine va_calli (va_runV (C := RM) (As := [.int (nI u), .int (nI u), .int (nI 0)]) (rest := []) ⟨hx, hb, hml, hown, hw⟩ (cM_change_b l D A g0 b1 b2 b3 b4 b5 cA n ft ed lw hg od ud u 0 hn hu) (cwV 3 hw (gV w2_136 w2_138 w0_16 w1_2 w2_139) rfl rfl rfl ⟨rfl, by decide, by decide, by decide +kernel⟩ ⟨Nat.le_of_ble_eq_true rfl, Nat.le_of_ble_eq_true rfl⟩) ⟨gW_blind, va_recv (q0 := 0) (ci := 1) hK hP rfl rfl, gW_at hP hK hD _⟩ rfl rfl hl.1 rfl (lv_room (Nat.le_of_ble_eq_true rfl)) dM_part_4 ⟨Nat.zero_le _, Nat.zero_le _⟩) hS (fun q _ h => h) (fun q h => h) (fun r9 u9 t9 H locs ht9 hvm9 hpost9 hB9 hz9 hk8 hS => ?_)
  obtain ⟨hP, -, hD⟩ := hB9
  rw [ht9] at hP
  subst hpost9
  have hP : va_P D vwCl [(g0, .inr (1, [.int (nI n), .ref b1, .int (nI 2), .ref b2, .ref b3, .ref b4, .ref b5])), (b1, .inl (cA, 64, .inl (fun j => nI (ed j)))), (b2, .inl (cA, 8, .inl (fun j => nI (lw j)))), (b3, .inl (cA, 8, .inl (fun j => nI (hg j)))), (b4, .inl (cA, 8, .inl (fun j => nI (od j)))), (b5, .inl (cA, 9, .inl (fun j => nI (ud j))))] H := hP
  have hD : va_D A [(g0, .inr (1, [.int (nI n), .ref b1, .int (nI 2), .ref b2, .ref b3, .ref b4, .ref b5])), (b1, .inl (cA, 64, .inl (fun j => nI (ed j)))), (b2, .inl (cA, 8, .inl (fun j => nI (lw j)))), (b3, .inl (cA, 8, .inl (fun j => nI (hg j)))), (b4, .inl (cA, 8, .inl (fun j => nI (od j)))), (b5, .inl (cA, 9, .inl (fun j => nI (ud j))))] := hD
  exact W.zret (v := (bI false)) hx hb hr (nb_nar _) (fun t ht hW => ⟨⟨_, (), rfl, rfl, by rw [ht]; exact hP, va_K.moved hW.alike hK, hD⟩, hS.F ht⟩) hS.2.2 dM_part_7

set_option maxHeartbeats 4000000 in
set_option maxRecDepth 100000 in
theorem cM_part_c (l : Launch) (D : va_G) (A : Nat → Prop) (g0 b1 b2 b3 b4 b5 : Nat) (cA : ClassId) (n ft : Nat) (ed lw hg od ud : Nat → Nat) (u v : Nat) (hn : n ≤ 8)(hed1 : ∀ k, k < 64 → ed k ≤ 1)(hu : u < n) (hv : v < n) (huv : u ≠ v)(he : ed (8 * u + v) = 0) : Met l yM_part (Cond.code yM_part cM_part 3 (some FieldType.boolean) :: bw) (rmL 3) (va_Pc [.ref g0, .int (nI u), .int (nI v)] (gW D vwCl A [(g0, .inr (1, [.int (nI n), .ref b1, .int (nI ft), .ref b2, .ref b3, .ref b4, .ref b5])), (b1, .inl (cA, 64, .inl (fun j => nI (ed j)))), (b2, .inl (cA, 8, .inl (fun j => nI (lw j)))), (b3, .inl (cA, 8, .inl (fun j => nI (hg j)))), (b4, .inl (cA, 8, .inl (fun j => nI (od j)))), (b5, .inl (cA, 9, .inl (fun j => nI (ud j))))] [(cA, .int)])) (va_Qi (fun (r9 : Int32) (_ : Unit) => r9 = (bI false)) (fun _ => gW D vwCl A [(g0, .inr (1, [.int (nI n), .ref b1, .int (nI 0), .ref b2, .ref b3, .ref b4, .ref b5])), (b1, .inl (cA, 64, .inl (fun j => nI (ed j)))), (b2, .inl (cA, 8, .inl (fun j => nI (lw j)))), (b3, .inl (cA, 8, .inl (fun j => nI (hg j)))), (b4, .inl (cA, 8, .inl (fun j => nI (od j)))), (b5, .inl (cA, 9, .inl (fun j => nI (ud j))))] [(cA, .int)]) A) 0 0 A := by
  refine Met.ofW (cc := cM_part) (maxL := 3) (ret := (some FieldType.boolean)) (by decide) rfl ?_
  intro p e s m args below meth c s₁ B9 hml hv
  obtain ⟨rfl, hP, hK, hD⟩ := hv
  have hx := B9.exec
  have hb := B9.bytes
  have hr := B9.returns
  have hts := atoms_spec (ws := (Cond.code yM_part cM_part 3 (some FieldType.boolean) :: bw)) B9.pre
  have hw : ∀ w ∈ bw, w.before _ s = true := fun w h => hts w (List.mem_cons_of_mem _ h)
  have hown : s.vm.findClass RM = some m.cls := findClass_of_methodNamed B9.named
  have hlocks := B9.notSynchronized
  have hl := lv_entry ([.ref g0, .int (nI u), .int (nI v)]) (n := 3) (Nat.le_of_ble_eq_true rfl)
  rw [lg_entry_eq]
  generalize (lg_sl ([.ref g0, .int (nI u), .int (nI v)]) ++ List.replicate (3 - (lg_sl ([.ref g0, .int (nI u), .int (nI v)])).length) Slot.unset).toArray = ls at hl ⊢
  have hl : lv_has ls 3 [(0, .ref g0), (1, .int (nI u)), (2, .int (nI v))] := hl
  have hS : va_S A s.heap s.heap [] := va_S.rf
  refine lv_aload_n hx hb dM_part_0 rfl (lv_at hl 0 rfl) ?_
  refine lv_iload_n hx hb dM_part_1 rfl (lv_at hl 1 rfl) ?_
  refine lv_iload_n hx hb dM_part_2 rfl (lv_at hl 2 rfl) ?_
  refine lv_iconst (v := nI 0) hx hb dM_part_3 (by decide) ?_
  refine va_calli (va_runV (C := RM) (As := [.int (nI u), .int (nI v), .int (nI 0)]) (rest := []) ⟨hx, hb, hml, hown, hw⟩ (cM_change_c l D A g0 b1 b2 b3 b4 b5 cA n ft ed lw hg od ud u v 0 hn hed1 hu hv huv (by omega) he) (cwV 3 hw (gV w2_136 w2_138 w0_16 w1_2 w2_139) rfl rfl rfl ⟨rfl, by decide, by decide, by decide +kernel⟩ ⟨Nat.le_of_ble_eq_true rfl, Nat.le_of_ble_eq_true rfl⟩) ⟨gW_blind, va_recv (q0 := 0) (ci := 1) hK hP rfl rfl, gW_at hP hK hD _⟩ rfl rfl hl.1 rfl (lv_room (Nat.le_of_ble_eq_true rfl)) dM_part_4 ⟨Nat.zero_le _, Nat.zero_le _⟩) hS (fun q _ h => h) (fun q h => h) (fun r9 u9 t9 H locs ht9 hvm9 hpost9 hB9 hz9 hk8 hS => ?_)
  obtain ⟨hP, -, hD⟩ := hB9
  rw [ht9] at hP
  subst hpost9
  have hP : va_P D vwCl [(g0, .inr (1, [.int (nI n), .ref b1, .int (nI 0), .ref b2, .ref b3, .ref b4, .ref b5])), (b1, .inl (cA, 64, .inl (fun j => nI (ed j)))), (b2, .inl (cA, 8, .inl (fun j => nI (lw j)))), (b3, .inl (cA, 8, .inl (fun j => nI (hg j)))), (b4, .inl (cA, 8, .inl (fun j => nI (od j)))), (b5, .inl (cA, 9, .inl (fun j => nI (ud j))))] H := hP
  have hD : va_D A [(g0, .inr (1, [.int (nI n), .ref b1, .int (nI 0), .ref b2, .ref b3, .ref b4, .ref b5])), (b1, .inl (cA, 64, .inl (fun j => nI (ed j)))), (b2, .inl (cA, 8, .inl (fun j => nI (lw j)))), (b3, .inl (cA, 8, .inl (fun j => nI (hg j)))), (b4, .inl (cA, 8, .inl (fun j => nI (od j)))), (b5, .inl (cA, 9, .inl (fun j => nI (ud j))))] := hD
  exact W.zret (v := (bI false)) hx hb hr (nb_nar _) (fun t ht hW => ⟨⟨_, (), rfl, rfl, by rw [ht]; exact hP, va_K.moved hW.alike hK, hD⟩, hS.F ht⟩) hS.2.2 dM_part_7

set_option maxHeartbeats 4000000 in
set_option maxRecDepth 100000 in
theorem cM_part_d (l : Launch) (D : va_G) (A : Nat → Prop) (g0 b1 b2 b3 b4 b5 : Nat) (cA : ClassId) (n ft : Nat) (ed lw hg od ud : Nat → Nat) (u v : Nat) (hn : n ≤ 8)(hed1 : ∀ k, k < 64 → ed k ≤ 1)(hu : u < n) (hv : v < n) (huv : u ≠ v)(he : ed (8 * u + v) ≠ 0) : Met l yM_part (Cond.code yM_part cM_part 3 (some FieldType.boolean) :: bw) (rmL 3) (va_Pc [.ref g0, .int (nI u), .int (nI v)] (gW D vwCl A [(g0, .inr (1, [.int (nI n), .ref b1, .int (nI ft), .ref b2, .ref b3, .ref b4, .ref b5])), (b1, .inl (cA, 64, .inl (fun j => nI (ed j)))), (b2, .inl (cA, 8, .inl (fun j => nI (lw j)))), (b3, .inl (cA, 8, .inl (fun j => nI (hg j)))), (b4, .inl (cA, 8, .inl (fun j => nI (od j)))), (b5, .inl (cA, 9, .inl (fun j => nI (ud j))))] [(cA, .int)])) (va_Qi (fun (r9 : Int32) (_ : Unit) => r9 = (bI true)) (fun _ => gW D vwCl A [(g0, .inr (1, [.int (nI n), .ref b1, .int (nI 0), .ref b2, .ref b3, .ref b4, .ref b5])), (b1, .inl (cA, 64, .inl (fun j => nI ((upN (upN ed (8 * u + v) 0) (8 * v + u) 0) j)))), (b2, .inl (cA, 8, .inl (fun j => nI (lw j)))), (b3, .inl (cA, 8, .inl (fun j => nI (hg j)))), (b4, .inl (cA, 8, .inl (fun j => nI (od j)))), (b5, .inl (cA, 9, .inl (fun j => nI (ud j))))] [(cA, .int)]) A) 0 0 A := by
  refine Met.ofW (cc := cM_part) (maxL := 3) (ret := (some FieldType.boolean)) (by decide) rfl ?_
  intro p e s m args below meth c s₁ B9 hml hv
  obtain ⟨rfl, hP, hK, hD⟩ := hv
  have hx := B9.exec
  have hb := B9.bytes
  have hr := B9.returns
  have hts := atoms_spec (ws := (Cond.code yM_part cM_part 3 (some FieldType.boolean) :: bw)) B9.pre
  have hw : ∀ w ∈ bw, w.before _ s = true := fun w h => hts w (List.mem_cons_of_mem _ h)
  have hown : s.vm.findClass RM = some m.cls := findClass_of_methodNamed B9.named
  have hlocks := B9.notSynchronized
  have hl := lv_entry ([.ref g0, .int (nI u), .int (nI v)]) (n := 3) (Nat.le_of_ble_eq_true rfl)
  rw [lg_entry_eq]
  generalize (lg_sl ([.ref g0, .int (nI u), .int (nI v)]) ++ List.replicate (3 - (lg_sl ([.ref g0, .int (nI u), .int (nI v)])).length) Slot.unset).toArray = ls at hl ⊢
  have hl : lv_has ls 3 [(0, .ref g0), (1, .int (nI u)), (2, .int (nI v))] := hl
  have hS : va_S A s.heap s.heap [] := va_S.rf
  refine lv_aload_n hx hb dM_part_0 rfl (lv_at hl 0 rfl) ?_
  refine lv_iload_n hx hb dM_part_1 rfl (lv_at hl 1 rfl) ?_
  refine lv_iload_n hx hb dM_part_2 rfl (lv_at hl 2 rfl) ?_
  refine lv_iconst (v := nI 0) hx hb dM_part_3 (by decide) ?_
  refine va_calli (va_runV (C := RM) (As := [.int (nI u), .int (nI v), .int (nI 0)]) (rest := []) ⟨hx, hb, hml, hown, hw⟩ (cM_change_d l D A g0 b1 b2 b3 b4 b5 cA n ft ed lw hg od ud u v 0 hn hed1 hu hv huv (by omega) he) (cwV 3 hw (gV w2_136 w2_138 w0_16 w1_2 w2_139) rfl rfl rfl ⟨rfl, by decide, by decide, by decide +kernel⟩ ⟨Nat.le_of_ble_eq_true rfl, Nat.le_of_ble_eq_true rfl⟩) ⟨gW_blind, va_recv (q0 := 0) (ci := 1) hK hP rfl rfl, gW_at hP hK hD _⟩ rfl rfl hl.1 rfl (lv_room (Nat.le_of_ble_eq_true rfl)) dM_part_4 ⟨Nat.zero_le _, Nat.zero_le _⟩) hS (fun q _ h => h) (fun q h => h) (fun r9 u9 t9 H locs ht9 hvm9 hpost9 hB9 hz9 hk8 hS => ?_)
  obtain ⟨hP, -, hD⟩ := hB9
  rw [ht9] at hP
  subst hpost9
  have hP : va_P D vwCl [(g0, .inr (1, [.int (nI n), .ref b1, .int (nI 0), .ref b2, .ref b3, .ref b4, .ref b5])), (b1, .inl (cA, 64, .inl (fun j => nI ((upN (upN ed (8 * u + v) 0) (8 * v + u) 0) j)))), (b2, .inl (cA, 8, .inl (fun j => nI (lw j)))), (b3, .inl (cA, 8, .inl (fun j => nI (hg j)))), (b4, .inl (cA, 8, .inl (fun j => nI (od j)))), (b5, .inl (cA, 9, .inl (fun j => nI (ud j))))] H := hP
  have hD : va_D A [(g0, .inr (1, [.int (nI n), .ref b1, .int (nI 0), .ref b2, .ref b3, .ref b4, .ref b5])), (b1, .inl (cA, 64, .inl (fun j => nI ((upN (upN ed (8 * u + v) 0) (8 * v + u) 0) j)))), (b2, .inl (cA, 8, .inl (fun j => nI (lw j)))), (b3, .inl (cA, 8, .inl (fun j => nI (hg j)))), (b4, .inl (cA, 8, .inl (fun j => nI (od j)))), (b5, .inl (cA, 9, .inl (fun j => nI (ud j))))] := hD
  exact W.zret (v := (bI true)) hx hb hr (nb_nar _) (fun t ht hW => ⟨⟨_, (), rfl, rfl, by rw [ht]; exact hP, va_K.moved hW.alike hK, hD⟩, hS.F ht⟩) hS.2.2 dM_part_7

set_option maxHeartbeats 4000000 in
set_option maxRecDepth 100000 in
theorem cM_adjacent_a1 (l : Launch) (D : va_G) (A : Nat → Prop) (g0 b1 b2 b3 b4 b5 : Nat) (cA : ClassId) (n ft : Nat) (ed lw hg od ud : Nat → Nat) (z1 z2 : Int32) (hn : n ≤ 8)(hz9 : ∀ k, k < n → z1 ≠ nI k) : Met l yM_adjacent (Cond.code yM_adjacent cM_adjacent 3 (some FieldType.boolean) :: bw) (rmL 2) (va_Pc [.ref g0, .int z1, .int z2] (gW D vwCl A [(g0, .inr (1, [.int (nI n), .ref b1, .int (nI ft), .ref b2, .ref b3, .ref b4, .ref b5])), (b1, .inl (cA, 64, .inl (fun j => nI (ed j)))), (b2, .inl (cA, 8, .inl (fun j => nI (lw j)))), (b3, .inl (cA, 8, .inl (fun j => nI (hg j)))), (b4, .inl (cA, 8, .inl (fun j => nI (od j)))), (b5, .inl (cA, 9, .inl (fun j => nI (ud j))))] [(cA, .int)])) (va_Qi (fun (r9 : Int32) (_ : Unit) => r9 = (bI false)) (fun _ => gW D vwCl A [(g0, .inr (1, [.int (nI n), .ref b1, .int (nI 1), .ref b2, .ref b3, .ref b4, .ref b5])), (b1, .inl (cA, 64, .inl (fun j => nI (ed j)))), (b2, .inl (cA, 8, .inl (fun j => nI (lw j)))), (b3, .inl (cA, 8, .inl (fun j => nI (hg j)))), (b4, .inl (cA, 8, .inl (fun j => nI (od j)))), (b5, .inl (cA, 9, .inl (fun j => nI (ud j))))] [(cA, .int)]) A) 0 0 A := by
  refine Met.ofW (cc := cM_adjacent) (maxL := 3) (ret := (some FieldType.boolean)) (by decide) rfl ?_
  intro p e s m args below meth c s₁ B9 hml hv
  obtain ⟨rfl, hP, hK, hD⟩ := hv
  have hx := B9.exec
  have hb := B9.bytes
  have hr := B9.returns
  have hts := atoms_spec (ws := (Cond.code yM_adjacent cM_adjacent 3 (some FieldType.boolean) :: bw)) B9.pre
  have hw : ∀ w ∈ bw, w.before _ s = true := fun w h => hts w (List.mem_cons_of_mem _ h)
  have hown : s.vm.findClass RM = some m.cls := findClass_of_methodNamed B9.named
  have hlocks := B9.notSynchronized
  have hl := lv_entry ([.ref g0, .int z1, .int z2]) (n := 3) (Nat.le_of_ble_eq_true rfl)
  rw [lg_entry_eq]
  generalize (lg_sl ([.ref g0, .int z1, .int z2]) ++ List.replicate (3 - (lg_sl ([.ref g0, .int z1, .int z2])).length) Slot.unset).toArray = ls at hl ⊢
  have hl : lv_has ls 3 [(0, .ref g0), (1, .int z1), (2, .int z2)] := hl
  have hS : va_S A s.heap s.heap [] := va_S.rf
  refine lv_aload_n hx hb dM_adjacent_0 rfl (lv_at hl 0 rfl) ?_
  refine lv_aload_n hx hb dM_adjacent_1 rfl (lv_at hl 0 rfl) ?_
  refine lv_iload_n hx hb dM_adjacent_2 rfl (lv_at hl 1 rfl) ?_
  refine nr_V (b := g0) (As := [.int z1]) (C := RM) (rest := [.ref g0]) ⟨hx, hb, hml, hown, hw⟩ (cM_is_n l D A g0 b1 b2 b3 b4 b5 cA n ft ed lw hg od ud z1 hn hz9) (cwV 1 hw (gV w2_140 w2_142 w0_17 w1_2 w2_143) rfl rfl rfl ⟨rfl, by decide, by decide, by decide +kernel⟩ ⟨Nat.le_of_ble_eq_true rfl, Nat.le_of_ble_eq_true rfl⟩) gB_blind (va_recv (q0 := 0) (ci := 1) hK hP rfl rfl) (gB_at hP hK _) rfl hl.1 rfl (Nat.le_of_ble_eq_true rfl) dM_adjacent_3 ⟨Nat.zero_le _, Nat.zero_le _⟩ ?_
  refine nv_b_eq (x := false) (tgt := 17) hx hb dM_adjacent_6 rfl (fun hc6 => ?_) (fun hc6 => ?_)
  · refine lv_iconst (v := nI 1) hx hb dM_adjacent_17 (by decide) ?_
    refine lv_goto (tgt := 22) hx hb dM_adjacent_18 rfl ?_
    refine va_put (D := D) (ci := 1) (v := .int (nI 1)) (ty := .int) (C := RM) (T := TM) (N := 7) hx hb hw uM tyM tyM_ok nmM hown hK hP hD hS 0 rfl rfl 2 (by decide) (hw _ w2_100) (fun _ h9 => h9) rfl (by decide +kernel) rfl rfl (Nat.le_of_ble_eq_true rfl) dM_adjacent_22 (fun H locs hP hD hS => ?_)
    have hP : va_P D vwCl [(g0, .inr (1, [.int (nI n), .ref b1, .int (nI 1), .ref b2, .ref b3, .ref b4, .ref b5])), (b1, .inl (cA, 64, .inl (fun j => nI (ed j)))), (b2, .inl (cA, 8, .inl (fun j => nI (lw j)))), (b3, .inl (cA, 8, .inl (fun j => nI (hg j)))), (b4, .inl (cA, 8, .inl (fun j => nI (od j)))), (b5, .inl (cA, 9, .inl (fun j => nI (ud j))))] H := hP
    have hD : va_D A [(g0, .inr (1, [.int (nI n), .ref b1, .int (nI 1), .ref b2, .ref b3, .ref b4, .ref b5])), (b1, .inl (cA, 64, .inl (fun j => nI (ed j)))), (b2, .inl (cA, 8, .inl (fun j => nI (lw j)))), (b3, .inl (cA, 8, .inl (fun j => nI (hg j)))), (b4, .inl (cA, 8, .inl (fun j => nI (od j)))), (b5, .inl (cA, 9, .inl (fun j => nI (ud j))))] := hD
    refine lv_aload_n hx hb dM_adjacent_25 rfl (lv_at hl 0 rfl) ?_
    refine va_get (D := D) (ci := 1) (v := .int (nI 1)) (C := RM) (T := TM) (N := 7) hx hb hw uM hown hK hP 0 rfl rfl 2 (by decide) (hw _ w2_100) (fun _ h9 => h9) rfl dM_adjacent_26 ?_
    refine nv_if_ne (x := 1) (tgt := 51) hx hb dM_adjacent_29 rfl (by omega) (fun hc29 => ?_) (fun hc29 => ?_)
    · refine lv_iconst (v := nI 0) hx hb dM_adjacent_51 (by decide) ?_
      exact W.zret (v := (nI 0)) hx hb hr rfl (fun t ht hW => ⟨⟨_, (), rfl, rfl, by rw [ht]; exact hP, va_K.moved hW.alike hK, hD⟩, hS.F ht⟩) hS.2.2 dM_adjacent_52
    · exact absurd hc29 (by omega)
  · exact absurd hc6 (by decide)

set_option maxHeartbeats 4000000 in
set_option maxRecDepth 100000 in
theorem cM_adjacent_a2 (l : Launch) (D : va_G) (A : Nat → Prop) (g0 b1 b2 b3 b4 b5 : Nat) (cA : ClassId) (n ft : Nat) (ed lw hg od ud : Nat → Nat) (u : Nat) (z2 : Int32) (hn : n ≤ 8)(hu : u < n)(hz9 : ∀ k, k < n → z2 ≠ nI k) : Met l yM_adjacent (Cond.code yM_adjacent cM_adjacent 3 (some FieldType.boolean) :: bw) (rmL 2) (va_Pc [.ref g0, .int (nI u), .int z2] (gW D vwCl A [(g0, .inr (1, [.int (nI n), .ref b1, .int (nI ft), .ref b2, .ref b3, .ref b4, .ref b5])), (b1, .inl (cA, 64, .inl (fun j => nI (ed j)))), (b2, .inl (cA, 8, .inl (fun j => nI (lw j)))), (b3, .inl (cA, 8, .inl (fun j => nI (hg j)))), (b4, .inl (cA, 8, .inl (fun j => nI (od j)))), (b5, .inl (cA, 9, .inl (fun j => nI (ud j))))] [(cA, .int)])) (va_Qi (fun (r9 : Int32) (_ : Unit) => r9 = (bI false)) (fun _ => gW D vwCl A [(g0, .inr (1, [.int (nI n), .ref b1, .int (nI 1), .ref b2, .ref b3, .ref b4, .ref b5])), (b1, .inl (cA, 64, .inl (fun j => nI (ed j)))), (b2, .inl (cA, 8, .inl (fun j => nI (lw j)))), (b3, .inl (cA, 8, .inl (fun j => nI (hg j)))), (b4, .inl (cA, 8, .inl (fun j => nI (od j)))), (b5, .inl (cA, 9, .inl (fun j => nI (ud j))))] [(cA, .int)]) A) 0 0 A := by
  refine Met.ofW (cc := cM_adjacent) (maxL := 3) (ret := (some FieldType.boolean)) (by decide) rfl ?_
  intro p e s m args below meth c s₁ B9 hml hv
  obtain ⟨rfl, hP, hK, hD⟩ := hv
  have hx := B9.exec
  have hb := B9.bytes
  have hr := B9.returns
  have hts := atoms_spec (ws := (Cond.code yM_adjacent cM_adjacent 3 (some FieldType.boolean) :: bw)) B9.pre
  have hw : ∀ w ∈ bw, w.before _ s = true := fun w h => hts w (List.mem_cons_of_mem _ h)
  have hown : s.vm.findClass RM = some m.cls := findClass_of_methodNamed B9.named
  have hlocks := B9.notSynchronized
  have hl := lv_entry ([.ref g0, .int (nI u), .int z2]) (n := 3) (Nat.le_of_ble_eq_true rfl)
  rw [lg_entry_eq]
  generalize (lg_sl ([.ref g0, .int (nI u), .int z2]) ++ List.replicate (3 - (lg_sl ([.ref g0, .int (nI u), .int z2])).length) Slot.unset).toArray = ls at hl ⊢
  have hl : lv_has ls 3 [(0, .ref g0), (1, .int (nI u)), (2, .int z2)] := hl
  have hS : va_S A s.heap s.heap [] := va_S.rf
  refine lv_aload_n hx hb dM_adjacent_0 rfl (lv_at hl 0 rfl) ?_
  refine lv_aload_n hx hb dM_adjacent_1 rfl (lv_at hl 0 rfl) ?_
  refine lv_iload_n hx hb dM_adjacent_2 rfl (lv_at hl 1 rfl) ?_
  refine nr_V (b := g0) (As := [.int (nI u)]) (C := RM) (rest := [.ref g0]) ⟨hx, hb, hml, hown, hw⟩ (cM_is_y l D A g0 b1 b2 b3 b4 b5 cA n ft ed lw hg od ud u hn hu) (cwV 1 hw (gV w2_140 w2_142 w0_17 w1_2 w2_143) rfl rfl rfl ⟨rfl, by decide, by decide, by decide +kernel⟩ ⟨Nat.le_of_ble_eq_true rfl, Nat.le_of_ble_eq_true rfl⟩) gB_blind (va_recv (q0 := 0) (ci := 1) hK hP rfl rfl) (gB_at hP hK _) rfl hl.1 rfl (Nat.le_of_ble_eq_true rfl) dM_adjacent_3 ⟨Nat.zero_le _, Nat.zero_le _⟩ ?_
  refine nv_b_eq (x := true) (tgt := 17) hx hb dM_adjacent_6 rfl (fun hc6 => ?_) (fun hc6 => ?_)
  · exact absurd hc6 (by decide)
  · refine lv_aload_n hx hb dM_adjacent_9 rfl (lv_at hl 0 rfl) ?_
    refine lv_iload_n hx hb dM_adjacent_10 rfl (lv_at hl 2 rfl) ?_
    refine nr_V (b := g0) (As := [.int z2]) (C := RM) (rest := [.ref g0]) ⟨hx, hb, hml, hown, hw⟩ (cM_is_n l D A g0 b1 b2 b3 b4 b5 cA n ft ed lw hg od ud z2 hn hz9) (cwV 1 hw (gV w2_140 w2_142 w0_17 w1_2 w2_143) rfl rfl rfl ⟨rfl, by decide, by decide, by decide +kernel⟩ ⟨Nat.le_of_ble_eq_true rfl, Nat.le_of_ble_eq_true rfl⟩) gB_blind (va_recv (q0 := 0) (ci := 1) hK hP rfl rfl) (gB_at hP hK _) rfl hl.1 rfl (Nat.le_of_ble_eq_true rfl) dM_adjacent_11 ⟨Nat.zero_le _, Nat.zero_le _⟩ ?_
    refine nv_b_ne (x := false) (tgt := 21) hx hb dM_adjacent_14 rfl (fun hc14 => ?_) (fun hc14 => ?_)
    · exact absurd hc14 (by decide)
    · refine lv_iconst (v := nI 1) hx hb dM_adjacent_17 (by decide) ?_
      refine lv_goto (tgt := 22) hx hb dM_adjacent_18 rfl ?_
      refine va_put (D := D) (ci := 1) (v := .int (nI 1)) (ty := .int) (C := RM) (T := TM) (N := 7) hx hb hw uM tyM tyM_ok nmM hown hK hP hD hS 0 rfl rfl 2 (by decide) (hw _ w2_100) (fun _ h9 => h9) rfl (by decide +kernel) rfl rfl (Nat.le_of_ble_eq_true rfl) dM_adjacent_22 (fun H locs hP hD hS => ?_)
      have hP : va_P D vwCl [(g0, .inr (1, [.int (nI n), .ref b1, .int (nI 1), .ref b2, .ref b3, .ref b4, .ref b5])), (b1, .inl (cA, 64, .inl (fun j => nI (ed j)))), (b2, .inl (cA, 8, .inl (fun j => nI (lw j)))), (b3, .inl (cA, 8, .inl (fun j => nI (hg j)))), (b4, .inl (cA, 8, .inl (fun j => nI (od j)))), (b5, .inl (cA, 9, .inl (fun j => nI (ud j))))] H := hP
      have hD : va_D A [(g0, .inr (1, [.int (nI n), .ref b1, .int (nI 1), .ref b2, .ref b3, .ref b4, .ref b5])), (b1, .inl (cA, 64, .inl (fun j => nI (ed j)))), (b2, .inl (cA, 8, .inl (fun j => nI (lw j)))), (b3, .inl (cA, 8, .inl (fun j => nI (hg j)))), (b4, .inl (cA, 8, .inl (fun j => nI (od j)))), (b5, .inl (cA, 9, .inl (fun j => nI (ud j))))] := hD
      refine lv_aload_n hx hb dM_adjacent_25 rfl (lv_at hl 0 rfl) ?_
      refine va_get (D := D) (ci := 1) (v := .int (nI 1)) (C := RM) (T := TM) (N := 7) hx hb hw uM hown hK hP 0 rfl rfl 2 (by decide) (hw _ w2_100) (fun _ h9 => h9) rfl dM_adjacent_26 ?_
      refine nv_if_ne (x := 1) (tgt := 51) hx hb dM_adjacent_29 rfl (by omega) (fun hc29 => ?_) (fun hc29 => ?_)
      · refine lv_iconst (v := nI 0) hx hb dM_adjacent_51 (by decide) ?_
        exact W.zret (v := (nI 0)) hx hb hr rfl (fun t ht hW => ⟨⟨_, (), rfl, rfl, by rw [ht]; exact hP, va_K.moved hW.alike hK, hD⟩, hS.F ht⟩) hS.2.2 dM_adjacent_52
      · exact absurd hc29 (by omega)

set_option maxHeartbeats 4000000 in
set_option maxRecDepth 100000 in
theorem cM_adjacent_y (l : Launch) (D : va_G) (A : Nat → Prop) (g0 b1 b2 b3 b4 b5 : Nat) (cA : ClassId) (n ft : Nat) (ed lw hg od ud : Nat → Nat) (u v : Nat) (hn : n ≤ 8)(hed1 : ∀ k, k < 64 → ed k ≤ 1)(hu : u < n) (hv : v < n) : Met l yM_adjacent (Cond.code yM_adjacent cM_adjacent 3 (some FieldType.boolean) :: bw) (rmL 2) (va_Pc [.ref g0, .int (nI u), .int (nI v)] (gW D vwCl A [(g0, .inr (1, [.int (nI n), .ref b1, .int (nI ft), .ref b2, .ref b3, .ref b4, .ref b5])), (b1, .inl (cA, 64, .inl (fun j => nI (ed j)))), (b2, .inl (cA, 8, .inl (fun j => nI (lw j)))), (b3, .inl (cA, 8, .inl (fun j => nI (hg j)))), (b4, .inl (cA, 8, .inl (fun j => nI (od j)))), (b5, .inl (cA, 9, .inl (fun j => nI (ud j))))] [(cA, .int)])) (va_Qi (fun (r9 : Int32) (_ : Unit) => r9 = (bI (decide (ed (8 * u + v) = 1)))) (fun _ => gW D vwCl A [(g0, .inr (1, [.int (nI n), .ref b1, .int (nI 0), .ref b2, .ref b3, .ref b4, .ref b5])), (b1, .inl (cA, 64, .inl (fun j => nI (ed j)))), (b2, .inl (cA, 8, .inl (fun j => nI (lw j)))), (b3, .inl (cA, 8, .inl (fun j => nI (hg j)))), (b4, .inl (cA, 8, .inl (fun j => nI (od j)))), (b5, .inl (cA, 9, .inl (fun j => nI (ud j))))] [(cA, .int)]) A) 0 0 A := by
  refine Met.ofW (cc := cM_adjacent) (maxL := 3) (ret := (some FieldType.boolean)) (by decide) rfl ?_
  intro p e s m args below meth c s₁ B9 hml hv
  obtain ⟨rfl, hP, hK, hD⟩ := hv
  have hx := B9.exec
  have hb := B9.bytes
  have hr := B9.returns
  have hts := atoms_spec (ws := (Cond.code yM_adjacent cM_adjacent 3 (some FieldType.boolean) :: bw)) B9.pre
  have hw : ∀ w ∈ bw, w.before _ s = true := fun w h => hts w (List.mem_cons_of_mem _ h)
  have hown : s.vm.findClass RM = some m.cls := findClass_of_methodNamed B9.named
  have hlocks := B9.notSynchronized
  have hl := lv_entry ([.ref g0, .int (nI u), .int (nI v)]) (n := 3) (Nat.le_of_ble_eq_true rfl)
  rw [lg_entry_eq]
  generalize (lg_sl ([.ref g0, .int (nI u), .int (nI v)]) ++ List.replicate (3 - (lg_sl ([.ref g0, .int (nI u), .int (nI v)])).length) Slot.unset).toArray = ls at hl ⊢
  have hl : lv_has ls 3 [(0, .ref g0), (1, .int (nI u)), (2, .int (nI v))] := hl
  have hS : va_S A s.heap s.heap [] := va_S.rf
  refine lv_aload_n hx hb dM_adjacent_0 rfl (lv_at hl 0 rfl) ?_
  refine lv_aload_n hx hb dM_adjacent_1 rfl (lv_at hl 0 rfl) ?_
  refine lv_iload_n hx hb dM_adjacent_2 rfl (lv_at hl 1 rfl) ?_
  refine nr_V (b := g0) (As := [.int (nI u)]) (C := RM) (rest := [.ref g0]) ⟨hx, hb, hml, hown, hw⟩ (cM_is_y l D A g0 b1 b2 b3 b4 b5 cA n ft ed lw hg od ud u hn hu) (cwV 1 hw (gV w2_140 w2_142 w0_17 w1_2 w2_143) rfl rfl rfl ⟨rfl, by decide, by decide, by decide +kernel⟩ ⟨Nat.le_of_ble_eq_true rfl, Nat.le_of_ble_eq_true rfl⟩) gB_blind (va_recv (q0 := 0) (ci := 1) hK hP rfl rfl) (gB_at hP hK _) rfl hl.1 rfl (Nat.le_of_ble_eq_true rfl) dM_adjacent_3 ⟨Nat.zero_le _, Nat.zero_le _⟩ ?_
  refine nv_b_eq (x := true) (tgt := 17) hx hb dM_adjacent_6 rfl (fun hc6 => ?_) (fun hc6 => ?_)
  · exact absurd hc6 (by decide)
  · refine lv_aload_n hx hb dM_adjacent_9 rfl (lv_at hl 0 rfl) ?_
    refine lv_iload_n hx hb dM_adjacent_10 rfl (lv_at hl 2 rfl) ?_
    refine nr_V (b := g0) (As := [.int (nI v)]) (C := RM) (rest := [.ref g0]) ⟨hx, hb, hml, hown, hw⟩ (cM_is_y l D A g0 b1 b2 b3 b4 b5 cA n ft ed lw hg od ud v hn hv) (cwV 1 hw (gV w2_140 w2_142 w0_17 w1_2 w2_143) rfl rfl rfl ⟨rfl, by decide, by decide, by decide +kernel⟩ ⟨Nat.le_of_ble_eq_true rfl, Nat.le_of_ble_eq_true rfl⟩) gB_blind (va_recv (q0 := 0) (ci := 1) hK hP rfl rfl) (gB_at hP hK _) rfl hl.1 rfl (Nat.le_of_ble_eq_true rfl) dM_adjacent_11 ⟨Nat.zero_le _, Nat.zero_le _⟩ ?_
    refine nv_b_ne (x := true) (tgt := 21) hx hb dM_adjacent_14 rfl (fun hc14 => ?_) (fun hc14 => ?_)
    · refine lv_iconst (v := nI 0) hx hb dM_adjacent_21 (by decide) ?_
      refine va_put (D := D) (ci := 1) (v := .int (nI 0)) (ty := .int) (C := RM) (T := TM) (N := 7) hx hb hw uM tyM tyM_ok nmM hown hK hP hD hS 0 rfl rfl 2 (by decide) (hw _ w2_100) (fun _ h9 => h9) rfl (by decide +kernel) rfl rfl (Nat.le_of_ble_eq_true rfl) dM_adjacent_22 (fun H locs hP hD hS => ?_)
      have hP : va_P D vwCl [(g0, .inr (1, [.int (nI n), .ref b1, .int (nI 0), .ref b2, .ref b3, .ref b4, .ref b5])), (b1, .inl (cA, 64, .inl (fun j => nI (ed j)))), (b2, .inl (cA, 8, .inl (fun j => nI (lw j)))), (b3, .inl (cA, 8, .inl (fun j => nI (hg j)))), (b4, .inl (cA, 8, .inl (fun j => nI (od j)))), (b5, .inl (cA, 9, .inl (fun j => nI (ud j))))] H := hP
      have hD : va_D A [(g0, .inr (1, [.int (nI n), .ref b1, .int (nI 0), .ref b2, .ref b3, .ref b4, .ref b5])), (b1, .inl (cA, 64, .inl (fun j => nI (ed j)))), (b2, .inl (cA, 8, .inl (fun j => nI (lw j)))), (b3, .inl (cA, 8, .inl (fun j => nI (hg j)))), (b4, .inl (cA, 8, .inl (fun j => nI (od j)))), (b5, .inl (cA, 9, .inl (fun j => nI (ud j))))] := hD
      refine lv_aload_n hx hb dM_adjacent_25 rfl (lv_at hl 0 rfl) ?_
      refine va_get (D := D) (ci := 1) (v := .int (nI 0)) (C := RM) (T := TM) (N := 7) hx hb hw uM hown hK hP 0 rfl rfl 2 (by decide) (hw _ w2_100) (fun _ h9 => h9) rfl dM_adjacent_26 ?_
      refine nv_if_ne (x := 0) (tgt := 51) hx hb dM_adjacent_29 rfl (by omega) (fun hc29 => ?_) (fun hc29 => ?_)
      · exact absurd hc29 (by omega)
      · refine lv_aload_n hx hb dM_adjacent_32 rfl (lv_at hl 0 rfl) ?_
        refine va_get (D := D) (ci := 1) (v := .ref b1) (C := RM) (T := TM) (N := 7) hx hb hw uM hown hK hP 0 rfl rfl 1 (by decide) (hw _ w2_99) (fun _ h9 => h9) rfl dM_adjacent_33 ?_
        refine lv_bipush (v := nI 8) hx hb dM_adjacent_36 (by decide) ?_
        refine lv_iload_n hx hb dM_adjacent_38 rfl (lv_at hl 1 rfl) ?_
        refine nv_imul (x := 8) (y := u) hx hb dM_adjacent_39 ?_
        refine lv_iload_n hx hb dM_adjacent_40 rfl (lv_at hl 2 rfl) ?_
        refine nv_iadd (x := 8 * u) (y := v) hx hb dM_adjacent_41 ?_
        refine nv_iald (i := (8 * u) + v) (f := ed) hx hb hK hP 1 0 rfl rfl (by omega) (by omega) dM_adjacent_42 ?_
        refine lv_iconst (v := nI 1) hx hb dM_adjacent_43 (by decide) ?_
        have hq44 := hed1 (8 * u + v) (by omega)
        refine nv_icmp_ne (x := ed ((8 * u) + v)) (y := 1) (tgt := 51) hx hb dM_adjacent_44 rfl (by omega) (by omega) (fun hc44 => ?_) (fun hc44 => ?_)
        · refine lv_iconst (v := nI 0) hx hb dM_adjacent_51 (by decide) ?_
          exact W.zret (v := (nI 0)) hx hb hr rfl (fun t ht hW => ⟨⟨_, (), rfl, by rw [decide_eq_false hc44]; rfl, by rw [ht]; exact hP, va_K.moved hW.alike hK, hD⟩, hS.F ht⟩) hS.2.2 dM_adjacent_52
        · refine lv_iconst (v := nI 1) hx hb dM_adjacent_47 (by decide) ?_
          refine lv_goto (tgt := 52) hx hb dM_adjacent_48 rfl ?_
          exact W.zret (v := (nI 1)) hx hb hr rfl (fun t ht hW => ⟨⟨_, (), rfl, by rw [decide_eq_true hc44]; rfl, by rw [ht]; exact hP, va_K.moved hW.alike hK, hD⟩, hS.F ht⟩) hS.2.2 dM_adjacent_52
    · exact absurd hc14 (by decide)

set_option maxHeartbeats 4000000 in
set_option maxRecDepth 100000 in
theorem cM_leader_n (l : Launch) (D : va_G) (A : Nat → Prop) (g0 b1 b2 b3 b4 b5 : Nat) (cA : ClassId) (n ft : Nat) (ed lw hg od ud : Nat → Nat) (z1 : Int32) (hn : n ≤ 8)(hz9 : ∀ k, k < n → z1 ≠ nI k) : Met l yM_leader (Cond.code yM_leader cM_leader 5 (some FieldType.int) :: bw) (rmL 2) (va_Pc [.ref g0, .int z1] (gW D vwCl A [(g0, .inr (1, [.int (nI n), .ref b1, .int (nI ft), .ref b2, .ref b3, .ref b4, .ref b5])), (b1, .inl (cA, 64, .inl (fun j => nI (ed j)))), (b2, .inl (cA, 8, .inl (fun j => nI (lw j)))), (b3, .inl (cA, 8, .inl (fun j => nI (hg j)))), (b4, .inl (cA, 8, .inl (fun j => nI (od j)))), (b5, .inl (cA, 9, .inl (fun j => nI (ud j))))] [(cA, .int)])) (va_Qi (fun (r9 : Int32) (_ : Unit) => r9 = (nI 0)) (fun _ => gW D vwCl A [(g0, .inr (1, [.int (nI n), .ref b1, .int (nI 1), .ref b2, .ref b3, .ref b4, .ref b5])), (b1, .inl (cA, 64, .inl (fun j => nI (ed j)))), (b2, .inl (cA, 8, .inl (fun j => nI (lw j)))), (b3, .inl (cA, 8, .inl (fun j => nI (hg j)))), (b4, .inl (cA, 8, .inl (fun j => nI (od j)))), (b5, .inl (cA, 9, .inl (fun j => nI (ud j))))] [(cA, .int)]) A) 0 0 A := by
  refine Met.ofW (cc := cM_leader) (maxL := 5) (ret := (some FieldType.int)) (by decide) rfl ?_
  intro p e s m args below meth c s₁ B9 hml hv
  obtain ⟨rfl, hP, hK, hD⟩ := hv
  have hx := B9.exec
  have hb := B9.bytes
  have hr := B9.returns
  have hts := atoms_spec (ws := (Cond.code yM_leader cM_leader 5 (some FieldType.int) :: bw)) B9.pre
  have hw : ∀ w ∈ bw, w.before _ s = true := fun w h => hts w (List.mem_cons_of_mem _ h)
  have hown : s.vm.findClass RM = some m.cls := findClass_of_methodNamed B9.named
  have hlocks := B9.notSynchronized
  have hl := lv_entry ([.ref g0, .int z1]) (n := 5) (Nat.le_of_ble_eq_true rfl)
  rw [lg_entry_eq]
  generalize (lg_sl ([.ref g0, .int z1]) ++ List.replicate (5 - (lg_sl ([.ref g0, .int z1])).length) Slot.unset).toArray = ls at hl ⊢
  have hl : lv_has ls 5 [(0, .ref g0), (1, .int z1)] := hl
  have hS : va_S A s.heap s.heap [] := va_S.rf
  refine lv_aload_n hx hb dM_leader_0 rfl (lv_at hl 0 rfl) ?_
  refine lv_aload_n hx hb dM_leader_1 rfl (lv_at hl 0 rfl) ?_
  refine lv_iload_n hx hb dM_leader_2 rfl (lv_at hl 1 rfl) ?_
  refine nr_V (b := g0) (As := [.int z1]) (C := RM) (rest := [.ref g0]) ⟨hx, hb, hml, hown, hw⟩ (cM_is_n l D A g0 b1 b2 b3 b4 b5 cA n ft ed lw hg od ud z1 hn hz9) (cwV 1 hw (gV w2_140 w2_142 w0_17 w1_2 w2_143) rfl rfl rfl ⟨rfl, by decide, by decide, by decide +kernel⟩ ⟨Nat.le_of_ble_eq_true rfl, Nat.le_of_ble_eq_true rfl⟩) gB_blind (va_recv (q0 := 0) (ci := 1) hK hP rfl rfl) (gB_at hP hK _) rfl hl.1 rfl (Nat.le_of_ble_eq_true rfl) dM_leader_3 ⟨Nat.zero_le _, Nat.zero_le _⟩ ?_
  refine nv_b_eq (x := false) (tgt := 13) hx hb dM_leader_6 rfl (fun hc6 => ?_) (fun hc6 => ?_)
  · refine lv_iconst (v := nI 1) hx hb dM_leader_13 (by decide) ?_
    refine va_put (D := D) (ci := 1) (v := .int (nI 1)) (ty := .int) (C := RM) (T := TM) (N := 7) hx hb hw uM tyM tyM_ok nmM hown hK hP hD hS 0 rfl rfl 2 (by decide) (hw _ w2_100) (fun _ h9 => h9) rfl (by decide +kernel) rfl rfl (Nat.le_of_ble_eq_true rfl) dM_leader_14 (fun H locs hP hD hS => ?_)
    have hP : va_P D vwCl [(g0, .inr (1, [.int (nI n), .ref b1, .int (nI 1), .ref b2, .ref b3, .ref b4, .ref b5])), (b1, .inl (cA, 64, .inl (fun j => nI (ed j)))), (b2, .inl (cA, 8, .inl (fun j => nI (lw j)))), (b3, .inl (cA, 8, .inl (fun j => nI (hg j)))), (b4, .inl (cA, 8, .inl (fun j => nI (od j)))), (b5, .inl (cA, 9, .inl (fun j => nI (ud j))))] H := hP
    have hD : va_D A [(g0, .inr (1, [.int (nI n), .ref b1, .int (nI 1), .ref b2, .ref b3, .ref b4, .ref b5])), (b1, .inl (cA, 64, .inl (fun j => nI (ed j)))), (b2, .inl (cA, 8, .inl (fun j => nI (lw j)))), (b3, .inl (cA, 8, .inl (fun j => nI (hg j)))), (b4, .inl (cA, 8, .inl (fun j => nI (od j)))), (b5, .inl (cA, 9, .inl (fun j => nI (ud j))))] := hD
    refine lv_aload_n hx hb dM_leader_17 rfl (lv_at hl 0 rfl) ?_
    refine va_get (D := D) (ci := 1) (v := .int (nI 1)) (C := RM) (T := TM) (N := 7) hx hb hw uM hown hK hP 0 rfl rfl 2 (by decide) (hw _ w2_100) (fun _ h9 => h9) rfl dM_leader_18 ?_
    refine nv_if_le (x := 1) (tgt := 26) hx hb dM_leader_21 rfl (by omega) (fun hc21 => ?_) (fun hc21 => ?_)
    · exact absurd hc21 (by omega)
    · refine lv_iconst (v := nI 0) hx hb dM_leader_24 (by decide) ?_
      exact W.iret (v := (nI 0)) hx hb hr (fun t ht hW => ⟨⟨_, (), rfl, rfl, by rw [ht]; exact hP, va_K.moved hW.alike hK, hD⟩, hS.F ht⟩) hS.2.2 dM_leader_25
  · exact absurd hc6 (by decide)

set_option maxHeartbeats 4000000 in
set_option maxRecDepth 100000 in
theorem cM_leader_y (l : Launch) (D : va_G) (A : Nat → Prop) (g0 b1 b2 b3 b4 b5 : Nat) (cA : ClassId) (n ft : Nat) (ed lw hg od ud : Nat → Nat) (v : Nat) (hn : n ≤ 8)(hed1 : ∀ k, k < 64 → ed k ≤ 1)(hv : v < n) : Met l yM_leader (Cond.code yM_leader cM_leader 5 (some FieldType.int) :: bw) (rmL 2) (va_Pc [.ref g0, .int (nI v)] (gW D vwCl A [(g0, .inr (1, [.int (nI n), .ref b1, .int (nI ft), .ref b2, .ref b3, .ref b4, .ref b5])), (b1, .inl (cA, 64, .inl (fun j => nI (ed j)))), (b2, .inl (cA, 8, .inl (fun j => nI (lw j)))), (b3, .inl (cA, 8, .inl (fun j => nI (hg j)))), (b4, .inl (cA, 8, .inl (fun j => nI (od j)))), (b5, .inl (cA, 9, .inl (fun j => nI (ud j))))] [(cA, .int)])) (va_Qi (fun (r9 : Int32) (_ : Unit) => r9 = (nI (tzN (mRe ed v n)))) (fun _ => gW D vwCl A [(g0, .inr (1, [.int (nI n), .ref b1, .int (nI 0), .ref b2, .ref b3, .ref b4, .ref b5])), (b1, .inl (cA, 64, .inl (fun j => nI (ed j)))), (b2, .inl (cA, 8, .inl (fun j => nI (lw j)))), (b3, .inl (cA, 8, .inl (fun j => nI (hg j)))), (b4, .inl (cA, 8, .inl (fun j => nI (od j)))), (b5, .inl (cA, 9, .inl (fun j => nI (ud j))))] [(cA, .int)]) A) 0 0 A := by
  refine Met.ofW (cc := cM_leader) (maxL := 5) (ret := (some FieldType.int)) (by decide) rfl ?_
  intro p e s m args below meth c s₁ B9 hml hv
  obtain ⟨rfl, hP, hK, hD⟩ := hv
  have hx := B9.exec
  have hb := B9.bytes
  have hr := B9.returns
  have hts := atoms_spec (ws := (Cond.code yM_leader cM_leader 5 (some FieldType.int) :: bw)) B9.pre
  have hw : ∀ w ∈ bw, w.before _ s = true := fun w h => hts w (List.mem_cons_of_mem _ h)
  have hown : s.vm.findClass RM = some m.cls := findClass_of_methodNamed B9.named
  have hlocks := B9.notSynchronized
  have hl := lv_entry ([.ref g0, .int (nI v)]) (n := 5) (Nat.le_of_ble_eq_true rfl)
  rw [lg_entry_eq]
  generalize (lg_sl ([.ref g0, .int (nI v)]) ++ List.replicate (5 - (lg_sl ([.ref g0, .int (nI v)])).length) Slot.unset).toArray = ls at hl ⊢
  have hl : lv_has ls 5 [(0, .ref g0), (1, .int (nI v))] := hl
  have hS : va_S A s.heap s.heap [] := va_S.rf
  refine lv_aload_n hx hb dM_leader_0 rfl (lv_at hl 0 rfl) ?_
  refine lv_aload_n hx hb dM_leader_1 rfl (lv_at hl 0 rfl) ?_
  refine lv_iload_n hx hb dM_leader_2 rfl (lv_at hl 1 rfl) ?_
  refine nr_V (b := g0) (As := [.int (nI v)]) (C := RM) (rest := [.ref g0]) ⟨hx, hb, hml, hown, hw⟩ (cM_is_y l D A g0 b1 b2 b3 b4 b5 cA n ft ed lw hg od ud v hn hv) (cwV 1 hw (gV w2_140 w2_142 w0_17 w1_2 w2_143) rfl rfl rfl ⟨rfl, by decide, by decide, by decide +kernel⟩ ⟨Nat.le_of_ble_eq_true rfl, Nat.le_of_ble_eq_true rfl⟩) gB_blind (va_recv (q0 := 0) (ci := 1) hK hP rfl rfl) (gB_at hP hK _) rfl hl.1 rfl (Nat.le_of_ble_eq_true rfl) dM_leader_3 ⟨Nat.zero_le _, Nat.zero_le _⟩ ?_
  refine nv_b_eq (x := true) (tgt := 13) hx hb dM_leader_6 rfl (fun hc6 => ?_) (fun hc6 => ?_)
  · exact absurd hc6 (by decide)
  · refine lv_iconst (v := nI 0) hx hb dM_leader_9 (by decide) ?_
    refine lv_goto (tgt := 14) hx hb dM_leader_10 rfl ?_
    refine va_put (D := D) (ci := 1) (v := .int (nI 0)) (ty := .int) (C := RM) (T := TM) (N := 7) hx hb hw uM tyM tyM_ok nmM hown hK hP hD hS 0 rfl rfl 2 (by decide) (hw _ w2_100) (fun _ h9 => h9) rfl (by decide +kernel) rfl rfl (Nat.le_of_ble_eq_true rfl) dM_leader_14 (fun H locs hP hD hS => ?_)
    have hP : va_P D vwCl [(g0, .inr (1, [.int (nI n), .ref b1, .int (nI 0), .ref b2, .ref b3, .ref b4, .ref b5])), (b1, .inl (cA, 64, .inl (fun j => nI (ed j)))), (b2, .inl (cA, 8, .inl (fun j => nI (lw j)))), (b3, .inl (cA, 8, .inl (fun j => nI (hg j)))), (b4, .inl (cA, 8, .inl (fun j => nI (od j)))), (b5, .inl (cA, 9, .inl (fun j => nI (ud j))))] H := hP
    have hD : va_D A [(g0, .inr (1, [.int (nI n), .ref b1, .int (nI 0), .ref b2, .ref b3, .ref b4, .ref b5])), (b1, .inl (cA, 64, .inl (fun j => nI (ed j)))), (b2, .inl (cA, 8, .inl (fun j => nI (lw j)))), (b3, .inl (cA, 8, .inl (fun j => nI (hg j)))), (b4, .inl (cA, 8, .inl (fun j => nI (od j)))), (b5, .inl (cA, 9, .inl (fun j => nI (ud j))))] := hD
    refine lv_aload_n hx hb dM_leader_17 rfl (lv_at hl 0 rfl) ?_
    refine va_get (D := D) (ci := 1) (v := .int (nI 0)) (C := RM) (T := TM) (N := 7) hx hb hw uM hown hK hP 0 rfl rfl 2 (by decide) (hw _ w2_100) (fun _ h9 => h9) rfl dM_leader_18 ?_
    refine nv_if_le (x := 0) (tgt := 26) hx hb dM_leader_21 rfl (by omega) (fun hc21 => ?_) (fun hc21 => ?_)
    · refine lv_iconst (v := nI 1) hx hb dM_leader_26 (by decide) ?_
      refine lv_iload_n hx hb dM_leader_27 rfl (lv_at hl 1 rfl) ?_
      refine nv_ishl (y := v) hx hb dM_leader_28 (by omega) ?_
      refine lv_istore_n hx hb dM_leader_29 rfl hl (by decide) (lv' := [(2, .int (nI (2 ^ v))), (0, .ref g0), (1, .int (nI v))]) rfl (fun ls hl => ?_)
      refine lv_iconst (v := nI 0) hx hb dM_leader_30 (by decide) ?_
      refine lv_istore_n hx hb dM_leader_31 rfl hl (by decide) (lv' := [(3, .int (nI 0)), (2, .int (nI (2 ^ v))), (0, .ref g0), (1, .int (nI v))]) rfl (fun ls hl => ?_)
      have L32 : ∀ (k9 : Nat) (i : Nat), k9 = n - i → i ≤ n → ∀ (ls : Array Slot), lv_has ls 5 [(3, .int (nI i)), (2, .int (nI (mRe ed v i))), (0, .ref g0), (1, .int (nI v))] → ∀ (H : Heap) (locs : List Loc), va_P D vwCl [(g0, .inr (1, [.int (nI n), .ref b1, .int (nI 0), .ref b2, .ref b3, .ref b4, .ref b5])), (b1, .inl (cA, 64, .inl (fun j => nI (ed j)))), (b2, .inl (cA, 8, .inl (fun j => nI (lw j)))), (b3, .inl (cA, 8, .inl (fun j => nI (hg j)))), (b4, .inl (cA, 8, .inl (fun j => nI (od j)))), (b5, .inl (cA, 9, .inl (fun j => nI (ud j))))] H → va_D A [(g0, .inr (1, [.int (nI n), .ref b1, .int (nI 0), .ref b2, .ref b3, .ref b4, .ref b5])), (b1, .inl (cA, 64, .inl (fun j => nI (ed j)))), (b2, .inl (cA, 8, .inl (fun j => nI (lw j)))), (b3, .inl (cA, 8, .inl (fun j => nI (hg j)))), (b4, .inl (cA, 8, .inl (fun j => nI (od j)))), (b5, .inl (cA, 9, .inl (fun j => nI (ud j))))] → va_S A s.heap H locs → W p l e (headSpec (Cond.code yM_leader cM_leader 5 (some FieldType.int) :: bw) (rmL 2)).room s m ([.ref g0, .int (nI v)] : List Value).toArray below meth c H locs 0 0 (MQ below (va_Qi (fun (r9 : Int32) (_ : Unit) => r9 = (nI (tzN (mRe ed v n)))) (fun _ => gW D vwCl A [(g0, .inr (1, [.int (nI n), .ref b1, .int (nI 0), .ref b2, .ref b3, .ref b4, .ref b5])), (b1, .inl (cA, 64, .inl (fun j => nI (ed j)))), (b2, .inl (cA, 8, .inl (fun j => nI (lw j)))), (b3, .inl (cA, 8, .inl (fun j => nI (hg j)))), (b4, .inl (cA, 8, .inl (fun j => nI (od j)))), (b5, .inl (cA, 9, .inl (fun j => nI (ud j))))] [(cA, .int)]) A) ([.ref g0, .int (nI v)] : List Value).toArray s 0 0 A) (F0 m 32 ls []) := by
        intro k9
        induction k9 using Nat.strongRecOn with
        | _ k9 ih32 =>
          intro i hk9 hi9 ls hl H locs hP hD hS
          refine lv_iload_n hx hb dM_leader_32 rfl (lv_at hl 0 rfl) ?_
          refine lv_aload_n hx hb dM_leader_33 rfl (lv_at hl 2 rfl) ?_
          refine va_get (D := D) (ci := 1) (v := .int (nI n)) (C := RM) (T := TM) (N := 7) hx hb hw uM hown hK hP 0 rfl rfl 0 (by decide) (hw _ w2_98) (fun _ h9 => h9) rfl dM_leader_34 ?_
          refine nv_icmp_ge (x := i) (y := n) (tgt := 96) hx hb dM_leader_37 rfl (by omega) (by omega) (fun hc37 => ?_) (fun hc37 => ?_)
          · have hrl := mRe_lt (ed := ed) (show v < 8 by omega) n
            have hrb := mRe_v (ed := ed) (v := v) n
            rw [show i = n by omega] at hl
            refine lv_iconst (v := nI 0) hx hb dM_leader_96 (by decide) ?_
            refine lv_istore_n hx hb dM_leader_97 rfl hl (by decide) (lv' := [(3, .int (nI 0)), (2, .int (nI (mRe ed v n))), (0, .ref g0), (1, .int (nI v))]) rfl (fun ls hl => ?_)
            have L98 : ∀ (k9 : Nat) (j : Nat), k9 = v + 1 - j → j ≤ v → tzN (mRe ed v n) = tzG (mRe ed v n) (8 - j) j → ∀ (ls : Array Slot), lv_has ls 5 [(3, .int (nI j)), (2, .int (nI (mRe ed v n))), (0, .ref g0), (1, .int (nI v))] → ∀ (H : Heap) (locs : List Loc), va_P D vwCl [(g0, .inr (1, [.int (nI n), .ref b1, .int (nI 0), .ref b2, .ref b3, .ref b4, .ref b5])), (b1, .inl (cA, 64, .inl (fun j => nI (ed j)))), (b2, .inl (cA, 8, .inl (fun j => nI (lw j)))), (b3, .inl (cA, 8, .inl (fun j => nI (hg j)))), (b4, .inl (cA, 8, .inl (fun j => nI (od j)))), (b5, .inl (cA, 9, .inl (fun j => nI (ud j))))] H → va_D A [(g0, .inr (1, [.int (nI n), .ref b1, .int (nI 0), .ref b2, .ref b3, .ref b4, .ref b5])), (b1, .inl (cA, 64, .inl (fun j => nI (ed j)))), (b2, .inl (cA, 8, .inl (fun j => nI (lw j)))), (b3, .inl (cA, 8, .inl (fun j => nI (hg j)))), (b4, .inl (cA, 8, .inl (fun j => nI (od j)))), (b5, .inl (cA, 9, .inl (fun j => nI (ud j))))] → va_S A s.heap H locs → W p l e (headSpec (Cond.code yM_leader cM_leader 5 (some FieldType.int) :: bw) (rmL 2)).room s m ([.ref g0, .int (nI v)] : List Value).toArray below meth c H locs 0 0 (MQ below (va_Qi (fun (r9 : Int32) (_ : Unit) => r9 = (nI (tzN (mRe ed v n)))) (fun _ => gW D vwCl A [(g0, .inr (1, [.int (nI n), .ref b1, .int (nI 0), .ref b2, .ref b3, .ref b4, .ref b5])), (b1, .inl (cA, 64, .inl (fun j => nI (ed j)))), (b2, .inl (cA, 8, .inl (fun j => nI (lw j)))), (b3, .inl (cA, 8, .inl (fun j => nI (hg j)))), (b4, .inl (cA, 8, .inl (fun j => nI (od j)))), (b5, .inl (cA, 9, .inl (fun j => nI (ud j))))] [(cA, .int)]) A) ([.ref g0, .int (nI v)] : List Value).toArray s 0 0 A) (F0 m 98 ls []) := by
              intro k9
              induction k9 using Nat.strongRecOn with
              | _ k9 ih98 =>
                intro j hk9 hj9 htz ls hl H locs hP hD hS
                refine lv_iload_n hx hb dM_leader_98 rfl (lv_at hl 1 rfl) ?_
                refine lv_iload_n hx hb dM_leader_99 rfl (lv_at hl 0 rfl) ?_
                refine nv_ishr (x := mRe ed v n) (y := j) hx hb dM_leader_100 (by omega) (by omega) ?_
                refine lv_iconst (v := nI 1) hx hb dM_leader_101 (by decide) ?_
                refine nv_iand (x := (mRe ed v n) >>> j) (y := 1) hx hb dM_leader_102 ?_
                have hq103 := and1 (mRe ed v n) j
                refine nv_if_ne (x := ((mRe ed v n) >>> j) &&& 1) (tgt := 112) hx hb dM_leader_103 rfl (by omega) (fun hc103 => ?_) (fun hc103 => ?_)
                · refine lv_iload_n hx hb dM_leader_112 rfl (lv_at hl 0 rfl) ?_
                  exact W.iret (v := (nI j)) hx hb hr (fun t ht hW => ⟨⟨_, (), rfl, by rw [htz, tz_y (by omega) (b1_1 hc103)], by rw [ht]; exact hP, va_K.moved hW.alike hK, hD⟩, hS.F ht⟩) hS.2.2 dM_leader_113
                · refine lv_iinc (k := 0) hx hb dM_leader_106 hl rfl (nb_inc _) (by decide) (lv' := [(3, .int (nI (j + 1))), (2, .int (nI (mRe ed v n))), (0, .ref g0), (1, .int (nI v))]) rfl (fun ls hl => ?_)
                  refine lv_goto (tgt := 98) hx hb dM_leader_109 rfl ?_
                  exact ih98 _ (by omega) (j + 1) rfl (by have h8 := b1_0 hc103; rcases Nat.lt_or_ge j v with h7 | h7; omega; (rw [show j = v by omega, hrb] at h8; cases h8)) (htz.trans (tz_n (by omega) (b1_0 hc103))) ls hl _ _ hP hD hS
            exact L98 _ 0 rfl (Nat.zero_le _) rfl ls hl _ _ hP hD hS
          · refine lv_iconst (v := nI 0) hx hb dM_leader_40 (by decide) ?_
            refine lv_istore hx hb dM_leader_41 hl (by decide) (lv' := [(4, .int (nI 0)), (3, .int (nI i)), (2, .int (nI (mRe ed v i))), (0, .ref g0), (1, .int (nI v))]) rfl (fun ls hl => ?_)
            have L43 : ∀ (k9 : Nat) (k : Nat), k9 = 64 - k → k ≤ 64 → ∀ (ls : Array Slot), lv_has ls 5 [(4, .int (nI k)), (3, .int (nI i)), (2, .int (nI (mRo ed (mRe ed v i) k))), (0, .ref g0), (1, .int (nI v))] → ∀ (H : Heap) (locs : List Loc), va_P D vwCl [(g0, .inr (1, [.int (nI n), .ref b1, .int (nI 0), .ref b2, .ref b3, .ref b4, .ref b5])), (b1, .inl (cA, 64, .inl (fun j => nI (ed j)))), (b2, .inl (cA, 8, .inl (fun j => nI (lw j)))), (b3, .inl (cA, 8, .inl (fun j => nI (hg j)))), (b4, .inl (cA, 8, .inl (fun j => nI (od j)))), (b5, .inl (cA, 9, .inl (fun j => nI (ud j))))] H → va_D A [(g0, .inr (1, [.int (nI n), .ref b1, .int (nI 0), .ref b2, .ref b3, .ref b4, .ref b5])), (b1, .inl (cA, 64, .inl (fun j => nI (ed j)))), (b2, .inl (cA, 8, .inl (fun j => nI (lw j)))), (b3, .inl (cA, 8, .inl (fun j => nI (hg j)))), (b4, .inl (cA, 8, .inl (fun j => nI (od j)))), (b5, .inl (cA, 9, .inl (fun j => nI (ud j))))] → va_S A s.heap H locs → W p l e (headSpec (Cond.code yM_leader cM_leader 5 (some FieldType.int) :: bw) (rmL 2)).room s m ([.ref g0, .int (nI v)] : List Value).toArray below meth c H locs 0 0 (MQ below (va_Qi (fun (r9 : Int32) (_ : Unit) => r9 = (nI (tzN (mRe ed v n)))) (fun _ => gW D vwCl A [(g0, .inr (1, [.int (nI n), .ref b1, .int (nI 0), .ref b2, .ref b3, .ref b4, .ref b5])), (b1, .inl (cA, 64, .inl (fun j => nI (ed j)))), (b2, .inl (cA, 8, .inl (fun j => nI (lw j)))), (b3, .inl (cA, 8, .inl (fun j => nI (hg j)))), (b4, .inl (cA, 8, .inl (fun j => nI (od j)))), (b5, .inl (cA, 9, .inl (fun j => nI (ud j))))] [(cA, .int)]) A) ([.ref g0, .int (nI v)] : List Value).toArray s 0 0 A) (F0 m 43 ls []) := by
              intro k9
              induction k9 using Nat.strongRecOn with
              | _ k9 ih43 =>
                intro k hk9 hk8 ls hl H locs hP hD hS
                refine lv_iload hx hb dM_leader_43 (lv_at hl 0 rfl) ?_
                refine lv_bipush (v := nI 64) hx hb dM_leader_45 (by decide) ?_
                refine nv_icmp_ge (x := k) (y := 64) (tgt := 90) hx hb dM_leader_47 rfl (by omega) (by omega) (fun hc47 => ?_) (fun hc47 => ?_)
                · refine lv_iinc (k := 1) hx hb dM_leader_90 hl rfl (nb_inc _) (by decide) (lv' := [(3, .int (nI (i + 1))), (4, .int (nI k)), (2, .int (nI (mRo ed (mRe ed v i) k))), (0, .ref g0), (1, .int (nI v))]) rfl (fun ls hl => ?_)
                  refine lv_goto (tgt := 32) hx hb dM_leader_93 rfl ?_
                  have hl := lv_sub hl (l' := [(3, .int (nI (i + 1))), (2, .int (nI (mRo ed (mRe ed v i) k))), (0, .ref g0), (1, .int (nI v))]) [0, 2, 3, 4] rfl
                  have hl : lv_has ls 5 [(3, .int (nI (i + 1))), (2, .int (nI (mRe ed v (i + 1)))), (0, .ref g0), (1, .int (nI v))] := by rw [show mRe ed v (i + 1) = mRo ed (mRe ed v i) k from by rw [show k = 64 by omega]; rfl]; exact hl
                  exact ih32 _ (by omega) (i + 1) rfl (by omega) ls hl _ _ hP hD hS
                · refine lv_aload_n hx hb dM_leader_50 rfl (lv_at hl 3 rfl) ?_
                  refine va_get (D := D) (ci := 1) (v := .ref b1) (C := RM) (T := TM) (N := 7) hx hb hw uM hown hK hP 0 rfl rfl 1 (by decide) (hw _ w2_99) (fun _ h9 => h9) rfl dM_leader_51 ?_
                  refine lv_iload hx hb dM_leader_54 (lv_at hl 0 rfl) ?_
                  refine nv_iald (i := k) (f := ed) hx hb hK hP 1 0 rfl rfl (by omega) (by omega) dM_leader_56 ?_
                  refine lv_iconst (v := nI 1) hx hb dM_leader_57 (by decide) ?_
                  have hq58 := hed1 k (by omega)
                  have hq59 := mRo_lt (ed := ed) (mRe_lt (ed := ed) (show v < 8 by omega) i) k
                  refine nv_icmp_ne (x := ed k) (y := 1) (tgt := 84) hx hb dM_leader_58 rfl (by omega) (by omega) (fun hc58 => ?_) (fun hc58 => ?_)
                  · refine lv_iinc (k := 0) hx hb dM_leader_84 hl rfl (nb_inc _) (by decide) (lv' := [(4, .int (nI (k + 1))), (3, .int (nI i)), (2, .int (nI (mRo ed (mRe ed v i) k))), (0, .ref g0), (1, .int (nI v))]) rfl (fun ls hl => ?_)
                    refine lv_goto (tgt := 43) hx hb dM_leader_87 rfl ?_
                    have e9 : mRo ed (mRe ed v i) (k + 1) = mRo ed (mRe ed v i) k := if_neg (fun h9 => by first | exact hc58 h9.1 | exact hc71 h9.2)
                    have hl : lv_has ls 5 [(4, .int (nI (k + 1))), (3, .int (nI i)), (2, .int (nI (mRo ed (mRe ed v i) (k + 1)))), (0, .ref g0), (1, .int (nI v))] := by rw [e9]; exact hl
                    exact ih43 _ (by omega) (k + 1) rfl (by omega) ls hl _ _ hP hD hS
                  · refine lv_iload_n hx hb dM_leader_61 rfl (lv_at hl 2 rfl) ?_
                    refine lv_iload hx hb dM_leader_62 (lv_at hl 0 rfl) ?_
                    refine lv_bipush (v := nI 8) hx hb dM_leader_64 (by decide) ?_
                    refine nv_idiv (x := k) (y := 8) hx hb dM_leader_66 (by omega) (by omega) (by omega) ?_
                    refine nv_ishr (x := mRo ed (mRe ed v i) k) (y := k / 8) hx hb dM_leader_67 (by omega) (by omega) ?_
                    refine lv_iconst (v := nI 1) hx hb dM_leader_68 (by decide) ?_
                    refine nv_iand (x := (mRo ed (mRe ed v i) k) >>> (k / 8)) (y := 1) hx hb dM_leader_69 ?_
                    refine lv_iconst (v := nI 1) hx hb dM_leader_70 (by decide) ?_
                    have hq71 := and1 (mRo ed (mRe ed v i) k) (k / 8)
                    refine nv_icmp_ne (x := ((mRo ed (mRe ed v i) k) >>> (k / 8)) &&& 1) (y := 1) (tgt := 84) hx hb dM_leader_71 rfl (by omega) (by omega) (fun hc71 => ?_) (fun hc71 => ?_)
                    · refine lv_iinc (k := 0) hx hb dM_leader_84 hl rfl (nb_inc _) (by decide) (lv' := [(4, .int (nI (k + 1))), (3, .int (nI i)), (2, .int (nI (mRo ed (mRe ed v i) k))), (0, .ref g0), (1, .int (nI v))]) rfl (fun ls hl => ?_)
                      refine lv_goto (tgt := 43) hx hb dM_leader_87 rfl ?_
                      have e9 : mRo ed (mRe ed v i) (k + 1) = mRo ed (mRe ed v i) k := if_neg (fun h9 => by first | exact hc58 h9.1 | exact hc71 h9.2)
                      have hl : lv_has ls 5 [(4, .int (nI (k + 1))), (3, .int (nI i)), (2, .int (nI (mRo ed (mRe ed v i) (k + 1)))), (0, .ref g0), (1, .int (nI v))] := by rw [e9]; exact hl
                      exact ih43 _ (by omega) (k + 1) rfl (by omega) ls hl _ _ hP hD hS
                    · refine lv_iload_n hx hb dM_leader_74 rfl (lv_at hl 2 rfl) ?_
                      refine lv_iconst (v := nI 1) hx hb dM_leader_75 (by decide) ?_
                      refine lv_iload hx hb dM_leader_76 (lv_at hl 0 rfl) ?_
                      refine lv_bipush (v := nI 8) hx hb dM_leader_78 (by decide) ?_
                      refine nv_irem (x := k) (y := 8) hx hb dM_leader_80 (by omega) (by omega) (by omega) ?_
                      refine nv_ishl (y := k % 8) hx hb dM_leader_81 (by omega) ?_
                      refine nv_ior (x := mRo ed (mRe ed v i) k) (y := 2 ^ (k % 8)) hx hb dM_leader_82 ?_
                      refine lv_istore_n hx hb dM_leader_83 rfl hl (by decide) (lv' := [(2, .int (nI ((mRo ed (mRe ed v i) k) ||| (2 ^ (k % 8))))), (4, .int (nI k)), (3, .int (nI i)), (0, .ref g0), (1, .int (nI v))]) rfl (fun ls hl => ?_)
                      refine lv_iinc (k := 1) hx hb dM_leader_84 hl rfl (nb_inc _) (by decide) (lv' := [(4, .int (nI (k + 1))), (2, .int (nI ((mRo ed (mRe ed v i) k) ||| (2 ^ (k % 8))))), (3, .int (nI i)), (0, .ref g0), (1, .int (nI v))]) rfl (fun ls hl => ?_)
                      refine lv_goto (tgt := 43) hx hb dM_leader_87 rfl ?_
                      have e9 : mRo ed (mRe ed v i) (k + 1) = mRo ed (mRe ed v i) k ||| 2 ^ (k % 8) := if_pos ⟨hc58, hc71⟩
                      have hl := lv_sub hl (l' := [(4, .int (nI (k + 1))), (3, .int (nI i)), (2, .int (nI ((mRo ed (mRe ed v i) k) ||| (2 ^ (k % 8))))), (0, .ref g0), (1, .int (nI v))]) [0, 2, 1, 3, 4] rfl
                      have hl : lv_has ls 5 [(4, .int (nI (k + 1))), (3, .int (nI i)), (2, .int (nI (mRo ed (mRe ed v i) (k + 1)))), (0, .ref g0), (1, .int (nI v))] := by rw [e9]; exact hl
                      exact ih43 _ (by omega) (k + 1) rfl (by omega) ls hl _ _ hP hD hS
            exact L43 _ 0 rfl (Nat.zero_le _) ls hl _ _ hP hD hS
      exact L32 _ 0 rfl (Nat.zero_le _) ls hl _ _ hP hD hS
    · exact absurd hc21 (by omega)

set_option maxHeartbeats 4000000 in
set_option maxRecDepth 100000 in
theorem cM_left_c (l : Launch) (D : va_G) (A : Nat → Prop) (g0 b1 b2 b3 b4 b5 : Nat) (cA : ClassId) (n ft : Nat) (ed lw hg od ud : Nat → Nat)  (hn : n ≤ 8)(hed1 : ∀ k, k < 64 → ed k ≤ 1)(hlh : ∀ v, v < n → lw v < 16 ∧ hg v < 16) (hu : ud n ≤ 16) : Rd l yM_left (Cond.code yM_left cM_left 7 (some FieldType.int) :: bw) (rmL 3) [.ref g0] (gB D vwCl [(g0, .inr (1, [.int (nI n), .ref b1, .int (nI ft), .ref b2, .ref b3, .ref b4, .ref b5])), (b1, .inl (cA, 64, .inl (fun j => nI (ed j)))), (b2, .inl (cA, 8, .inl (fun j => nI (lw j)))), (b3, .inl (cA, 8, .inl (fun j => nI (hg j)))), (b4, .inl (cA, 8, .inl (fun j => nI (od j)))), (b5, .inl (cA, 9, .inl (fun j => nI (ud j))))] [(cA, .int)]) ((nI (mLo ed lw hg n (ud n) (pcN (jBest (fun set => mAl ed set 0 n) (2 ^ n))) (2 ^ n)))) := by
  refine Met.ofW (cc := cM_left) (maxL := 7) (ret := (some FieldType.int)) (by decide) rfl ?_
  intro p e s m args below meth c s₁ B9 hml hv
  obtain ⟨rfl, hP, hK⟩ := hv
  have hx := B9.exec
  have hb := B9.bytes
  have hr := B9.returns
  have hts := atoms_spec (ws := (Cond.code yM_left cM_left 7 (some FieldType.int) :: bw)) B9.pre
  have hw : ∀ w ∈ bw, w.before _ s = true := fun w h => hts w (List.mem_cons_of_mem _ h)
  have hown : s.vm.findClass RM = some m.cls := findClass_of_methodNamed B9.named
  have hlocks := B9.notSynchronized
  have hl := lv_entry ([.ref g0]) (n := 7) (Nat.le_of_ble_eq_true rfl)
  rw [lg_entry_eq]
  generalize (lg_sl ([.ref g0]) ++ List.replicate (7 - (lg_sl ([.ref g0])).length) Slot.unset).toArray = ls at hl ⊢
  have hl : lv_has ls 7 [(0, .ref g0)] := hl
  have hp := pw_8 hn
  have hp0 := Nat.two_pow_pos n
  have hu0 := Nat.two_pow_pos (ud n)
  have hb0 := jBest_lt (P := fun set => mAl ed set 0 n) (2 ^ n) (by omega)
  have hb1 := pcN_le (jBest (fun set => mAl ed set 0 n) (2 ^ n))
  refine lv_aload_n hx hb dM_left_0 rfl (lv_at hl 0 rfl) ?_
  refine lv_iconst (v := nI 0) hx hb dM_left_1 (by decide) ?_
  refine nr_V (b := g0) (As := [.int (nI 0)]) (C := RM) (rest := []) ⟨hx, hb, hml, hown, hw⟩ (cM_greatest_c l D A g0 b1 b2 b3 b4 b5 cA n ft ed lw hg od ud 0 hn hed1 (by omega)) (cwV 1 hw (gV w2_216 w2_218 w0_25 w1_2 w2_219) rfl rfl rfl ⟨rfl, by decide, by decide, by decide +kernel⟩ ⟨Nat.le_of_ble_eq_true rfl, Nat.le_of_ble_eq_true rfl⟩) gB_blind (va_recv (q0 := 0) (ci := 1) hK hP rfl rfl) (gB_at hP hK _) rfl hl.1 rfl (Nat.le_of_ble_eq_true rfl) dM_left_2 ⟨Nat.zero_le _, Nat.zero_le _⟩ ?_
  refine nr_S (As := [.int (nI (jBest (fun set => mAl ed set 0 n) (2 ^ n)))]) (rest := []) ⟨hx, hb, hml, hown, hw⟩ (cM_count_c l (jBest (fun set => mAl ed set 0 n) (2 ^ n)) (by omega)) (va_cwS 1 hw (gS2 w2_224 w2_225 w1_2 w2_226) rfl rfl rfl ⟨by decide, by decide, by decide +kernel⟩ ⟨Nat.le_of_ble_eq_true rfl, Nat.le_of_ble_eq_true rfl⟩) gT_blind (gT_at _) rfl hl.1 rfl (Nat.le_of_ble_eq_true rfl) dM_left_5 ⟨Nat.zero_le _, Nat.zero_le _⟩ ?_
  refine lv_istore_n hx hb dM_left_8 rfl hl (by decide) (lv' := [(1, .int (nI (pcN (jBest (fun set => mAl ed set 0 n) (2 ^ n))))), (0, .ref g0)]) rfl (fun ls hl => ?_)
  refine lv_iconst (v := nI 1) hx hb dM_left_9 (by decide) ?_
  refine lv_aload_n hx hb dM_left_10 rfl (lv_at hl 1 rfl) ?_
  refine va_get (D := D) (ci := 1) (v := .ref b5) (C := RM) (T := TM) (N := 7) hx hb hw uM hown hK hP 0 rfl rfl 6 (by decide) (hw _ w2_104) (fun _ h9 => h9) rfl dM_left_11 ?_
  refine lv_aload_n hx hb dM_left_14 rfl (lv_at hl 1 rfl) ?_
  refine va_get (D := D) (ci := 1) (v := .int (nI n)) (C := RM) (T := TM) (N := 7) hx hb hw uM hown hK hP 0 rfl rfl 0 (by decide) (hw _ w2_98) (fun _ h9 => h9) rfl dM_left_15 ?_
  refine nv_iald (i := n) (f := ud) hx hb hK hP 5 0 rfl rfl (by omega) (by omega) dM_left_18 ?_
  refine nv_ishl (y := ud n) hx hb dM_left_19 (by omega) ?_
  refine lv_iconst (v := nI 1) hx hb dM_left_20 (by decide) ?_
  refine nv_isub (x := 2 ^ (ud n)) (y := 1) hx hb dM_left_21 (by omega) ?_
  refine lv_istore_n hx hb dM_left_22 rfl hl (by decide) (lv' := [(2, .int (nI ((2 ^ (ud n)) - 1))), (1, .int (nI (pcN (jBest (fun set => mAl ed set 0 n) (2 ^ n))))), (0, .ref g0)]) rfl (fun ls hl => ?_)
  refine lv_iconst (v := nI 0) hx hb dM_left_23 (by decide) ?_
  refine lv_istore_n hx hb dM_left_24 rfl hl (by decide) (lv' := [(3, .int (nI 0)), (2, .int (nI ((2 ^ (ud n)) - 1))), (1, .int (nI (pcN (jBest (fun set => mAl ed set 0 n) (2 ^ n))))), (0, .ref g0)]) rfl (fun ls hl => ?_)
  refine lv_iconst (v := nI 0) hx hb dM_left_25 (by decide) ?_
  refine lv_istore hx hb dM_left_26 hl (by decide) (lv' := [(4, .int (nI 0)), (3, .int (nI 0)), (2, .int (nI ((2 ^ (ud n)) - 1))), (1, .int (nI (pcN (jBest (fun set => mAl ed set 0 n) (2 ^ n))))), (0, .ref g0)]) rfl (fun ls hl => ?_)
  have L28 : ∀ (k9 : Nat) (i : Nat), k9 = 2 ^ n + 1 - i → i ≤ 2 ^ n → ∀ (ls : Array Slot), lv_has ls 7 [(4, .int (nI i)), (3, .int (nI (mLo ed lw hg n (ud n) (pcN (jBest (fun set => mAl ed set 0 n) (2 ^ n))) i))), (2, .int (nI (2 ^ ud n - 1))), (1, .int (nI (pcN (jBest (fun set => mAl ed set 0 n) (2 ^ n))))), (0, .ref g0)] → W p l e (headSpec (Cond.code yM_left cM_left 7 (some FieldType.int) :: bw) (rmL 3)).room s m ([.ref g0] : List Value).toArray below meth c s.heap [] 0 0 (MQ below (QcRead ((nI (mLo ed lw hg n (ud n) (pcN (jBest (fun set => mAl ed set 0 n) (2 ^ n))) (2 ^ n))))) ([.ref g0] : List Value).toArray s 0 0 (fun _ => False)) (F0 m 28 ls []) := by
    intro k9
    induction k9 using Nat.strongRecOn with
    | _ k9 ih28 =>
      intro i hk9 hi9 ls hl
      refine lv_iload hx hb dM_left_28 (lv_at hl 0 rfl) ?_
      refine lv_aload_n hx hb dM_left_30 rfl (lv_at hl 4 rfl) ?_
      refine nr_V (b := g0) (As := []) (C := RM) (rest := [.int (nI i)]) ⟨hx, hb, hml, hown, hw⟩ (cM_all_c l D A g0 b1 b2 b3 b4 b5 cA n ft ed lw hg od ud hn) (cwV 0 hw (gV w2_168 w2_170 w0_18 w1_2 w2_171) rfl rfl rfl ⟨rfl, by decide, by decide, by decide +kernel⟩ ⟨Nat.le_of_ble_eq_true rfl, Nat.le_of_ble_eq_true rfl⟩) gB_blind (va_recv (q0 := 0) (ci := 1) hK hP rfl rfl) (gB_at hP hK _) rfl hl.1 rfl (Nat.le_of_ble_eq_true rfl) dM_left_31 ⟨Nat.zero_le _, Nat.zero_le _⟩ ?_
      refine nv_icmp_gt (x := i) (y := 2 ^ n - 1) (tgt := 132) hx hb dM_left_34 rfl (by omega) (by omega) (fun hc34 => ?_) (fun hc34 => ?_)
      · refine lv_iload_n hx hb dM_left_132 rfl (lv_at hl 1 rfl) ?_
        exact W.iret (v := (nI (mLo ed lw hg n (ud n) (pcN (jBest (fun set => mAl ed set 0 n) (2 ^ n))) i))) hx hb hr (fun t ht hW => ⟨by rw [show i = 2 ^ n by omega], ht⟩) (fun q h => by cases h) dM_left_133
      · refine lv_iload hx hb dM_left_37 (lv_at hl 0 rfl) ?_
        refine nr_S (As := [.int (nI i)]) (rest := []) ⟨hx, hb, hml, hown, hw⟩ (cM_count_c l i (by omega)) (va_cwS 1 hw (gS2 w2_224 w2_225 w1_2 w2_226) rfl rfl rfl ⟨by decide, by decide, by decide +kernel⟩ ⟨Nat.le_of_ble_eq_true rfl, Nat.le_of_ble_eq_true rfl⟩) gT_blind (gT_at _) rfl hl.1 rfl (Nat.le_of_ble_eq_true rfl) dM_left_39 ⟨Nat.zero_le _, Nat.zero_le _⟩ ?_
        refine lv_iload_n hx hb dM_left_42 rfl (lv_at hl 3 rfl) ?_
        have hq43 := pcN_le i
        refine nv_icmp_ne (x := pcN i) (y := pcN (jBest (fun set => mAl ed set 0 n) (2 ^ n))) (tgt := 126) hx hb dM_left_43 rfl (by omega) (by omega) (fun hc43 => ?_) (fun hc43 => ?_)
        · refine lv_iinc (k := 0) hx hb dM_left_126 hl rfl (nb_inc _) (by decide) (lv' := [(4, .int (nI (i + 1))), (3, .int (nI (mLo ed lw hg n (ud n) (pcN (jBest (fun set => mAl ed set 0 n) (2 ^ n))) i))), (2, .int (nI (2 ^ ud n - 1))), (1, .int (nI (pcN (jBest (fun set => mAl ed set 0 n) (2 ^ n))))), (0, .ref g0)]) rfl (fun ls hl => ?_)
          refine lv_goto (tgt := 28) hx hb dM_left_129 rfl ?_
          have e9 : mLo ed lw hg n (ud n) (pcN (jBest (fun set => mAl ed set 0 n) (2 ^ n))) (i + 1) = mLo ed lw hg n (ud n) (pcN (jBest (fun set => mAl ed set 0 n) (2 ^ n))) i := if_neg (fun h9 => by first | exact hc43 h9.1 | exact Bool.false_ne_true (hc53.symm.trans h9.2))
          have hl : lv_has ls 7 [(4, .int (nI (i + 1))), (3, .int (nI (mLo ed lw hg n (ud n) (pcN (jBest (fun set => mAl ed set 0 n) (2 ^ n))) (i + 1)))), (2, .int (nI (2 ^ ud n - 1))), (1, .int (nI (pcN (jBest (fun set => mAl ed set 0 n) (2 ^ n))))), (0, .ref g0)] := by rw [e9]; exact hl
          exact ih28 _ (by omega) (i + 1) rfl (by omega) ls hl
        · refine lv_aload_n hx hb dM_left_46 rfl (lv_at hl 4 rfl) ?_
          refine lv_iload hx hb dM_left_47 (lv_at hl 0 rfl) ?_
          refine lv_iconst (v := nI 0) hx hb dM_left_49 (by decide) ?_
          refine nr_V (b := g0) (As := [.int (nI i), .int (nI 0)]) (C := RM) (rest := []) ⟨hx, hb, hml, hown, hw⟩ (cM_alike_c l D A g0 b1 b2 b3 b4 b5 cA n ft ed lw hg od ud i 0 hn hed1 (by omega) (by omega)) (cwV 2 hw (gV w2_220 w2_222 w0_26 w1_2 w2_223) rfl rfl rfl ⟨rfl, by decide, by decide, by decide +kernel⟩ ⟨Nat.le_of_ble_eq_true rfl, Nat.le_of_ble_eq_true rfl⟩) gB_blind (va_recv (q0 := 0) (ci := 1) hK hP rfl rfl) (gB_at hP hK _) rfl hl.1 rfl (Nat.le_of_ble_eq_true rfl) dM_left_50 ⟨Nat.zero_le _, Nat.zero_le _⟩ ?_
          refine nv_b_eq (x := mAl ed i 0 n) (tgt := 126) hx hb dM_left_53 rfl (fun hc53 => ?_) (fun hc53 => ?_)
          · refine lv_iinc (k := 0) hx hb dM_left_126 hl rfl (nb_inc _) (by decide) (lv' := [(4, .int (nI (i + 1))), (3, .int (nI (mLo ed lw hg n (ud n) (pcN (jBest (fun set => mAl ed set 0 n) (2 ^ n))) i))), (2, .int (nI (2 ^ ud n - 1))), (1, .int (nI (pcN (jBest (fun set => mAl ed set 0 n) (2 ^ n))))), (0, .ref g0)]) rfl (fun ls hl => ?_)
            refine lv_goto (tgt := 28) hx hb dM_left_129 rfl ?_
            have e9 : mLo ed lw hg n (ud n) (pcN (jBest (fun set => mAl ed set 0 n) (2 ^ n))) (i + 1) = mLo ed lw hg n (ud n) (pcN (jBest (fun set => mAl ed set 0 n) (2 ^ n))) i := if_neg (fun h9 => by first | exact hc43 h9.1 | exact Bool.false_ne_true (hc53.symm.trans h9.2))
            have hl : lv_has ls 7 [(4, .int (nI (i + 1))), (3, .int (nI (mLo ed lw hg n (ud n) (pcN (jBest (fun set => mAl ed set 0 n) (2 ^ n))) (i + 1)))), (2, .int (nI (2 ^ ud n - 1))), (1, .int (nI (pcN (jBest (fun set => mAl ed set 0 n) (2 ^ n))))), (0, .ref g0)] := by rw [e9]; exact hl
            exact ih28 _ (by omega) (i + 1) rfl (by omega) ls hl
          · refine lv_iconst (v := nI 0) hx hb dM_left_56 (by decide) ?_
            refine lv_istore hx hb dM_left_57 hl (by decide) (lv' := [(5, .int (nI 0)), (4, .int (nI i)), (3, .int (nI (mLo ed lw hg n (ud n) (pcN (jBest (fun set => mAl ed set 0 n) (2 ^ n))) i))), (2, .int (nI (2 ^ ud n - 1))), (1, .int (nI (pcN (jBest (fun set => mAl ed set 0 n) (2 ^ n))))), (0, .ref g0)]) rfl (fun ls hl => ?_)
            refine lv_iconst (v := nI 0) hx hb dM_left_59 (by decide) ?_
            refine lv_istore hx hb dM_left_60 hl (by decide) (lv' := [(6, .int (nI 0)), (5, .int (nI 0)), (4, .int (nI i)), (3, .int (nI (mLo ed lw hg n (ud n) (pcN (jBest (fun set => mAl ed set 0 n) (2 ^ n))) i))), (2, .int (nI (2 ^ ud n - 1))), (1, .int (nI (pcN (jBest (fun set => mAl ed set 0 n) (2 ^ n))))), (0, .ref g0)]) rfl (fun ls hl => ?_)
            have L62 : ∀ (k9 : Nat) (v : Nat), k9 = n - v → v ≤ n → ∀ (ls : Array Slot), lv_has ls 7 [(6, .int (nI v)), (5, .int (nI (mEn lw hg i v))), (4, .int (nI i)), (3, .int (nI (mLo ed lw hg n (ud n) (pcN (jBest (fun set => mAl ed set 0 n) (2 ^ n))) i))), (2, .int (nI (2 ^ ud n - 1))), (1, .int (nI (pcN (jBest (fun set => mAl ed set 0 n) (2 ^ n))))), (0, .ref g0)] → W p l e (headSpec (Cond.code yM_left cM_left 7 (some FieldType.int) :: bw) (rmL 3)).room s m ([.ref g0] : List Value).toArray below meth c s.heap [] 0 0 (MQ below (QcRead ((nI (mLo ed lw hg n (ud n) (pcN (jBest (fun set => mAl ed set 0 n) (2 ^ n))) (2 ^ n))))) ([.ref g0] : List Value).toArray s 0 0 (fun _ => False)) (F0 m 62 ls []) := by
              intro k9
              induction k9 using Nat.strongRecOn with
              | _ k9 ih62 =>
                intro v hk9 hv9 ls hl
                refine lv_iload hx hb dM_left_62 (lv_at hl 0 rfl) ?_
                refine lv_aload_n hx hb dM_left_64 rfl (lv_at hl 6 rfl) ?_
                refine va_get (D := D) (ci := 1) (v := .int (nI n)) (C := RM) (T := TM) (N := 7) hx hb hw uM hown hK hP 0 rfl rfl 0 (by decide) (hw _ w2_98) (fun _ h9 => h9) rfl dM_left_65 ?_
                refine nv_icmp_ge (x := v) (y := n) (tgt := 117) hx hb dM_left_68 rfl (by omega) (by omega) (fun hc68 => ?_) (fun hc68 => ?_)
                · refine lv_iload_n hx hb dM_left_117 rfl (lv_at hl 3 rfl) ?_
                  refine lv_iload_n hx hb dM_left_118 rfl (lv_at hl 4 rfl) ?_
                  refine lv_iload hx hb dM_left_119 (lv_at hl 1 rfl) ?_
                  refine lv_iconst (v := nI 4294967295) hx hb dM_left_121 nb_m1 ?_
                  refine nv_ixor (x := mEn lw hg i v) (y := 4294967295) hx hb dM_left_122 ?_
                  refine nv_iand (x := 2 ^ ud n - 1) (y := (mEn lw hg i v) ^^^ 4294967295) hx hb dM_left_123 ?_
                  refine nv_ior (x := mLo ed lw hg n (ud n) (pcN (jBest (fun set => mAl ed set 0 n) (2 ^ n))) i) (y := (2 ^ ud n - 1) &&& ((mEn lw hg i v) ^^^ 4294967295)) hx hb dM_left_124 ?_
                  refine lv_istore_n hx hb dM_left_125 rfl hl (by decide) (lv' := [(3, .int (nI ((mLo ed lw hg n (ud n) (pcN (jBest (fun set => mAl ed set 0 n) (2 ^ n))) i) ||| ((2 ^ ud n - 1) &&& ((mEn lw hg i v) ^^^ 4294967295))))), (6, .int (nI v)), (5, .int (nI (mEn lw hg i v))), (4, .int (nI i)), (2, .int (nI (2 ^ ud n - 1))), (1, .int (nI (pcN (jBest (fun set => mAl ed set 0 n) (2 ^ n))))), (0, .ref g0)]) rfl (fun ls hl => ?_)
                  refine lv_iinc (k := 3) hx hb dM_left_126 hl rfl (nb_inc _) (by decide) (lv' := [(4, .int (nI (i + 1))), (3, .int (nI ((mLo ed lw hg n (ud n) (pcN (jBest (fun set => mAl ed set 0 n) (2 ^ n))) i) ||| ((2 ^ ud n - 1) &&& ((mEn lw hg i v) ^^^ 4294967295))))), (6, .int (nI v)), (5, .int (nI (mEn lw hg i v))), (2, .int (nI (2 ^ ud n - 1))), (1, .int (nI (pcN (jBest (fun set => mAl ed set 0 n) (2 ^ n))))), (0, .ref g0)]) rfl (fun ls hl => ?_)
                  refine lv_goto (tgt := 28) hx hb dM_left_129 rfl ?_
                  have e9 : mLo ed lw hg n (ud n) (pcN (jBest (fun set => mAl ed set 0 n) (2 ^ n))) (i + 1) = mLo ed lw hg n (ud n) (pcN (jBest (fun set => mAl ed set 0 n) (2 ^ n))) i ||| ((2 ^ ud n - 1) &&& ntN (mEn lw hg i v)) := by rw [show v = n by omega]; exact if_pos ⟨hc43, hc53⟩
                  have hl := lv_sub hl (l' := [(4, .int (nI (i + 1))), (3, .int (nI ((mLo ed lw hg n (ud n) (pcN (jBest (fun set => mAl ed set 0 n) (2 ^ n))) i) ||| ((2 ^ ud n - 1) &&& ((mEn lw hg i v) ^^^ 4294967295))))), (2, .int (nI (2 ^ ud n - 1))), (1, .int (nI (pcN (jBest (fun set => mAl ed set 0 n) (2 ^ n))))), (0, .ref g0)]) [0, 1, 4, 5, 6] rfl
                  have hl : lv_has ls 7 [(4, .int (nI (i + 1))), (3, .int (nI (mLo ed lw hg n (ud n) (pcN (jBest (fun set => mAl ed set 0 n) (2 ^ n))) (i + 1)))), (2, .int (nI (2 ^ ud n - 1))), (1, .int (nI (pcN (jBest (fun set => mAl ed set 0 n) (2 ^ n))))), (0, .ref g0)] := by rw [e9]; exact hl
                  exact ih28 _ (by omega) (i + 1) rfl (by omega) ls hl
                · refine lv_iload hx hb dM_left_71 (lv_at hl 2 rfl) ?_
                  refine lv_iload hx hb dM_left_73 (lv_at hl 0 rfl) ?_
                  refine nv_ishr (x := i) (y := v) hx hb dM_left_75 (by omega) (by omega) ?_
                  refine lv_iconst (v := nI 1) hx hb dM_left_76 (by decide) ?_
                  refine nv_iand (x := i >>> v) (y := 1) hx hb dM_left_77 ?_
                  refine lv_iconst (v := nI 1) hx hb dM_left_78 (by decide) ?_
                  have hq79 := and1 i v
                  refine nv_icmp_ne (x := (i >>> v) &&& 1) (y := 1) (tgt := 107) hx hb dM_left_79 rfl (by omega) (by omega) (fun hc79 => ?_) (fun hc79 => ?_)
                  · refine lv_iload hx hb dM_left_107 (lv_at hl 1 rfl) ?_
                    refine lv_istore hx hb dM_left_109 hl (by decide) (lv' := [(5, .int (nI (mEn lw hg i v))), (6, .int (nI v)), (4, .int (nI i)), (3, .int (nI (mLo ed lw hg n (ud n) (pcN (jBest (fun set => mAl ed set 0 n) (2 ^ n))) i))), (2, .int (nI (2 ^ ud n - 1))), (1, .int (nI (pcN (jBest (fun set => mAl ed set 0 n) (2 ^ n))))), (0, .ref g0)]) rfl (fun ls hl => ?_)
                    refine lv_iinc (k := 1) hx hb dM_left_111 hl rfl (nb_inc _) (by decide) (lv' := [(6, .int (nI (v + 1))), (5, .int (nI (mEn lw hg i v))), (4, .int (nI i)), (3, .int (nI (mLo ed lw hg n (ud n) (pcN (jBest (fun set => mAl ed set 0 n) (2 ^ n))) i))), (2, .int (nI (2 ^ ud n - 1))), (1, .int (nI (pcN (jBest (fun set => mAl ed set 0 n) (2 ^ n))))), (0, .ref g0)]) rfl (fun ls hl => ?_)
                    refine lv_goto (tgt := 62) hx hb dM_left_114 rfl ?_
                    have e9 : mEn lw hg i (v + 1) = mEn lw hg i v := if_neg (by rw [b1_f hc79]; exact Bool.false_ne_true)
                    have hl : lv_has ls 7 [(6, .int (nI (v + 1))), (5, .int (nI (mEn lw hg i (v + 1)))), (4, .int (nI i)), (3, .int (nI (mLo ed lw hg n (ud n) (pcN (jBest (fun set => mAl ed set 0 n) (2 ^ n))) i))), (2, .int (nI (2 ^ ud n - 1))), (1, .int (nI (pcN (jBest (fun set => mAl ed set 0 n) (2 ^ n))))), (0, .ref g0)] := by rw [e9]; exact hl
                    exact ih62 _ (by omega) (v + 1) rfl (by omega) ls hl
                  · have hq82 := hlh v hc68
                    refine lv_iload hx hb dM_left_82 (lv_at hl 1 rfl) ?_
                    refine lv_iconst (v := nI 1) hx hb dM_left_84 (by decide) ?_
                    refine lv_aload_n hx hb dM_left_85 rfl (lv_at hl 6 rfl) ?_
                    refine va_get (D := D) (ci := 1) (v := .ref b2) (C := RM) (T := TM) (N := 7) hx hb hw uM hown hK hP 0 rfl rfl 3 (by decide) (hw _ w2_101) (fun _ h9 => h9) rfl dM_left_86 ?_
                    refine lv_iload hx hb dM_left_89 (lv_at hl 0 rfl) ?_
                    refine nv_iald (i := v) (f := lw) hx hb hK hP 2 0 rfl rfl (by omega) (by omega) dM_left_91 ?_
                    refine nv_ishl (y := lw v) hx hb dM_left_92 (by omega) ?_
                    refine nv_ior (x := mEn lw hg i v) (y := 2 ^ (lw v)) hx hb dM_left_93 ?_
                    refine lv_iconst (v := nI 1) hx hb dM_left_94 (by decide) ?_
                    refine lv_aload_n hx hb dM_left_95 rfl (lv_at hl 6 rfl) ?_
                    refine va_get (D := D) (ci := 1) (v := .ref b3) (C := RM) (T := TM) (N := 7) hx hb hw uM hown hK hP 0 rfl rfl 4 (by decide) (hw _ w2_102) (fun _ h9 => h9) rfl dM_left_96 ?_
                    refine lv_iload hx hb dM_left_99 (lv_at hl 0 rfl) ?_
                    refine nv_iald (i := v) (f := hg) hx hb hK hP 3 0 rfl rfl (by omega) (by omega) dM_left_101 ?_
                    refine nv_ishl (y := hg v) hx hb dM_left_102 (by omega) ?_
                    refine nv_ior (x := (mEn lw hg i v) ||| (2 ^ (lw v))) (y := 2 ^ (hg v)) hx hb dM_left_103 ?_
                    refine lv_goto (tgt := 109) hx hb dM_left_104 rfl ?_
                    refine lv_istore hx hb dM_left_109 hl (by decide) (lv' := [(5, .int (nI (((mEn lw hg i v) ||| (2 ^ (lw v))) ||| (2 ^ (hg v))))), (6, .int (nI v)), (4, .int (nI i)), (3, .int (nI (mLo ed lw hg n (ud n) (pcN (jBest (fun set => mAl ed set 0 n) (2 ^ n))) i))), (2, .int (nI (2 ^ ud n - 1))), (1, .int (nI (pcN (jBest (fun set => mAl ed set 0 n) (2 ^ n))))), (0, .ref g0)]) rfl (fun ls hl => ?_)
                    refine lv_iinc (k := 1) hx hb dM_left_111 hl rfl (nb_inc _) (by decide) (lv' := [(6, .int (nI (v + 1))), (5, .int (nI (((mEn lw hg i v) ||| (2 ^ (lw v))) ||| (2 ^ (hg v))))), (4, .int (nI i)), (3, .int (nI (mLo ed lw hg n (ud n) (pcN (jBest (fun set => mAl ed set 0 n) (2 ^ n))) i))), (2, .int (nI (2 ^ ud n - 1))), (1, .int (nI (pcN (jBest (fun set => mAl ed set 0 n) (2 ^ n))))), (0, .ref g0)]) rfl (fun ls hl => ?_)
                    refine lv_goto (tgt := 62) hx hb dM_left_114 rfl ?_
                    have e9 : mEn lw hg i (v + 1) = mEn lw hg i v ||| 2 ^ lw v ||| 2 ^ hg v := if_pos (b1_t hc79)
                    have hl : lv_has ls 7 [(6, .int (nI (v + 1))), (5, .int (nI (mEn lw hg i (v + 1)))), (4, .int (nI i)), (3, .int (nI (mLo ed lw hg n (ud n) (pcN (jBest (fun set => mAl ed set 0 n) (2 ^ n))) i))), (2, .int (nI (2 ^ ud n - 1))), (1, .int (nI (pcN (jBest (fun set => mAl ed set 0 n) (2 ^ n))))), (0, .ref g0)] := by rw [e9]; exact hl
                    exact ih62 _ (by omega) (v + 1) rfl (by omega) ls hl
            exact L62 _ 0 rfl (Nat.zero_le _) ls hl
  exact L28 _ 0 rfl (Nat.zero_le _) ls hl
