theorem nb_nar (b : Bool) : narrow .boolean (.int (bI b)) = .int (bI b) := by cases b <;> rfl
theorem gS2 {own : String} {idx maxL : Nat} {y : MethodName} {bytes : ByteArray} {ret : Option FieldType} (h1 : Cond.methodLink own idx y ∈ bw) (h2 : Cond.static y ∈ bw) (h4 : Cond.initialized y.cls ∈ bw) (h5 : Cond.code y bytes maxL ret ∈ bw) : GoodIn bw (va_wsS own idx y (Cond.code y bytes maxL ret :: bw)) := by
  intro w hw
  have hm : w ∈ bw := by
    simp only [va_wsS, List.cons_append, List.nil_append, List.mem_cons] at hw
    rcases hw with rfl | rfl | rfl | rfl | hw
    · exact h1
    · exact h2
    · exact h4
    · exact h5
    · exact hw
  exact ⟨hm, good_of_word (List.mem_filter.mp hm).2⟩

set_option maxHeartbeats 4000000 in
set_option maxRecDepth 100000 in
theorem cX_only_c (l : Launch) (k : Nat) (hk : k < 32) : Rd l yX_only (Cond.code yX_only cX_only 1 (some FieldType.int) :: bw) (rmL 1) [.int (nI k)] gT ((nI (2 ^ k))) := by
  refine Met.ofW (cc := cX_only) (maxL := 1) (ret := (some FieldType.int)) (by decide) rfl ?_
  intro p e s m args below meth c s₁ B9 hml hv
  obtain ⟨rfl, -⟩ := hv
  have hx := B9.exec
  have hb := B9.bytes
  have hr := B9.returns
  have hts := atoms_spec (ws := (Cond.code yX_only cX_only 1 (some FieldType.int) :: bw)) B9.pre
  have hw : ∀ w ∈ bw, w.before _ s = true := fun w h => hts w (List.mem_cons_of_mem _ h)
  have hown : s.vm.findClass RX = some m.cls := findClass_of_methodNamed B9.named
  have hlocks := B9.notSynchronized
  have hl := lv_entry ([.int (nI k)]) (n := 1) (Nat.le_of_ble_eq_true rfl)
  rw [lg_entry_eq]
  generalize (lg_sl ([.int (nI k)]) ++ List.replicate (1 - (lg_sl ([.int (nI k)])).length) Slot.unset).toArray = ls at hl ⊢
  have hl : lv_has ls 1 [(0, .int (nI k))] := hl
  refine lv_iconst (v := nI 1) hx hb dX_only_0 (by decide) ?_
  refine lv_iload_n hx hb dX_only_1 rfl (lv_at hl 0 rfl) ?_
  refine nv_ishl (y := k) hx hb dX_only_2 (by omega) ?_
  exact W.iret (v := (nI (2 ^ k))) hx hb hr (fun t ht hW => ⟨rfl, ht⟩) (fun q h => by cases h) dX_only_3

set_option maxHeartbeats 4000000 in
set_option maxRecDepth 100000 in
theorem cX_has_c (l : Launch) (a k : Nat) (ha : a < 2 ^ 31) (hk : k < 32) : Rd l yX_has (Cond.code yX_has cX_has 2 (some FieldType.boolean) :: bw) (rmL 2) [.int (nI a), .int (nI k)] gT ((bI (a.testBit k))) := by
  refine Met.ofW (cc := cX_has) (maxL := 2) (ret := (some FieldType.boolean)) (by decide) rfl ?_
  intro p e s m args below meth c s₁ B9 hml hv
  obtain ⟨rfl, -⟩ := hv
  have hx := B9.exec
  have hb := B9.bytes
  have hr := B9.returns
  have hts := atoms_spec (ws := (Cond.code yX_has cX_has 2 (some FieldType.boolean) :: bw)) B9.pre
  have hw : ∀ w ∈ bw, w.before _ s = true := fun w h => hts w (List.mem_cons_of_mem _ h)
  have hown : s.vm.findClass RX = some m.cls := findClass_of_methodNamed B9.named
  have hlocks := B9.notSynchronized
  have hl := lv_entry ([.int (nI a), .int (nI k)]) (n := 2) (Nat.le_of_ble_eq_true rfl)
  rw [lg_entry_eq]
  generalize (lg_sl ([.int (nI a), .int (nI k)]) ++ List.replicate (2 - (lg_sl ([.int (nI a), .int (nI k)])).length) Slot.unset).toArray = ls at hl ⊢
  have hl : lv_has ls 2 [(0, .int (nI a)), (1, .int (nI k))] := hl
  refine lv_iload_n hx hb dX_has_0 rfl (lv_at hl 0 rfl) ?_
  refine lv_iload_n hx hb dX_has_1 rfl (lv_at hl 1 rfl) ?_
  refine nr_S (As := [.int (nI k)]) (rest := [.int (nI a)]) ⟨hx, hb, hml, hown, hw⟩ (cX_only_c l k (by omega)) (va_cwS 1 hw (gS2 w1_61 w1_62 w1_1 w1_63) rfl rfl rfl ⟨by decide, by decide, by decide +kernel⟩ ⟨Nat.le_of_ble_eq_true rfl, Nat.le_of_ble_eq_true rfl⟩) gT_blind (gT_at _) rfl hl.1 rfl (Nat.le_of_ble_eq_true rfl) dX_has_2 ⟨Nat.zero_le _, Nat.zero_le _⟩ ?_
  refine nv_iand (x := a) (y := 2 ^ k) hx hb dX_has_5 ?_
  have hq6 : a &&& 2 ^ k < 2 ^ 32 := and_lt (by omega)
  refine nv_if_eq (x := a &&& (2 ^ k)) (tgt := 13) hx hb dX_has_6 rfl (by omega) (fun hc6 => ?_) (fun hc6 => ?_)
  · have hq7 := (nb_bit a k).mp hc6
    refine lv_iconst (v := nI 0) hx hb dX_has_13 (by decide) ?_
    exact W.zret (v := (nI 0)) hx hb hr rfl (fun t ht hW => ⟨by rw [hq7]; rfl, ht⟩) (fun q h => by cases h) dX_has_14
  · have hq7 : a.testBit k = true := by cases hq8 : a.testBit k with | true => rfl | false => exact absurd ((nb_bit a k).mpr hq8) hc6
    refine lv_iconst (v := nI 1) hx hb dX_has_9 (by decide) ?_
    refine lv_goto (tgt := 14) hx hb dX_has_10 rfl ?_
    exact W.zret (v := (nI 1)) hx hb hr rfl (fun t ht hW => ⟨by rw [hq7]; rfl, ht⟩) (fun q h => by cases h) dX_has_14

set_option maxHeartbeats 4000000 in
set_option maxRecDepth 100000 in
theorem cX_vertices_c (l : Launch) (D : va_G) (A : Nat → Prop) (h a1 a2 a3 a4 : Nat) (cA : ClassId) (n us : Nat) (nb lo hi ho : Nat → Nat)   : Rd l yX_vertices (Cond.code yX_vertices cX_vertices 1 (some FieldType.int) :: bw) (rmL 1) [.ref h] (gB D vwCl [(h, .inr (0, [.ref a1, .int (nI n), .ref a2, .ref a3, .ref a4, .int (nI us)])), (a1, .inl (cA, 8, .inl (fun j => nI (nb j)))), (a2, .inl (cA, 8, .inl (fun j => nI (lo j)))), (a3, .inl (cA, 8, .inl (fun j => nI (hi j)))), (a4, .inl (cA, 16, .inl (fun j => nI (ho j))))] [(cA, .int)]) ((nI n)) := by
  refine Met.ofW (cc := cX_vertices) (maxL := 1) (ret := (some FieldType.int)) (by decide) rfl ?_
  intro p e s m args below meth c s₁ B9 hml hv
  obtain ⟨rfl, hP, hK⟩ := hv
  have hx := B9.exec
  have hb := B9.bytes
  have hr := B9.returns
  have hts := atoms_spec (ws := (Cond.code yX_vertices cX_vertices 1 (some FieldType.int) :: bw)) B9.pre
  have hw : ∀ w ∈ bw, w.before _ s = true := fun w h => hts w (List.mem_cons_of_mem _ h)
  have hown : s.vm.findClass RX = some m.cls := findClass_of_methodNamed B9.named
  have hlocks := B9.notSynchronized
  have hl := lv_entry ([.ref h]) (n := 1) (Nat.le_of_ble_eq_true rfl)
  rw [lg_entry_eq]
  generalize (lg_sl ([.ref h]) ++ List.replicate (1 - (lg_sl ([.ref h])).length) Slot.unset).toArray = ls at hl ⊢
  have hl : lv_has ls 1 [(0, .ref h)] := hl
  refine lv_aload_n hx hb dX_vertices_0 rfl (lv_at hl 0 rfl) ?_
  refine va_get (D := D) (ci := 0) (v := .int (nI n)) (C := RX) (T := TX) (N := 6) hx hb hw uX hown hK hP 0 rfl rfl 1 (by decide) (hw _ w1_20) (fun _ h9 => h9) rfl dX_vertices_1 ?_
  exact W.iret (v := (nI n)) hx hb hr (fun t ht hW => ⟨rfl, ht⟩) (fun q h => by cases h) dX_vertices_4

set_option maxHeartbeats 4000000 in
set_option maxRecDepth 100000 in
theorem cX_all_c (l : Launch) (D : va_G) (A : Nat → Prop) (h a1 a2 a3 a4 : Nat) (cA : ClassId) (n us : Nat) (nb lo hi ho : Nat → Nat)  (hn : n ≤ 8) : Rd l yX_all (Cond.code yX_all cX_all 1 (some FieldType.int) :: bw) (rmL 2) [.ref h] (gB D vwCl [(h, .inr (0, [.ref a1, .int (nI n), .ref a2, .ref a3, .ref a4, .int (nI us)])), (a1, .inl (cA, 8, .inl (fun j => nI (nb j)))), (a2, .inl (cA, 8, .inl (fun j => nI (lo j)))), (a3, .inl (cA, 8, .inl (fun j => nI (hi j)))), (a4, .inl (cA, 16, .inl (fun j => nI (ho j))))] [(cA, .int)]) ((nI (2 ^ n - 1))) := by
  refine Met.ofW (cc := cX_all) (maxL := 1) (ret := (some FieldType.int)) (by decide) rfl ?_
  intro p e s m args below meth c s₁ B9 hml hv
  obtain ⟨rfl, hP, hK⟩ := hv
  have hx := B9.exec
  have hb := B9.bytes
  have hr := B9.returns
  have hts := atoms_spec (ws := (Cond.code yX_all cX_all 1 (some FieldType.int) :: bw)) B9.pre
  have hw : ∀ w ∈ bw, w.before _ s = true := fun w h => hts w (List.mem_cons_of_mem _ h)
  have hown : s.vm.findClass RX = some m.cls := findClass_of_methodNamed B9.named
  have hlocks := B9.notSynchronized
  have hl := lv_entry ([.ref h]) (n := 1) (Nat.le_of_ble_eq_true rfl)
  rw [lg_entry_eq]
  generalize (lg_sl ([.ref h]) ++ List.replicate (1 - (lg_sl ([.ref h])).length) Slot.unset).toArray = ls at hl ⊢
  have hl : lv_has ls 1 [(0, .ref h)] := hl
  refine lv_aload_n hx hb dX_all_0 rfl (lv_at hl 0 rfl) ?_
  refine va_get (D := D) (ci := 0) (v := .int (nI n)) (C := RX) (T := TX) (N := 6) hx hb hw uX hown hK hP 0 rfl rfl 1 (by decide) (hw _ w1_20) (fun _ h9 => h9) rfl dX_all_1 ?_
  refine nr_S (As := [.int (nI n)]) (rest := []) ⟨hx, hb, hml, hown, hw⟩ (cX_only_c l n (by omega)) (va_cwS 1 hw (gS2 w1_61 w1_62 w1_1 w1_63) rfl rfl rfl ⟨by decide, by decide, by decide +kernel⟩ ⟨Nat.le_of_ble_eq_true rfl, Nat.le_of_ble_eq_true rfl⟩) gT_blind (gT_at _) rfl hl.1 rfl (Nat.le_of_ble_eq_true rfl) dX_all_4 ⟨Nat.zero_le _, Nat.zero_le _⟩ ?_
  refine lv_iconst (v := nI 1) hx hb dX_all_7 (by decide) ?_
  have hq8 := Nat.two_pow_pos n
  refine nv_isub (x := 2 ^ n) (y := 1) hx hb dX_all_8 (by omega) ?_
  exact W.iret (v := (nI ((2 ^ n) - 1))) hx hb hr (fun t ht hW => ⟨rfl, ht⟩) (fun q h => by cases h) dX_all_9
