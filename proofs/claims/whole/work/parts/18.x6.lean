set_option maxHeartbeats 4000000 in
set_option maxRecDepth 100000 in
theorem cX_checkVertex_y (l : Launch) (D : va_G) (A : Nat → Prop) (h a1 a2 a3 a4 : Nat) (cA : ClassId) (n us : Nat) (nb lo hi ho : Nat → Nat) (v : Nat) (hn : n ≤ 8) (hv : v < n) : RdV l yX_checkVertex (Cond.code yX_checkVertex cX_checkVertex 2 none :: bw) (rmL 1) [.ref h, .int (nI v)] (gB D vwCl [(h, .inr (0, [.ref a1, .int (nI n), .ref a2, .ref a3, .ref a4, .int (nI us)])), (a1, .inl (cA, 8, .inl (fun j => nI (nb j)))), (a2, .inl (cA, 8, .inl (fun j => nI (lo j)))), (a3, .inl (cA, 8, .inl (fun j => nI (hi j)))), (a4, .inl (cA, 16, .inl (fun j => nI (ho j))))] [(cA, .int)]) := by
  refine Met.ofW (cc := cX_checkVertex) (maxL := 2) (ret := none) (by decide) rfl ?_
  intro p e s m args below meth c s₁ B9 hml hv
  obtain ⟨rfl, hP, hK⟩ := hv
  have hx := B9.exec
  have hb := B9.bytes
  have hr := B9.returns
  have hts := atoms_spec (ws := (Cond.code yX_checkVertex cX_checkVertex 2 none :: bw)) B9.pre
  have hw : ∀ w ∈ bw, w.before _ s = true := fun w h => hts w (List.mem_cons_of_mem _ h)
  have hown : s.vm.findClass RX = some m.cls := findClass_of_methodNamed B9.named
  have hlocks := B9.notSynchronized
  have hl := lv_entry ([.ref h, .int (nI v)]) (n := 2) (Nat.le_of_ble_eq_true rfl)
  rw [lg_entry_eq]
  generalize (lg_sl ([.ref h, .int (nI v)]) ++ List.replicate (2 - (lg_sl ([.ref h, .int (nI v)])).length) Slot.unset).toArray = ls at hl ⊢
  have hl : lv_has ls 2 [(0, .ref h), (1, .int (nI v))] := hl
  refine lv_iload_n hx hb dX_checkVertex_0 rfl (lv_at hl 1 rfl) ?_
  refine nv_if_lt (x := v) (tgt := 12) hx hb dX_checkVertex_1 rfl (by omega) ?_
  refine lv_iload_n hx hb dX_checkVertex_4 rfl (lv_at hl 1 rfl) ?_
  refine lv_aload_n hx hb dX_checkVertex_5 rfl (lv_at hl 0 rfl) ?_
  refine va_get (D := D) (ci := 0) (v := .int (nI n)) (C := RX) (T := TX) (N := 6) hx hb hw uX hown hK hP 0 rfl rfl 1 (by decide) (hw _ w1_20) (fun _ h9 => h9) rfl dX_checkVertex_6 ?_
  refine nv_icmp_lt (x := v) (y := n) (tgt := 22) hx hb dX_checkVertex_9 rfl (by omega) (by omega) (fun hc9 => ?_) (fun hc9 => ?_)
  · exact W.vret hx hb hr (fun t ht hW => ⟨rfl, ht⟩) (fun q h => by cases h) dX_checkVertex_22
  · exact absurd hv (by omega)

set_option maxHeartbeats 4000000 in
set_option maxRecDepth 100000 in
theorem cX_checkVertex_n (l : Launch) (D : va_G) (A : Nat → Prop) (h a1 a2 a3 a4 : Nat) (cA : ClassId) (n us : Nat) (nb lo hi ho : Nat → Nat) (z : Int32) (hst : l.stackTraces = false) (hn : n ≤ 8) (hz9 : ∀ k, k < n → z ≠ nI k) : MetT l yX_checkVertex (Cond.code yX_checkVertex cX_checkVertex 2 none :: bw) (rmT 7) (va_Pc [.ref h, .int z] (gE D vwCl A [(h, .inr (0, [.ref a1, .int (nI n), .ref a2, .ref a3, .ref a4, .int (nI us)])), (a1, .inl (cA, 8, .inl (fun j => nI (nb j)))), (a2, .inl (cA, 8, .inl (fun j => nI (lo j)))), (a3, .inl (cA, 8, .inl (fun j => nI (hi j)))), (a4, .inl (cA, 16, .inl (fun j => nI (ho j))))] [(cA, .int)])) cIOB (fun st t => va_F A st t ∧ (gW D vwCl A [(h, .inr (0, [.ref a1, .int (nI n), .ref a2, .ref a3, .ref a4, .int (nI us)])), (a1, .inl (cA, 8, .inl (fun j => nI (nb j)))), (a2, .inl (cA, 8, .inl (fun j => nI (lo j)))), (a3, .inl (cA, 8, .inl (fun j => nI (hi j)))), (a4, .inl (cA, 16, .inl (fun j => nI (ho j))))] [(cA, .int)]) t) 1 6 A := by
  refine tx_ofW (cc := cX_checkVertex) (maxL := 2) (ret := none) (by decide) rfl ?_
  intro p e s m args below meth c s₁ B9 hml hv9
  obtain ⟨rfl, ⟨hP, hK, hD⟩, hE⟩ := hv9
  have hx := B9.exec
  have hb := B9.bytes
  have hr := B9.returns
  have hts := atoms_spec (ws := (Cond.code yX_checkVertex cX_checkVertex 2 none :: bw)) B9.pre
  have hw : ∀ w ∈ bw, w.before _ s = true := fun w h => hts w (List.mem_cons_of_mem _ h)
  have hown : s.vm.findClass RX = some m.cls := findClass_of_methodNamed B9.named
  have hlocks := B9.notSynchronized
  have hl := lv_entry ([.ref h, .int z]) (n := 2) (Nat.le_of_ble_eq_true rfl)
  rw [lg_entry_eq]
  generalize (lg_sl ([.ref h, .int z]) ++ List.replicate (2 - (lg_sl ([.ref h, .int z])).length) Slot.unset).toArray = ls at hl ⊢
  have hl : lv_has ls 2 [(0, .ref h), (1, .int z)] := hl
  have hno := B9.noHandlers (hts _ List.mem_cons_self)
  have hS : va_S A s.heap s.heap [] := va_S.rf
  refine lv_iload_n hx hb dX_checkVertex_0 rfl (lv_at hl 1 rfl) ?_
  refine lv_if_lt (tgt := 12) hx hb dX_checkVertex_1 rfl (fun hc1 => ?_) (fun hc1 => ?_)
  · obtain ⟨sa, hsa⟩ := hE.2.2.2.2.2.2.2.1
    exact tx_throw (own := RX) (cls := cIOB) (text := "no such vertex") (names := nmE) (ik := 95) (is := 97) (ic := 99) hx hb hst hown (by decide) (by decide) (txE.words at_IOB hw hE hS.2.1) (txlk hw w1_214 w1_7) hsa hml hl.1 hno hlocks dX_checkVertex_12 dX_checkVertex_15 dX_checkVertex_16 dX_checkVertex_18 dX_checkVertex_21 (Nat.le_of_ble_eq_true rfl) (Nat.le_of_ble_eq_true rfl) (Nat.le_of_ble_eq_true rfl) (Nat.le_of_ble_eq_true rfl) (fun t hal hz hq => txB hS hP hK hD hal hz hq) hS.2.2
  · refine lv_iload_n hx hb dX_checkVertex_4 rfl (lv_at hl 1 rfl) ?_
    refine lv_aload_n hx hb dX_checkVertex_5 rfl (lv_at hl 0 rfl) ?_
    refine va_get (D := D) (ci := 0) (v := .int (nI n)) (C := RX) (T := TX) (N := 6) hx hb hw uX hown hK hP 0 rfl rfl 1 (by decide) (hw _ w1_20) (fun _ h9 => h9) rfl dX_checkVertex_6 ?_
    refine lv_icmp_lt (tgt := 22) hx hb dX_checkVertex_9 rfl (fun hc9 => ?_) (fun hc9 => ?_)
    · exact absurd (pk_ix z (n := n) (by omega)) (fun h9 => by rcases h9 with h8 | h8 | ⟨j, hj, e8⟩; exact hc1 h8; exact absurd hc9 (Int32.not_lt.mpr h8); exact hz9 j hj e8)
    · obtain ⟨sa, hsa⟩ := hE.2.2.2.2.2.2.2.1
      exact tx_throw (own := RX) (cls := cIOB) (text := "no such vertex") (names := nmE) (ik := 95) (is := 97) (ic := 99) hx hb hst hown (by decide) (by decide) (txE.words at_IOB hw hE hS.2.1) (txlk hw w1_214 w1_7) hsa hml hl.1 hno hlocks dX_checkVertex_12 dX_checkVertex_15 dX_checkVertex_16 dX_checkVertex_18 dX_checkVertex_21 (Nat.le_of_ble_eq_true rfl) (Nat.le_of_ble_eq_true rfl) (Nat.le_of_ble_eq_true rfl) (Nat.le_of_ble_eq_true rfl) (fun t hal hz hq => txB hS hP hK hD hal hz hq) hS.2.2

set_option maxHeartbeats 4000000 in
set_option maxRecDepth 100000 in
theorem cX_checkTwo_y (l : Launch) (D : va_G) (A : Nat → Prop) (h a1 a2 a3 a4 : Nat) (cA : ClassId) (n us : Nat) (nb lo hi ho : Nat → Nat) (u v : Nat) (hn : n ≤ 8) (hu : u < n) (hv : v < n) (huv : u ≠ v) : RdV l yX_checkTwo (Cond.code yX_checkTwo cX_checkTwo 3 none :: bw) (rmL 2) [.ref h, .int (nI u), .int (nI v)] (gB D vwCl [(h, .inr (0, [.ref a1, .int (nI n), .ref a2, .ref a3, .ref a4, .int (nI us)])), (a1, .inl (cA, 8, .inl (fun j => nI (nb j)))), (a2, .inl (cA, 8, .inl (fun j => nI (lo j)))), (a3, .inl (cA, 8, .inl (fun j => nI (hi j)))), (a4, .inl (cA, 16, .inl (fun j => nI (ho j))))] [(cA, .int)]) := by
  refine Met.ofW (cc := cX_checkTwo) (maxL := 3) (ret := none) (by decide) rfl ?_
  intro p e s m args below meth c s₁ B9 hml hv
  obtain ⟨rfl, hP, hK⟩ := hv
  have hx := B9.exec
  have hb := B9.bytes
  have hr := B9.returns
  have hts := atoms_spec (ws := (Cond.code yX_checkTwo cX_checkTwo 3 none :: bw)) B9.pre
  have hw : ∀ w ∈ bw, w.before _ s = true := fun w h => hts w (List.mem_cons_of_mem _ h)
  have hown : s.vm.findClass RX = some m.cls := findClass_of_methodNamed B9.named
  have hlocks := B9.notSynchronized
  have hl := lv_entry ([.ref h, .int (nI u), .int (nI v)]) (n := 3) (Nat.le_of_ble_eq_true rfl)
  rw [lg_entry_eq]
  generalize (lg_sl ([.ref h, .int (nI u), .int (nI v)]) ++ List.replicate (3 - (lg_sl ([.ref h, .int (nI u), .int (nI v)])).length) Slot.unset).toArray = ls at hl ⊢
  have hl : lv_has ls 3 [(0, .ref h), (1, .int (nI u)), (2, .int (nI v))] := hl
  refine lv_aload_n hx hb dX_checkTwo_0 rfl (lv_at hl 0 rfl) ?_
  refine lv_iload_n hx hb dX_checkTwo_1 rfl (lv_at hl 1 rfl) ?_
  refine nr_V0 (b := h) (As := [.int (nI u)]) (C := RX) (rest := []) ⟨hx, hb, hml, hown, hw⟩ (cX_checkVertex_y l D A h a1 a2 a3 a4 cA n us nb lo hi ho u hn (by omega)) (cwV 1 hw (gV w1_210 w1_212 w0_11 w1_1 w1_213) rfl rfl rfl ⟨rfl, by decide, by decide, by decide +kernel⟩ ⟨Nat.le_of_ble_eq_true rfl, Nat.le_of_ble_eq_true rfl⟩) gB_blind (va_recv (q0 := 0) (ci := 0) hK hP rfl rfl) (gB_at hP hK _) rfl hl.1 rfl (Nat.le_of_ble_eq_true rfl) dX_checkTwo_2 ⟨Nat.zero_le _, Nat.zero_le _⟩ ?_
  refine lv_aload_n hx hb dX_checkTwo_5 rfl (lv_at hl 0 rfl) ?_
  refine lv_iload_n hx hb dX_checkTwo_6 rfl (lv_at hl 2 rfl) ?_
  refine nr_V0 (b := h) (As := [.int (nI v)]) (C := RX) (rest := []) ⟨hx, hb, hml, hown, hw⟩ (cX_checkVertex_y l D A h a1 a2 a3 a4 cA n us nb lo hi ho v hn (by omega)) (cwV 1 hw (gV w1_210 w1_212 w0_11 w1_1 w1_213) rfl rfl rfl ⟨rfl, by decide, by decide, by decide +kernel⟩ ⟨Nat.le_of_ble_eq_true rfl, Nat.le_of_ble_eq_true rfl⟩) gB_blind (va_recv (q0 := 0) (ci := 0) hK hP rfl rfl) (gB_at hP hK _) rfl hl.1 rfl (Nat.le_of_ble_eq_true rfl) dX_checkTwo_7 ⟨Nat.zero_le _, Nat.zero_le _⟩ ?_
  refine lv_iload_n hx hb dX_checkTwo_10 rfl (lv_at hl 1 rfl) ?_
  refine lv_iload_n hx hb dX_checkTwo_11 rfl (lv_at hl 2 rfl) ?_
  refine nv_icmp_ne (x := u) (y := v) (tgt := 25) hx hb dX_checkTwo_12 rfl (by omega) (by omega) (fun hc12 => ?_) (fun hc12 => ?_)
  · exact W.vret hx hb hr (fun t ht hW => ⟨rfl, ht⟩) (fun q h => by cases h) dX_checkTwo_25
  · exact absurd hc12 huv

set_option maxHeartbeats 4000000 in
set_option maxRecDepth 100000 in
theorem cX_checkTwo_n1 (l : Launch) (D : va_G) (A : Nat → Prop) (h a1 a2 a3 a4 : Nat) (cA : ClassId) (n us : Nat) (nb lo hi ho : Nat → Nat) (z1 z2 : Int32) (hst : l.stackTraces = false) (hn : n ≤ 8) (hz9 : ∀ k, k < n → z1 ≠ nI k) : MetT l yX_checkTwo (Cond.code yX_checkTwo cX_checkTwo 3 none :: bw) (rmT 8) (va_Pc [.ref h, .int z1, .int z2] (gE D vwCl A [(h, .inr (0, [.ref a1, .int (nI n), .ref a2, .ref a3, .ref a4, .int (nI us)])), (a1, .inl (cA, 8, .inl (fun j => nI (nb j)))), (a2, .inl (cA, 8, .inl (fun j => nI (lo j)))), (a3, .inl (cA, 8, .inl (fun j => nI (hi j)))), (a4, .inl (cA, 16, .inl (fun j => nI (ho j))))] [(cA, .int)])) cIOB (fun st t => va_F A st t ∧ (gW D vwCl A [(h, .inr (0, [.ref a1, .int (nI n), .ref a2, .ref a3, .ref a4, .int (nI us)])), (a1, .inl (cA, 8, .inl (fun j => nI (nb j)))), (a2, .inl (cA, 8, .inl (fun j => nI (lo j)))), (a3, .inl (cA, 8, .inl (fun j => nI (hi j)))), (a4, .inl (cA, 16, .inl (fun j => nI (ho j))))] [(cA, .int)]) t) 1 6 A := by
  refine tx_ofW (cc := cX_checkTwo) (maxL := 3) (ret := none) (by decide) rfl ?_
  intro p e s m args below meth c s₁ B9 hml hv9
  obtain ⟨rfl, ⟨hP, hK, hD⟩, hE⟩ := hv9
  have hx := B9.exec
  have hb := B9.bytes
  have hr := B9.returns
  have hts := atoms_spec (ws := (Cond.code yX_checkTwo cX_checkTwo 3 none :: bw)) B9.pre
  have hw : ∀ w ∈ bw, w.before _ s = true := fun w h => hts w (List.mem_cons_of_mem _ h)
  have hown : s.vm.findClass RX = some m.cls := findClass_of_methodNamed B9.named
  have hlocks := B9.notSynchronized
  have hl := lv_entry ([.ref h, .int z1, .int z2]) (n := 3) (Nat.le_of_ble_eq_true rfl)
  rw [lg_entry_eq]
  generalize (lg_sl ([.ref h, .int z1, .int z2]) ++ List.replicate (3 - (lg_sl ([.ref h, .int z1, .int z2])).length) Slot.unset).toArray = ls at hl ⊢
  have hl : lv_has ls 3 [(0, .ref h), (1, .int z1), (2, .int z2)] := hl
  have hno := B9.noHandlers (hts _ List.mem_cons_self)
  have hS : va_S A s.heap s.heap [] := va_S.rf
  refine lv_aload_n hx hb dX_checkTwo_0 rfl (lv_at hl 0 rfl) ?_
  refine lv_iload_n hx hb dX_checkTwo_1 rfl (lv_at hl 1 rfl) ?_
  exact tx_pass (C := RX) (As := [.int z1]) (rest := []) ⟨hx, hb, hml, hown, hw⟩ (cX_checkVertex_n l D A h a1 a2 a3 a4 cA n us nb lo hi ho z1 hst hn hz9) (cwV 1 hw (gV w1_210 w1_212 w0_11 w1_1 w1_213) rfl rfl rfl ⟨rfl, by decide, by decide, by decide +kernel⟩ ⟨Nat.le_of_ble_eq_true rfl, Nat.le_of_ble_eq_true rfl⟩) ⟨gE_blind, va_recv (q0 := 0) (ci := 0) hK hP rfl rfl, gE_at hP hK hD hE _⟩ rfl hl.1 rfl (Nat.le_of_ble_eq_true rfl) dX_checkTwo_2 ⟨Nat.le_refl _, Nat.le_refl _⟩ hno hlocks (fun st t t' h1 h2 h3 h4 h5 => ⟨txF hS h1 h2 h5.1, gW_mv h2 h4 h5.2⟩) (fun q h => h) hS.2.2

set_option maxHeartbeats 4000000 in
set_option maxRecDepth 100000 in
theorem cX_checkTwo_n2 (l : Launch) (D : va_G) (A : Nat → Prop) (h a1 a2 a3 a4 : Nat) (cA : ClassId) (n us : Nat) (nb lo hi ho : Nat → Nat) (u : Nat) (z2 : Int32) (hst : l.stackTraces = false) (hn : n ≤ 8) (hu : u < n) (hz9 : ∀ k, k < n → z2 ≠ nI k) : MetT l yX_checkTwo (Cond.code yX_checkTwo cX_checkTwo 3 none :: bw) (rmT 8) (va_Pc [.ref h, .int (nI u), .int z2] (gE D vwCl A [(h, .inr (0, [.ref a1, .int (nI n), .ref a2, .ref a3, .ref a4, .int (nI us)])), (a1, .inl (cA, 8, .inl (fun j => nI (nb j)))), (a2, .inl (cA, 8, .inl (fun j => nI (lo j)))), (a3, .inl (cA, 8, .inl (fun j => nI (hi j)))), (a4, .inl (cA, 16, .inl (fun j => nI (ho j))))] [(cA, .int)])) cIOB (fun st t => va_F A st t ∧ (gW D vwCl A [(h, .inr (0, [.ref a1, .int (nI n), .ref a2, .ref a3, .ref a4, .int (nI us)])), (a1, .inl (cA, 8, .inl (fun j => nI (nb j)))), (a2, .inl (cA, 8, .inl (fun j => nI (lo j)))), (a3, .inl (cA, 8, .inl (fun j => nI (hi j)))), (a4, .inl (cA, 16, .inl (fun j => nI (ho j))))] [(cA, .int)]) t) 1 6 A := by
  refine tx_ofW (cc := cX_checkTwo) (maxL := 3) (ret := none) (by decide) rfl ?_
  intro p e s m args below meth c s₁ B9 hml hv9
  obtain ⟨rfl, ⟨hP, hK, hD⟩, hE⟩ := hv9
  have hx := B9.exec
  have hb := B9.bytes
  have hr := B9.returns
  have hts := atoms_spec (ws := (Cond.code yX_checkTwo cX_checkTwo 3 none :: bw)) B9.pre
  have hw : ∀ w ∈ bw, w.before _ s = true := fun w h => hts w (List.mem_cons_of_mem _ h)
  have hown : s.vm.findClass RX = some m.cls := findClass_of_methodNamed B9.named
  have hlocks := B9.notSynchronized
  have hl := lv_entry ([.ref h, .int (nI u), .int z2]) (n := 3) (Nat.le_of_ble_eq_true rfl)
  rw [lg_entry_eq]
  generalize (lg_sl ([.ref h, .int (nI u), .int z2]) ++ List.replicate (3 - (lg_sl ([.ref h, .int (nI u), .int z2])).length) Slot.unset).toArray = ls at hl ⊢
  have hl : lv_has ls 3 [(0, .ref h), (1, .int (nI u)), (2, .int z2)] := hl
  have hno := B9.noHandlers (hts _ List.mem_cons_self)
  have hS : va_S A s.heap s.heap [] := va_S.rf
  refine lv_aload_n hx hb dX_checkTwo_0 rfl (lv_at hl 0 rfl) ?_
  refine lv_iload_n hx hb dX_checkTwo_1 rfl (lv_at hl 1 rfl) ?_
  refine nr_V0 (b := h) (As := [.int (nI u)]) (C := RX) (rest := []) ⟨hx, hb, hml, hown, hw⟩ (cX_checkVertex_y l D A h a1 a2 a3 a4 cA n us nb lo hi ho u hn (by omega)) (cwV 1 hw (gV w1_210 w1_212 w0_11 w1_1 w1_213) rfl rfl rfl ⟨rfl, by decide, by decide, by decide +kernel⟩ ⟨Nat.le_of_ble_eq_true rfl, Nat.le_of_ble_eq_true rfl⟩) gB_blind (va_recv (q0 := 0) (ci := 0) hK hP rfl rfl) (gB_at hP hK _) rfl hl.1 rfl (Nat.le_of_ble_eq_true rfl) dX_checkTwo_2 ⟨Nat.zero_le _, Nat.zero_le _⟩ ?_
  refine lv_aload_n hx hb dX_checkTwo_5 rfl (lv_at hl 0 rfl) ?_
  refine lv_iload_n hx hb dX_checkTwo_6 rfl (lv_at hl 2 rfl) ?_
  exact tx_pass (C := RX) (As := [.int z2]) (rest := []) ⟨hx, hb, hml, hown, hw⟩ (cX_checkVertex_n l D A h a1 a2 a3 a4 cA n us nb lo hi ho z2 hst hn hz9) (cwV 1 hw (gV w1_210 w1_212 w0_11 w1_1 w1_213) rfl rfl rfl ⟨rfl, by decide, by decide, by decide +kernel⟩ ⟨Nat.le_of_ble_eq_true rfl, Nat.le_of_ble_eq_true rfl⟩) ⟨gE_blind, va_recv (q0 := 0) (ci := 0) hK hP rfl rfl, gE_at hP hK hD hE _⟩ rfl hl.1 rfl (Nat.le_of_ble_eq_true rfl) dX_checkTwo_7 ⟨Nat.le_refl _, Nat.le_refl _⟩ hno hlocks (fun st t t' h1 h2 h3 h4 h5 => ⟨txF hS h1 h2 h5.1, gW_mv h2 h4 h5.2⟩) (fun q h => h) hS.2.2

set_option maxHeartbeats 4000000 in
set_option maxRecDepth 100000 in
theorem cX_checkTwo_n3 (l : Launch) (D : va_G) (A : Nat → Prop) (h a1 a2 a3 a4 : Nat) (cA : ClassId) (n us : Nat) (nb lo hi ho : Nat → Nat) (u : Nat) (hst : l.stackTraces = false) (hn : n ≤ 8) (hu : u < n) : MetT l yX_checkTwo (Cond.code yX_checkTwo cX_checkTwo 3 none :: bw) (rmT 8) (va_Pc [.ref h, .int (nI u), .int (nI u)] (gE D vwCl A [(h, .inr (0, [.ref a1, .int (nI n), .ref a2, .ref a3, .ref a4, .int (nI us)])), (a1, .inl (cA, 8, .inl (fun j => nI (nb j)))), (a2, .inl (cA, 8, .inl (fun j => nI (lo j)))), (a3, .inl (cA, 8, .inl (fun j => nI (hi j)))), (a4, .inl (cA, 16, .inl (fun j => nI (ho j))))] [(cA, .int)])) cIAE (fun st t => va_F A st t ∧ (gW D vwCl A [(h, .inr (0, [.ref a1, .int (nI n), .ref a2, .ref a3, .ref a4, .int (nI us)])), (a1, .inl (cA, 8, .inl (fun j => nI (nb j)))), (a2, .inl (cA, 8, .inl (fun j => nI (lo j)))), (a3, .inl (cA, 8, .inl (fun j => nI (hi j)))), (a4, .inl (cA, 16, .inl (fun j => nI (ho j))))] [(cA, .int)]) t) 1 6 A := by
  refine tx_ofW (cc := cX_checkTwo) (maxL := 3) (ret := none) (by decide) rfl ?_
  intro p e s m args below meth c s₁ B9 hml hv9
  obtain ⟨rfl, ⟨hP, hK, hD⟩, hE⟩ := hv9
  have hx := B9.exec
  have hb := B9.bytes
  have hr := B9.returns
  have hts := atoms_spec (ws := (Cond.code yX_checkTwo cX_checkTwo 3 none :: bw)) B9.pre
  have hw : ∀ w ∈ bw, w.before _ s = true := fun w h => hts w (List.mem_cons_of_mem _ h)
  have hown : s.vm.findClass RX = some m.cls := findClass_of_methodNamed B9.named
  have hlocks := B9.notSynchronized
  have hl := lv_entry ([.ref h, .int (nI u), .int (nI u)]) (n := 3) (Nat.le_of_ble_eq_true rfl)
  rw [lg_entry_eq]
  generalize (lg_sl ([.ref h, .int (nI u), .int (nI u)]) ++ List.replicate (3 - (lg_sl ([.ref h, .int (nI u), .int (nI u)])).length) Slot.unset).toArray = ls at hl ⊢
  have hl : lv_has ls 3 [(0, .ref h), (1, .int (nI u)), (2, .int (nI u))] := hl
  have hno := B9.noHandlers (hts _ List.mem_cons_self)
  have hS : va_S A s.heap s.heap [] := va_S.rf
  refine lv_aload_n hx hb dX_checkTwo_0 rfl (lv_at hl 0 rfl) ?_
  refine lv_iload_n hx hb dX_checkTwo_1 rfl (lv_at hl 1 rfl) ?_
  refine nr_V0 (b := h) (As := [.int (nI u)]) (C := RX) (rest := []) ⟨hx, hb, hml, hown, hw⟩ (cX_checkVertex_y l D A h a1 a2 a3 a4 cA n us nb lo hi ho u hn (by omega)) (cwV 1 hw (gV w1_210 w1_212 w0_11 w1_1 w1_213) rfl rfl rfl ⟨rfl, by decide, by decide, by decide +kernel⟩ ⟨Nat.le_of_ble_eq_true rfl, Nat.le_of_ble_eq_true rfl⟩) gB_blind (va_recv (q0 := 0) (ci := 0) hK hP rfl rfl) (gB_at hP hK _) rfl hl.1 rfl (Nat.le_of_ble_eq_true rfl) dX_checkTwo_2 ⟨Nat.zero_le _, Nat.zero_le _⟩ ?_
  refine lv_aload_n hx hb dX_checkTwo_5 rfl (lv_at hl 0 rfl) ?_
  refine lv_iload_n hx hb dX_checkTwo_6 rfl (lv_at hl 2 rfl) ?_
  refine nr_V0 (b := h) (As := [.int (nI u)]) (C := RX) (rest := []) ⟨hx, hb, hml, hown, hw⟩ (cX_checkVertex_y l D A h a1 a2 a3 a4 cA n us nb lo hi ho u hn (by omega)) (cwV 1 hw (gV w1_210 w1_212 w0_11 w1_1 w1_213) rfl rfl rfl ⟨rfl, by decide, by decide, by decide +kernel⟩ ⟨Nat.le_of_ble_eq_true rfl, Nat.le_of_ble_eq_true rfl⟩) gB_blind (va_recv (q0 := 0) (ci := 0) hK hP rfl rfl) (gB_at hP hK _) rfl hl.1 rfl (Nat.le_of_ble_eq_true rfl) dX_checkTwo_7 ⟨Nat.zero_le _, Nat.zero_le _⟩ ?_
  refine lv_iload_n hx hb dX_checkTwo_10 rfl (lv_at hl 1 rfl) ?_
  refine lv_iload_n hx hb dX_checkTwo_11 rfl (lv_at hl 2 rfl) ?_
  refine nv_icmp_ne (x := u) (y := u) (tgt := 25) hx hb dX_checkTwo_12 rfl (by omega) (by omega) (fun hc12 => ?_) (fun hc12 => ?_)
  · exact absurd rfl hc12
  · obtain ⟨sa, hsa⟩ := hE.2.2.2.2.2.2.1
    exact tx_throw (own := RX) (cls := cIAE) (text := "two different vertices are needed") (names := nmE) (ik := 90) (is := 92) (ic := 94) hx hb hst hown (by decide) (by decide) (txE.words at_IAE hw hE hS.2.1) (txlk hw w1_230 w1_8) hsa hml hl.1 hno hlocks dX_checkTwo_15 dX_checkTwo_18 dX_checkTwo_19 dX_checkTwo_21 dX_checkTwo_24 (Nat.le_of_ble_eq_true rfl) (Nat.le_of_ble_eq_true rfl) (Nat.le_of_ble_eq_true rfl) (Nat.le_of_ble_eq_true rfl) (fun t hal hz hq => txB hS hP hK hD hal hz hq) hS.2.2

set_option maxHeartbeats 4000000 in
set_option maxRecDepth 100000 in
theorem cX_grow_c (l : Launch) (D : va_G) (A : Nat → Prop) (h a1 a2 a3 a4 : Nat) (cA : ClassId) (n us : Nat) (nb lo hi ho : Nat → Nat)  (hn : n < 8) : Met l yX_grow (Cond.code yX_grow cX_grow 1 (some FieldType.int) :: bw) (rmL 1) (va_Pc [.ref h] (gW D vwCl A [(h, .inr (0, [.ref a1, .int (nI n), .ref a2, .ref a3, .ref a4, .int (nI us)])), (a1, .inl (cA, 8, .inl (fun j => nI (nb j)))), (a2, .inl (cA, 8, .inl (fun j => nI (lo j)))), (a3, .inl (cA, 8, .inl (fun j => nI (hi j)))), (a4, .inl (cA, 16, .inl (fun j => nI (ho j))))] [(cA, .int)])) (va_Qi (fun (r9 : Int32) (_ : Unit) => r9 = (nI n)) (fun _ => gW D vwCl A [(h, .inr (0, [.ref a1, .int (nI (n + 1)), .ref a2, .ref a3, .ref a4, .int (nI us)])), (a1, .inl (cA, 8, .inl (fun j => nI ((upN nb n 0) j)))), (a2, .inl (cA, 8, .inl (fun j => nI (lo j)))), (a3, .inl (cA, 8, .inl (fun j => nI (hi j)))), (a4, .inl (cA, 16, .inl (fun j => nI (ho j))))] [(cA, .int)]) A) 0 0 A := by
  refine Met.ofW (cc := cX_grow) (maxL := 1) (ret := (some FieldType.int)) (by decide) rfl ?_
  intro p e s m args below meth c s₁ B9 hml hv
  obtain ⟨rfl, hP, hK, hD⟩ := hv
  have hx := B9.exec
  have hb := B9.bytes
  have hr := B9.returns
  have hts := atoms_spec (ws := (Cond.code yX_grow cX_grow 1 (some FieldType.int) :: bw)) B9.pre
  have hw : ∀ w ∈ bw, w.before _ s = true := fun w h => hts w (List.mem_cons_of_mem _ h)
  have hown : s.vm.findClass RX = some m.cls := findClass_of_methodNamed B9.named
  have hlocks := B9.notSynchronized
  have hl := lv_entry ([.ref h]) (n := 1) (Nat.le_of_ble_eq_true rfl)
  rw [lg_entry_eq]
  generalize (lg_sl ([.ref h]) ++ List.replicate (1 - (lg_sl ([.ref h])).length) Slot.unset).toArray = ls at hl ⊢
  have hl : lv_has ls 1 [(0, .ref h)] := hl
  have hS : va_S A s.heap s.heap [] := va_S.rf
  refine lv_aload_n hx hb dX_grow_0 rfl (lv_at hl 0 rfl) ?_
  refine va_get (D := D) (ci := 0) (v := .int (nI n)) (C := RX) (T := TX) (N := 6) hx hb hw uX hown hK hP 0 rfl rfl 1 (by decide) (hw _ w1_20) (fun _ h9 => h9) rfl dX_grow_1 ?_
  refine lv_bipush (v := nI 8) hx hb dX_grow_4 (by decide) ?_
  refine nv_icmp_lt (x := n) (y := 8) (tgt := 19) hx hb dX_grow_6 rfl (by omega) (by omega) (fun hc6 => ?_) (fun hc6 => ?_)
  · refine lv_aload_n hx hb dX_grow_19 rfl (lv_at hl 0 rfl) ?_
    refine va_get (D := D) (ci := 0) (v := .ref a1) (C := RX) (T := TX) (N := 6) hx hb hw uX hown hK hP 0 rfl rfl 0 (by decide) (hw _ w1_19) (fun _ h9 => h9) rfl dX_grow_20 ?_
    refine lv_aload_n hx hb dX_grow_23 rfl (lv_at hl 0 rfl) ?_
    refine va_get (D := D) (ci := 0) (v := .int (nI n)) (C := RX) (T := TX) (N := 6) hx hb hw uX hown hK hP 0 rfl rfl 1 (by decide) (hw _ w1_20) (fun _ h9 => h9) rfl dX_grow_24 ?_
    refine lv_iconst (v := nI 0) hx hb dX_grow_27 (by decide) ?_
    refine nv_iast (i := n) (x := 0) (f := nb) hx hb hK hP hD hS 1 0 rfl rfl (by omega) (by omega) dX_grow_28 (fun H locs hP hD hS => ?_)
    have hP : va_P D vwCl [(h, .inr (0, [.ref a1, .int (nI n), .ref a2, .ref a3, .ref a4, .int (nI us)])), (a1, .inl (cA, 8, .inl (fun j => nI ((upN nb n 0) j)))), (a2, .inl (cA, 8, .inl (fun j => nI (lo j)))), (a3, .inl (cA, 8, .inl (fun j => nI (hi j)))), (a4, .inl (cA, 16, .inl (fun j => nI (ho j))))] H := hP
    have hD : va_D A [(h, .inr (0, [.ref a1, .int (nI n), .ref a2, .ref a3, .ref a4, .int (nI us)])), (a1, .inl (cA, 8, .inl (fun j => nI ((upN nb n 0) j)))), (a2, .inl (cA, 8, .inl (fun j => nI (lo j)))), (a3, .inl (cA, 8, .inl (fun j => nI (hi j)))), (a4, .inl (cA, 16, .inl (fun j => nI (ho j))))] := hD
    refine lv_aload_n hx hb dX_grow_29 rfl (lv_at hl 0 rfl) ?_
    refine lv_dup hx hb dX_grow_30 rfl ?_
    refine va_get (D := D) (ci := 0) (v := .int (nI n)) (C := RX) (T := TX) (N := 6) hx hb hw uX hown hK hP 0 rfl rfl 1 (by decide) (hw _ w1_20) (fun _ h9 => h9) rfl dX_grow_31 ?_
    refine lv_iconst (v := nI 1) hx hb dX_grow_34 (by decide) ?_
    refine nv_iadd (x := n) (y := 1) hx hb dX_grow_35 ?_
    refine va_put (D := D) (ci := 0) (v := .int (nI (n + 1))) (ty := .int) (C := RX) (T := TX) (N := 6) hx hb hw uX tyX tyX_ok nmX hown hK hP hD hS 0 rfl rfl 1 (by decide) (hw _ w1_20) (fun _ h9 => h9) rfl (by decide +kernel) rfl rfl (Nat.le_of_ble_eq_true rfl) dX_grow_36 (fun H locs hP hD hS => ?_)
    have hP : va_P D vwCl [(h, .inr (0, [.ref a1, .int (nI (n + 1)), .ref a2, .ref a3, .ref a4, .int (nI us)])), (a1, .inl (cA, 8, .inl (fun j => nI ((upN nb n 0) j)))), (a2, .inl (cA, 8, .inl (fun j => nI (lo j)))), (a3, .inl (cA, 8, .inl (fun j => nI (hi j)))), (a4, .inl (cA, 16, .inl (fun j => nI (ho j))))] H := hP
    have hD : va_D A [(h, .inr (0, [.ref a1, .int (nI (n + 1)), .ref a2, .ref a3, .ref a4, .int (nI us)])), (a1, .inl (cA, 8, .inl (fun j => nI ((upN nb n 0) j)))), (a2, .inl (cA, 8, .inl (fun j => nI (lo j)))), (a3, .inl (cA, 8, .inl (fun j => nI (hi j)))), (a4, .inl (cA, 16, .inl (fun j => nI (ho j))))] := hD
    refine lv_aload_n hx hb dX_grow_39 rfl (lv_at hl 0 rfl) ?_
    refine va_get (D := D) (ci := 0) (v := .int (nI (n + 1))) (C := RX) (T := TX) (N := 6) hx hb hw uX hown hK hP 0 rfl rfl 1 (by decide) (hw _ w1_20) (fun _ h9 => h9) rfl dX_grow_40 ?_
    refine lv_iconst (v := nI 1) hx hb dX_grow_43 (by decide) ?_
    refine nv_isub (x := n + 1) (y := 1) hx hb dX_grow_44 (by omega) ?_
    exact W.iret (v := (nI ((n + 1) - 1))) hx hb hr (fun t ht hW => ⟨⟨_, (), rfl, rfl, by rw [ht]; exact hP, va_K.moved hW.alike hK, hD⟩, hS.F ht⟩) hS.2.2 dX_grow_45
  · exact absurd hn (by omega)

set_option maxHeartbeats 4000000 in
set_option maxRecDepth 100000 in
theorem cX_grow_n (l : Launch) (D : va_G) (A : Nat → Prop) (h a1 a2 a3 a4 : Nat) (cA : ClassId) (n us : Nat) (nb lo hi ho : Nat → Nat)  (hst : l.stackTraces = false) (hn : n = 8) : MetT l yX_grow (Cond.code yX_grow cX_grow 1 (some FieldType.int) :: bw) (rmT 7) (va_Pc [.ref h] (gE D vwCl A [(h, .inr (0, [.ref a1, .int (nI n), .ref a2, .ref a3, .ref a4, .int (nI us)])), (a1, .inl (cA, 8, .inl (fun j => nI (nb j)))), (a2, .inl (cA, 8, .inl (fun j => nI (lo j)))), (a3, .inl (cA, 8, .inl (fun j => nI (hi j)))), (a4, .inl (cA, 16, .inl (fun j => nI (ho j))))] [(cA, .int)])) cISE (fun st t => va_F A st t ∧ (gW D vwCl A [(h, .inr (0, [.ref a1, .int (nI n), .ref a2, .ref a3, .ref a4, .int (nI us)])), (a1, .inl (cA, 8, .inl (fun j => nI (nb j)))), (a2, .inl (cA, 8, .inl (fun j => nI (lo j)))), (a3, .inl (cA, 8, .inl (fun j => nI (hi j)))), (a4, .inl (cA, 16, .inl (fun j => nI (ho j))))] [(cA, .int)]) t) 1 6 A := by
  refine tx_ofW (cc := cX_grow) (maxL := 1) (ret := (some FieldType.int)) (by decide) rfl ?_
  intro p e s m args below meth c s₁ B9 hml hv9
  obtain ⟨rfl, ⟨hP, hK, hD⟩, hE⟩ := hv9
  have hx := B9.exec
  have hb := B9.bytes
  have hr := B9.returns
  have hts := atoms_spec (ws := (Cond.code yX_grow cX_grow 1 (some FieldType.int) :: bw)) B9.pre
  have hw : ∀ w ∈ bw, w.before _ s = true := fun w h => hts w (List.mem_cons_of_mem _ h)
  have hown : s.vm.findClass RX = some m.cls := findClass_of_methodNamed B9.named
  have hlocks := B9.notSynchronized
  have hl := lv_entry ([.ref h]) (n := 1) (Nat.le_of_ble_eq_true rfl)
  rw [lg_entry_eq]
  generalize (lg_sl ([.ref h]) ++ List.replicate (1 - (lg_sl ([.ref h])).length) Slot.unset).toArray = ls at hl ⊢
  have hl : lv_has ls 1 [(0, .ref h)] := hl
  have hno := B9.noHandlers (hts _ List.mem_cons_self)
  have hS : va_S A s.heap s.heap [] := va_S.rf
  refine lv_aload_n hx hb dX_grow_0 rfl (lv_at hl 0 rfl) ?_
  refine va_get (D := D) (ci := 0) (v := .int (nI n)) (C := RX) (T := TX) (N := 6) hx hb hw uX hown hK hP 0 rfl rfl 1 (by decide) (hw _ w1_20) (fun _ h9 => h9) rfl dX_grow_1 ?_
  refine lv_bipush (v := nI 8) hx hb dX_grow_4 (by decide) ?_
  refine nv_icmp_lt (x := n) (y := 8) (tgt := 19) hx hb dX_grow_6 rfl (by omega) (by omega) (fun hc6 => ?_) (fun hc6 => ?_)
  · exact absurd hc6 (by omega)
  · obtain ⟨sa, hsa⟩ := hE.2.2.2.2.1
    exact tx_throw (own := RX) (cls := cISE) (text := "no room for one more vertex") (names := nmE) (ik := 29) (is := 31) (ic := 33) hx hb hst hown (by decide) (by decide) (txE.words at_ISE hw hE hS.2.1) (txlk hw w1_121 w1_6) hsa hml hl.1 hno hlocks dX_grow_9 dX_grow_12 dX_grow_13 dX_grow_15 dX_grow_18 (Nat.le_of_ble_eq_true rfl) (Nat.le_of_ble_eq_true rfl) (Nat.le_of_ble_eq_true rfl) (Nat.le_of_ble_eq_true rfl) (fun t hal hz hq => txB hS hP hK hD hal hz hq) hS.2.2

set_option maxHeartbeats 4000000 in
set_option maxRecDepth 100000 in
theorem cX_shrink_c (l : Launch) (D : va_G) (A : Nat → Prop) (h a1 a2 a3 a4 : Nat) (cA : ClassId) (n us : Nat) (nb lo hi ho : Nat → Nat)  (hn : n < 8) : Met l yX_shrink (Cond.code yX_shrink cX_shrink 2 none :: bw) (rmL 2) (va_Pc [.ref h] (gW D vwCl A [(h, .inr (0, [.ref a1, .int (nI (n + 1)), .ref a2, .ref a3, .ref a4, .int (nI us)])), (a1, .inl (cA, 8, .inl (fun j => nI (nb j)))), (a2, .inl (cA, 8, .inl (fun j => nI (lo j)))), (a3, .inl (cA, 8, .inl (fun j => nI (hi j)))), (a4, .inl (cA, 16, .inl (fun j => nI (ho j))))] [(cA, .int)])) (va_Qv (fun _ : Unit => True) (fun _ => gW D vwCl A [(h, .inr (0, [.ref a1, .int (nI n), .ref a2, .ref a3, .ref a4, .int (nI us)])), (a1, .inl (cA, 8, .inl (fun j => nI ((jSh nb n n) j)))), (a2, .inl (cA, 8, .inl (fun j => nI (lo j)))), (a3, .inl (cA, 8, .inl (fun j => nI (hi j)))), (a4, .inl (cA, 16, .inl (fun j => nI (ho j))))] [(cA, .int)]) A) 0 0 A := by
  refine Met.ofW (cc := cX_shrink) (maxL := 2) (ret := none) (by decide) rfl ?_
  intro p e s m args below meth c s₁ B9 hml hv
  obtain ⟨rfl, hP, hK, hD⟩ := hv
  have hx := B9.exec
  have hb := B9.bytes
  have hr := B9.returns
  have hts := atoms_spec (ws := (Cond.code yX_shrink cX_shrink 2 none :: bw)) B9.pre
  have hw : ∀ w ∈ bw, w.before _ s = true := fun w h => hts w (List.mem_cons_of_mem _ h)
  have hown : s.vm.findClass RX = some m.cls := findClass_of_methodNamed B9.named
  have hlocks := B9.notSynchronized
  have hl := lv_entry ([.ref h]) (n := 2) (Nat.le_of_ble_eq_true rfl)
  rw [lg_entry_eq]
  generalize (lg_sl ([.ref h]) ++ List.replicate (2 - (lg_sl ([.ref h])).length) Slot.unset).toArray = ls at hl ⊢
  have hl : lv_has ls 2 [(0, .ref h)] := hl
  have hS : va_S A s.heap s.heap [] := va_S.rf
  refine lv_aload_n hx hb dX_shrink_0 rfl (lv_at hl 0 rfl) ?_
  refine va_get (D := D) (ci := 0) (v := .int (nI (n + 1))) (C := RX) (T := TX) (N := 6) hx hb hw uX hown hK hP 0 rfl rfl 1 (by decide) (hw _ w1_20) (fun _ h9 => h9) rfl dX_shrink_1 ?_
  refine nv_if_gt (x := n + 1) (tgt := 17) hx hb dX_shrink_4 rfl (by omega) (fun hc4 => ?_) (fun hc4 => ?_)
  · refine lv_aload_n hx hb dX_shrink_17 rfl (lv_at hl 0 rfl) ?_
    refine lv_dup hx hb dX_shrink_18 rfl ?_
    refine va_get (D := D) (ci := 0) (v := .int (nI (n + 1))) (C := RX) (T := TX) (N := 6) hx hb hw uX hown hK hP 0 rfl rfl 1 (by decide) (hw _ w1_20) (fun _ h9 => h9) rfl dX_shrink_19 ?_
    refine lv_iconst (v := nI 1) hx hb dX_shrink_22 (by decide) ?_
    refine nv_isub (x := n + 1) (y := 1) hx hb dX_shrink_23 (by omega) ?_
    refine va_put (D := D) (ci := 0) (v := .int (nI ((n + 1) - 1))) (ty := .int) (C := RX) (T := TX) (N := 6) hx hb hw uX tyX tyX_ok nmX hown hK hP hD hS 0 rfl rfl 1 (by decide) (hw _ w1_20) (fun _ h9 => h9) rfl (by decide +kernel) rfl rfl (Nat.le_of_ble_eq_true rfl) dX_shrink_24 (fun H locs hP hD hS => ?_)
    have hP : va_P D vwCl [(h, .inr (0, [.ref a1, .int (nI ((n + 1) - 1)), .ref a2, .ref a3, .ref a4, .int (nI us)])), (a1, .inl (cA, 8, .inl (fun j => nI (nb j)))), (a2, .inl (cA, 8, .inl (fun j => nI (lo j)))), (a3, .inl (cA, 8, .inl (fun j => nI (hi j)))), (a4, .inl (cA, 16, .inl (fun j => nI (ho j))))] H := hP
    have hD : va_D A [(h, .inr (0, [.ref a1, .int (nI ((n + 1) - 1)), .ref a2, .ref a3, .ref a4, .int (nI us)])), (a1, .inl (cA, 8, .inl (fun j => nI (nb j)))), (a2, .inl (cA, 8, .inl (fun j => nI (lo j)))), (a3, .inl (cA, 8, .inl (fun j => nI (hi j)))), (a4, .inl (cA, 16, .inl (fun j => nI (ho j))))] := hD
    have hP : va_P D vwCl [(h, .inr (0, [.ref a1, .int (nI n), .ref a2, .ref a3, .ref a4, .int (nI us)])), (a1, .inl (cA, 8, .inl (fun j => nI (nb j)))), (a2, .inl (cA, 8, .inl (fun j => nI (lo j)))), (a3, .inl (cA, 8, .inl (fun j => nI (hi j)))), (a4, .inl (cA, 16, .inl (fun j => nI (ho j))))] H := hP
    have hD : va_D A [(h, .inr (0, [.ref a1, .int (nI n), .ref a2, .ref a3, .ref a4, .int (nI us)])), (a1, .inl (cA, 8, .inl (fun j => nI (nb j)))), (a2, .inl (cA, 8, .inl (fun j => nI (lo j)))), (a3, .inl (cA, 8, .inl (fun j => nI (hi j)))), (a4, .inl (cA, 16, .inl (fun j => nI (ho j))))] := hD
    refine lv_iconst (v := nI 0) hx hb dX_shrink_27 (by decide) ?_
    refine lv_istore_n hx hb dX_shrink_28 rfl hl (by decide) (lv' := [(1, .int (nI 0)), (0, .ref h)]) rfl (fun ls hl => ?_)
    have L29 : ∀ (k9 : Nat) (i : Nat), k9 = n - i → i ≤ n → ∀ (ls : Array Slot), lv_has ls 2 [(1, .int (nI i)), (0, .ref h)] → ∀ (H : Heap) (locs : List Loc), va_P D vwCl [(h, .inr (0, [.ref a1, .int (nI n), .ref a2, .ref a3, .ref a4, .int (nI us)])), (a1, .inl (cA, 8, .inl (fun j => nI ((jSh nb n i) j)))), (a2, .inl (cA, 8, .inl (fun j => nI (lo j)))), (a3, .inl (cA, 8, .inl (fun j => nI (hi j)))), (a4, .inl (cA, 16, .inl (fun j => nI (ho j))))] H → va_D A [(h, .inr (0, [.ref a1, .int (nI n), .ref a2, .ref a3, .ref a4, .int (nI us)])), (a1, .inl (cA, 8, .inl (fun j => nI ((jSh nb n i) j)))), (a2, .inl (cA, 8, .inl (fun j => nI (lo j)))), (a3, .inl (cA, 8, .inl (fun j => nI (hi j)))), (a4, .inl (cA, 16, .inl (fun j => nI (ho j))))] → va_S A s.heap H locs → W p l e (headSpec (Cond.code yX_shrink cX_shrink 2 none :: bw) (rmL 2)).room s m ([.ref h] : List Value).toArray below meth c H locs 0 0 (MQ below (va_Qv (fun _ : Unit => True) (fun _ => gW D vwCl A [(h, .inr (0, [.ref a1, .int (nI n), .ref a2, .ref a3, .ref a4, .int (nI us)])), (a1, .inl (cA, 8, .inl (fun j => nI ((jSh nb n n) j)))), (a2, .inl (cA, 8, .inl (fun j => nI (lo j)))), (a3, .inl (cA, 8, .inl (fun j => nI (hi j)))), (a4, .inl (cA, 16, .inl (fun j => nI (ho j))))] [(cA, .int)]) A) ([.ref h] : List Value).toArray s 0 0 A) (F0 m 29 ls []) := by
      intro k9
      induction k9 using Nat.strongRecOn with
      | _ k9 ih29 =>
        intro i hk9 hi9 ls hl H locs hP hD hS
        refine lv_iload_n hx hb dX_shrink_29 rfl (lv_at hl 0 rfl) ?_
        refine lv_aload_n hx hb dX_shrink_30 rfl (lv_at hl 1 rfl) ?_
        refine va_get (D := D) (ci := 0) (v := .int (nI n)) (C := RX) (T := TX) (N := 6) hx hb hw uX hown hK hP 0 rfl rfl 1 (by decide) (hw _ w1_20) (fun _ h9 => h9) rfl dX_shrink_31 ?_
        refine nv_icmp_ge (x := i) (y := n) (tgt := 61) hx hb dX_shrink_34 rfl (by omega) (by omega) (fun hc34 => ?_) (fun hc34 => ?_)
        · rw [show i = n by omega] at hP
          rw [show i = n by omega] at hD
          exact W.vret hx hb hr (fun t ht hW => ⟨⟨(), rfl, trivial, by rw [ht]; exact hP, va_K.moved hW.alike hK, hD⟩, hS.F ht⟩) hS.2.2 dX_shrink_61
        · refine lv_aload_n hx hb dX_shrink_37 rfl (lv_at hl 1 rfl) ?_
          refine va_get (D := D) (ci := 0) (v := .ref a1) (C := RX) (T := TX) (N := 6) hx hb hw uX hown hK hP 0 rfl rfl 0 (by decide) (hw _ w1_19) (fun _ h9 => h9) rfl dX_shrink_38 ?_
          refine lv_iload_n hx hb dX_shrink_41 rfl (lv_at hl 0 rfl) ?_
          refine lv_dup2_11 hx hb dX_shrink_42 rfl rfl ?_
          refine nv_iald (i := i) (f := jSh nb n i) hx hb hK hP 1 0 rfl rfl (by omega) (by omega) dX_shrink_43 ?_
          refine lv_aload_n hx hb dX_shrink_44 rfl (lv_at hl 1 rfl) ?_
          refine va_get (D := D) (ci := 0) (v := .int (nI n)) (C := RX) (T := TX) (N := 6) hx hb hw uX hown hK hP 0 rfl rfl 1 (by decide) (hw _ w1_20) (fun _ h9 => h9) rfl dX_shrink_45 ?_
          refine nr_S (As := [.int (nI n)]) (rest := [.int (nI ((jSh nb n i) i)), .int (nI i), .ref a1]) ⟨hx, hb, hml, hown, hw⟩ (cX_only_c l n (by omega)) (va_cwS 1 hw (gS2 w1_61 w1_62 w1_1 w1_63) rfl rfl rfl ⟨by decide, by decide, by decide +kernel⟩ ⟨Nat.le_of_ble_eq_true rfl, Nat.le_of_ble_eq_true rfl⟩) gT_blind (gT_at _) rfl hl.1 rfl (Nat.le_of_ble_eq_true rfl) dX_shrink_48 ⟨Nat.zero_le _, Nat.zero_le _⟩ ?_
          refine lv_iconst (v := nI 4294967295) hx hb dX_shrink_51 nb_m1 ?_
          refine nv_ixor (x := 2 ^ n) (y := 4294967295) hx hb dX_shrink_52 ?_
          refine nv_iand (x := (jSh nb n i) i) (y := (2 ^ n) ^^^ 4294967295) hx hb dX_shrink_53 ?_
          refine nv_iast (i := i) (x := ((jSh nb n i) i) &&& ((2 ^ n) ^^^ 4294967295)) (f := jSh nb n i) hx hb hK hP hD hS 1 0 rfl rfl (by omega) (by omega) dX_shrink_54 (fun H locs hP hD hS => ?_)
          have hP : va_P D vwCl [(h, .inr (0, [.ref a1, .int (nI n), .ref a2, .ref a3, .ref a4, .int (nI us)])), (a1, .inl (cA, 8, .inl (fun j => nI ((upN (jSh nb n i) i (((jSh nb n i) i) &&& ((2 ^ n) ^^^ 4294967295))) j)))), (a2, .inl (cA, 8, .inl (fun j => nI (lo j)))), (a3, .inl (cA, 8, .inl (fun j => nI (hi j)))), (a4, .inl (cA, 16, .inl (fun j => nI (ho j))))] H := hP
          have hD : va_D A [(h, .inr (0, [.ref a1, .int (nI n), .ref a2, .ref a3, .ref a4, .int (nI us)])), (a1, .inl (cA, 8, .inl (fun j => nI ((upN (jSh nb n i) i (((jSh nb n i) i) &&& ((2 ^ n) ^^^ 4294967295))) j)))), (a2, .inl (cA, 8, .inl (fun j => nI (lo j)))), (a3, .inl (cA, 8, .inl (fun j => nI (hi j)))), (a4, .inl (cA, 16, .inl (fun j => nI (ho j))))] := hD
          refine lv_iinc (k := 0) hx hb dX_shrink_55 hl rfl (nb_inc _) (by decide) (lv' := [(1, .int (nI (i + 1))), (0, .ref h)]) rfl (fun ls hl => ?_)
          refine lv_goto (tgt := 29) hx hb dX_shrink_58 rfl ?_
          exact ih29 _ (by omega) (i + 1) rfl (by omega) ls hl _ _ hP hD hS
    exact L29 _ 0 rfl (Nat.zero_le _) ls hl _ _ hP hD hS
  · exact absurd hc4 (by omega)

set_option maxHeartbeats 4000000 in
set_option maxRecDepth 100000 in
theorem cX_shrink_n (l : Launch) (D : va_G) (A : Nat → Prop) (h a1 a2 a3 a4 : Nat) (cA : ClassId) (n us : Nat) (nb lo hi ho : Nat → Nat)  (hst : l.stackTraces = false) (hn : n = 0) : MetT l yX_shrink (Cond.code yX_shrink cX_shrink 2 none :: bw) (rmT 7) (va_Pc [.ref h] (gE D vwCl A [(h, .inr (0, [.ref a1, .int (nI n), .ref a2, .ref a3, .ref a4, .int (nI us)])), (a1, .inl (cA, 8, .inl (fun j => nI (nb j)))), (a2, .inl (cA, 8, .inl (fun j => nI (lo j)))), (a3, .inl (cA, 8, .inl (fun j => nI (hi j)))), (a4, .inl (cA, 16, .inl (fun j => nI (ho j))))] [(cA, .int)])) cISE (fun st t => va_F A st t ∧ (gW D vwCl A [(h, .inr (0, [.ref a1, .int (nI n), .ref a2, .ref a3, .ref a4, .int (nI us)])), (a1, .inl (cA, 8, .inl (fun j => nI (nb j)))), (a2, .inl (cA, 8, .inl (fun j => nI (lo j)))), (a3, .inl (cA, 8, .inl (fun j => nI (hi j)))), (a4, .inl (cA, 16, .inl (fun j => nI (ho j))))] [(cA, .int)]) t) 1 6 A := by
  refine tx_ofW (cc := cX_shrink) (maxL := 2) (ret := none) (by decide) rfl ?_
  intro p e s m args below meth c s₁ B9 hml hv9
  obtain ⟨rfl, ⟨hP, hK, hD⟩, hE⟩ := hv9
  have hx := B9.exec
  have hb := B9.bytes
  have hr := B9.returns
  have hts := atoms_spec (ws := (Cond.code yX_shrink cX_shrink 2 none :: bw)) B9.pre
  have hw : ∀ w ∈ bw, w.before _ s = true := fun w h => hts w (List.mem_cons_of_mem _ h)
  have hown : s.vm.findClass RX = some m.cls := findClass_of_methodNamed B9.named
  have hlocks := B9.notSynchronized
  have hl := lv_entry ([.ref h]) (n := 2) (Nat.le_of_ble_eq_true rfl)
  rw [lg_entry_eq]
  generalize (lg_sl ([.ref h]) ++ List.replicate (2 - (lg_sl ([.ref h])).length) Slot.unset).toArray = ls at hl ⊢
  have hl : lv_has ls 2 [(0, .ref h)] := hl
  have hno := B9.noHandlers (hts _ List.mem_cons_self)
  have hS : va_S A s.heap s.heap [] := va_S.rf
  refine lv_aload_n hx hb dX_shrink_0 rfl (lv_at hl 0 rfl) ?_
  refine va_get (D := D) (ci := 0) (v := .int (nI n)) (C := RX) (T := TX) (N := 6) hx hb hw uX hown hK hP 0 rfl rfl 1 (by decide) (hw _ w1_20) (fun _ h9 => h9) rfl dX_shrink_1 ?_
  refine nv_if_gt (x := n) (tgt := 17) hx hb dX_shrink_4 rfl (by omega) (fun hc4 => ?_) (fun hc4 => ?_)
  · exact absurd hc4 (by omega)
  · obtain ⟨sa, hsa⟩ := hE.2.2.2.2.2.1
    exact tx_throw (own := RX) (cls := cISE) (text := "no vertex to take away") (names := nmE) (ik := 29) (is := 36) (ic := 33) hx hb hst hown (by decide) (by decide) (txE.words at_ISE hw hE hS.2.1) (txlk hw w1_121 w1_6) hsa hml hl.1 hno hlocks dX_shrink_7 dX_shrink_10 dX_shrink_11 dX_shrink_13 dX_shrink_16 (Nat.le_of_ble_eq_true rfl) (Nat.le_of_ble_eq_true rfl) (Nat.le_of_ble_eq_true rfl) (Nat.le_of_ble_eq_true rfl) (fun t hal hz hq => txB hS hP hK hD hal hz hq) hS.2.2
