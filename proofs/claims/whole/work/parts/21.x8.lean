set_option maxHeartbeats 4000000 in
set_option maxRecDepth 100000 in
theorem cX_findNaming_c (l : Launch) (D : va_G) (A : Nat → Prop) (h a1 a2 a3 a4 : Nat) (cA : ClassId) (n us : Nat) (nb lo hi ho : Nat → Nat) (set : Nat) (ed : Nat → Nat → Nat) (hn : n ≤ 8) (hnb : ∀ v, v < n → nb v < 256)(hset : set < 256)(hed : ∀ v j, v < n → j < v → ed v j = if (nb v).testBit j = true then 1 else 0) : Met l yX_findNaming (Cond.code yX_findNaming cX_findNaming 3 (some FieldType.boolean) :: bw) (rmL 12) (va_Pc [.ref h, .int (nI set)] (gW D vwCl A [(h, .inr (0, [.ref a1, .int (nI n), .ref a2, .ref a3, .ref a4, .int (nI us)])), (a1, .inl (cA, 8, .inl (fun j => nI (nb j)))), (a2, .inl (cA, 8, .inl (fun j => nI (lo j)))), (a3, .inl (cA, 8, .inl (fun j => nI (hi j)))), (a4, .inl (cA, 16, .inl (fun j => nI (ho j))))] [(cA, .int)])) (va_Qi (fnP (srN ed (meN set n 0) [] 0)) (fun u => gW D vwCl A (xW9 h a1 a2 a3 a4 cA n nb u) [(cA, .int)]) A) 0 0 A := by
  refine Met.ofW (cc := cX_findNaming) (maxL := 3) (ret := (some FieldType.boolean)) (by decide) rfl ?_
  intro p e s m args below meth c s₁ B9 hml hv9
  obtain ⟨rfl, hP, hK, hD⟩ := hv9
  have hx := B9.exec
  have hb := B9.bytes
  have hr := B9.returns
  have hts := atoms_spec (ws := (Cond.code yX_findNaming cX_findNaming 3 (some FieldType.boolean) :: bw)) B9.pre
  have hw : ∀ w ∈ bw, w.before _ s = true := fun w h => hts w (List.mem_cons_of_mem _ h)
  have hown : s.vm.findClass RX = some m.cls := findClass_of_methodNamed B9.named
  have hlocks := B9.notSynchronized
  have hl := lv_entry ([.ref h, .int (nI set)]) (n := 3) (Nat.le_of_ble_eq_true rfl)
  rw [lg_entry_eq]
  generalize (lg_sl ([.ref h, .int (nI set)]) ++ List.replicate (3 - (lg_sl ([.ref h, .int (nI set)])).length) Slot.unset).toArray = ls at hl ⊢
  have hl : lv_has ls 3 [(0, .ref h), (1, .int (nI set))] := hl
  have hS : va_S A s.heap s.heap [] := va_S.rf
  refine lv_iconst (v := nI 0) hx hb dX_findNaming_0 (by decide) ?_
  refine lv_istore_n hx hb dX_findNaming_1 rfl hl (by decide) (lv' := [(2, .int (nI 0)), (0, .ref h), (1, .int (nI set))]) rfl (fun ls hl => ?_)
  have L2 : ∀ (k9 : Nat) (i : Nat) (ho1 : Nat → Nat), k9 = 16 - i → i ≤ 16 → (∀ e, e < i → ho1 e = 0) → ∀ (ls : Array Slot), lv_has ls 3 [(2, .int (nI i)), (0, .ref h), (1, .int (nI set))] → ∀ (H : Heap) (locs : List Loc), va_P D vwCl [(h, .inr (0, [.ref a1, .int (nI n), .ref a2, .ref a3, .ref a4, .int (nI us)])), (a1, .inl (cA, 8, .inl (fun j => nI (nb j)))), (a2, .inl (cA, 8, .inl (fun j => nI (lo j)))), (a3, .inl (cA, 8, .inl (fun j => nI (hi j)))), (a4, .inl (cA, 16, .inl (fun j => nI (ho1 j))))] H → va_D A [(h, .inr (0, [.ref a1, .int (nI n), .ref a2, .ref a3, .ref a4, .int (nI us)])), (a1, .inl (cA, 8, .inl (fun j => nI (nb j)))), (a2, .inl (cA, 8, .inl (fun j => nI (lo j)))), (a3, .inl (cA, 8, .inl (fun j => nI (hi j)))), (a4, .inl (cA, 16, .inl (fun j => nI (ho1 j))))] → va_S A s.heap H locs → W p l e (headSpec (Cond.code yX_findNaming cX_findNaming 3 (some FieldType.boolean) :: bw) (rmL 12)).room s m ([.ref h, .int (nI set)] : List Value).toArray below meth c H locs 0 0 (MQ below (va_Qi (fnP (srN ed (meN set n 0) [] 0)) (fun u => gW D vwCl A (xW9 h a1 a2 a3 a4 cA n nb u) [(cA, .int)]) A) ([.ref h, .int (nI set)] : List Value).toArray s 0 0 A) (F0 m 2 ls []) := by
    intro k9
    induction k9 using Nat.strongRecOn with
    | _ k9 ih2 =>
      intro i ho1 hk9 hi9 hz9 ls hl H locs hP hD hS
      refine lv_iload_n hx hb dX_findNaming_2 rfl (lv_at hl 0 rfl) ?_
      refine lv_bipush (v := nI 16) hx hb dX_findNaming_3 (by decide) ?_
      refine nv_icmp_ge (x := i) (y := 16) (tgt := 21) hx hb dX_findNaming_5 rfl (by omega) (by omega) (fun hc5 => ?_) (fun hc5 => ?_)
      · refine lv_aload_n hx hb dX_findNaming_21 rfl (lv_at hl 1 rfl) ?_
        refine lv_iconst (v := nI 0) hx hb dX_findNaming_22 (by decide) ?_
        refine va_put (D := D) (ci := 0) (v := .int (nI 0)) (ty := .int) (C := RX) (T := TX) (N := 6) hx hb hw uX tyX tyX_ok nmX hown hK hP hD hS 0 rfl rfl 5 (by decide) (hw _ w1_24) (fun _ h9 => h9) rfl (by decide +kernel) rfl rfl (Nat.le_of_ble_eq_true rfl) dX_findNaming_23 (fun H locs hP hD hS => ?_)
        have hP : va_P D vwCl [(h, .inr (0, [.ref a1, .int (nI n), .ref a2, .ref a3, .ref a4, .int (nI 0)])), (a1, .inl (cA, 8, .inl (fun j => nI (nb j)))), (a2, .inl (cA, 8, .inl (fun j => nI (lo j)))), (a3, .inl (cA, 8, .inl (fun j => nI (hi j)))), (a4, .inl (cA, 16, .inl (fun j => nI (ho1 j))))] H := hP
        have hD : va_D A [(h, .inr (0, [.ref a1, .int (nI n), .ref a2, .ref a3, .ref a4, .int (nI 0)])), (a1, .inl (cA, 8, .inl (fun j => nI (nb j)))), (a2, .inl (cA, 8, .inl (fun j => nI (lo j)))), (a3, .inl (cA, 8, .inl (fun j => nI (hi j)))), (a4, .inl (cA, 16, .inl (fun j => nI (ho1 j))))] := hD
        refine lv_aload_n hx hb dX_findNaming_26 rfl (lv_at hl 1 rfl) ?_
        refine lv_iconst (v := nI 0) hx hb dX_findNaming_27 (by decide) ?_
        refine lv_iload_n hx hb dX_findNaming_28 rfl (lv_at hl 2 rfl) ?_
        have hz16 : ∀ e, e < 16 → ho1 e = 0 := fun e he => hz9 e (by omega)
        refine va_calli (va_runV (C := RX) (As := [.int (nI 0), .int (nI set)]) (rest := []) ⟨hx, hb, hml, hown, hw⟩ (cX_nameFrom_c l D A h a1 a2 a3 a4 cA n nb set ed hn hnb hset hed n 0 0 lo hi ho1 [] (by omega) (by omega) (kc_nil set) (hr_nil hz16) (fun q hq => by cases hq) (fun e he => by rw [hz16 e he]; omega)) (cwV 2 hw (gV w1_68 w1_70 w0_2 w1_1 w1_71) rfl rfl rfl ⟨rfl, by decide, by decide, by decide +kernel⟩ ⟨rm_1 (by omega), rm_2 (by omega) (by decide)⟩) ⟨gW_blind, va_recv (q0 := 0) (ci := 0) hK hP rfl rfl, gW_at hP hK hD _⟩ rfl rfl hl.1 rfl (lv_room (Nat.le_of_ble_eq_true rfl)) dX_findNaming_29 ⟨Nat.zero_le _, Nat.zero_le _⟩) hS (fun q _ h => h) (fun q h => h) (fun r9 u9 t9 H locs ht9 hvm9 hpost9 hB9 hz9 hk8 hS => ?_)
        obtain ⟨lo5, hi5, ho5, us5⟩ := u9
        obtain ⟨hP, -, hD⟩ := hB9
        rw [ht9] at hP
        obtain ⟨hr9, hlh9, hno9, hyes9⟩ := hpost9
        subst hr9
        have hP : va_P D vwCl [(h, .inr (0, [.ref a1, .int (nI n), .ref a2, .ref a3, .ref a4, .int (nI us5)])), (a1, .inl (cA, 8, .inl (fun j => nI (nb j)))), (a2, .inl (cA, 8, .inl (fun j => nI (lo5 j)))), (a3, .inl (cA, 8, .inl (fun j => nI (hi5 j)))), (a4, .inl (cA, 16, .inl (fun j => nI (ho5 j))))] H := hP
        have hD : va_D A [(h, .inr (0, [.ref a1, .int (nI n), .ref a2, .ref a3, .ref a4, .int (nI us5)])), (a1, .inl (cA, 8, .inl (fun j => nI (nb j)))), (a2, .inl (cA, 8, .inl (fun j => nI (lo5 j)))), (a3, .inl (cA, 8, .inl (fun j => nI (hi5 j)))), (a4, .inl (cA, 16, .inl (fun j => nI (ho5 j))))] := hD
        exact W.zret (v := (bI ((srN ed (meN set n 0) [] 0).isSome))) hx hb hr (nb_nar _) (fun t ht hW => ⟨⟨_, (lo5, hi5, ho5, us5), rfl, ⟨rfl, hyes9⟩, by rw [ht]; exact hP, va_K.moved hW.alike hK, hD⟩, hS.F ht⟩) hS.2.2 dX_findNaming_32
      · refine lv_aload_n hx hb dX_findNaming_8 rfl (lv_at hl 1 rfl) ?_
        refine va_get (D := D) (ci := 0) (v := .ref a4) (C := RX) (T := TX) (N := 6) hx hb hw uX hown hK hP 0 rfl rfl 4 (by decide) (hw _ w1_23) (fun _ h9 => h9) rfl dX_findNaming_9 ?_
        refine lv_iload_n hx hb dX_findNaming_12 rfl (lv_at hl 0 rfl) ?_
        refine lv_iconst (v := nI 0) hx hb dX_findNaming_13 (by decide) ?_
        refine nv_iast (i := i) (x := 0) (f := ho1) hx hb hK hP hD hS 4 0 rfl rfl (by omega) (by omega) dX_findNaming_14 (fun H locs hP hD hS => ?_)
        have hP : va_P D vwCl [(h, .inr (0, [.ref a1, .int (nI n), .ref a2, .ref a3, .ref a4, .int (nI us)])), (a1, .inl (cA, 8, .inl (fun j => nI (nb j)))), (a2, .inl (cA, 8, .inl (fun j => nI (lo j)))), (a3, .inl (cA, 8, .inl (fun j => nI (hi j)))), (a4, .inl (cA, 16, .inl (fun j => nI ((upN ho1 i 0) j))))] H := hP
        have hD : va_D A [(h, .inr (0, [.ref a1, .int (nI n), .ref a2, .ref a3, .ref a4, .int (nI us)])), (a1, .inl (cA, 8, .inl (fun j => nI (nb j)))), (a2, .inl (cA, 8, .inl (fun j => nI (lo j)))), (a3, .inl (cA, 8, .inl (fun j => nI (hi j)))), (a4, .inl (cA, 16, .inl (fun j => nI ((upN ho1 i 0) j))))] := hD
        refine lv_iinc (k := 0) hx hb dX_findNaming_15 hl rfl (nb_inc _) (by decide) (lv' := [(2, .int (nI (i + 1))), (0, .ref h), (1, .int (nI set))]) rfl (fun ls hl => ?_)
        refine lv_goto (tgt := 2) hx hb dX_findNaming_18 rfl ?_
        exact ih2 _ (by omega) (i + 1) (upN ho1 i 0) rfl (by omega) (fun e he => by by_cases h9 : e = i; (rw [h9, upN_s]); (rw [upN_n _ _ h9]; exact hz9 e (by omega))) ls hl _ _ hP hD hS
  exact L2 _ 0 ho rfl (by omega) (fun e he => by omega) ls hl _ _ hP hD hS

set_option maxHeartbeats 4000000 in
set_option maxRecDepth 100000 in
theorem cX_isLine_c (l : Launch) (D : va_G) (A : Nat → Prop) (h a1 a2 a3 a4 : Nat) (cA : ClassId) (n us : Nat) (nb lo hi ho : Nat → Nat) (ed : Nat → Nat → Nat) (hn : n ≤ 8) (hnb : ∀ v, v < n → nb v < 256)(hed : ∀ v j, v < n → j < v → ed v j = if (nb v).testBit j = true then 1 else 0) : Met l yX_isLine (Cond.code yX_isLine cX_isLine 1 (some FieldType.boolean) :: bw) (rmL 13) (va_Pc [.ref h] (gW D vwCl A [(h, .inr (0, [.ref a1, .int (nI n), .ref a2, .ref a3, .ref a4, .int (nI us)])), (a1, .inl (cA, 8, .inl (fun j => nI (nb j)))), (a2, .inl (cA, 8, .inl (fun j => nI (lo j)))), (a3, .inl (cA, 8, .inl (fun j => nI (hi j)))), (a4, .inl (cA, 16, .inl (fun j => nI (ho j))))] [(cA, .int)])) (va_Qi (fnP (srN ed (meN (2 ^ n - 1) n 0) [] 0)) (fun u => gW D vwCl A (xW9 h a1 a2 a3 a4 cA n nb u) [(cA, .int)]) A) 0 0 A := by
  refine Met.ofW (cc := cX_isLine) (maxL := 1) (ret := (some FieldType.boolean)) (by decide) rfl ?_
  intro p e s m args below meth c s₁ B9 hml hv9
  obtain ⟨rfl, hP, hK, hD⟩ := hv9
  have hx := B9.exec
  have hb := B9.bytes
  have hr := B9.returns
  have hts := atoms_spec (ws := (Cond.code yX_isLine cX_isLine 1 (some FieldType.boolean) :: bw)) B9.pre
  have hw : ∀ w ∈ bw, w.before _ s = true := fun w h => hts w (List.mem_cons_of_mem _ h)
  have hown : s.vm.findClass RX = some m.cls := findClass_of_methodNamed B9.named
  have hlocks := B9.notSynchronized
  have hl := lv_entry ([.ref h]) (n := 1) (Nat.le_of_ble_eq_true rfl)
  rw [lg_entry_eq]
  generalize (lg_sl ([.ref h]) ++ List.replicate (1 - (lg_sl ([.ref h])).length) Slot.unset).toArray = ls at hl ⊢
  have hl : lv_has ls 1 [(0, .ref h)] := hl
  have hS : va_S A s.heap s.heap [] := va_S.rf
  have hp := pw_8 hn
  have hp0 := Nat.two_pow_pos n
  refine lv_aload_n hx hb dX_isLine_0 rfl (lv_at hl 0 rfl) ?_
  refine lv_aload_n hx hb dX_isLine_1 rfl (lv_at hl 0 rfl) ?_
  refine nr_V (b := h) (As := []) (C := RX) (rest := [.ref h]) ⟨hx, hb, hml, hown, hw⟩ (cX_all_c l D A h a1 a2 a3 a4 cA n us nb lo hi ho (by omega)) (cwV 0 hw (gV w1_57 w1_59 w0_0 w1_1 w1_60) rfl rfl rfl ⟨rfl, by decide, by decide, by decide +kernel⟩ ⟨Nat.le_of_ble_eq_true rfl, Nat.le_of_ble_eq_true rfl⟩) gB_blind (va_recv (q0 := 0) (ci := 0) hK hP rfl rfl) (gB_at hP hK _) rfl hl.1 rfl (Nat.le_of_ble_eq_true rfl) dX_isLine_2 ⟨Nat.zero_le _, Nat.zero_le _⟩ ?_
  refine va_calli (va_runV (C := RX) (As := [.int (nI (2 ^ n - 1))]) (rest := []) ⟨hx, hb, hml, hown, hw⟩ (cX_findNaming_c l D A h a1 a2 a3 a4 cA n us nb lo hi ho (2 ^ n - 1) ed hn hnb (by omega) hed) (cwV 1 hw (gV w1_64 w1_66 w0_1 w1_1 w1_67) rfl rfl rfl ⟨rfl, by decide, by decide, by decide +kernel⟩ ⟨Nat.le_of_ble_eq_true rfl, Nat.le_of_ble_eq_true rfl⟩) ⟨gW_blind, va_recv (q0 := 0) (ci := 0) hK hP rfl rfl, gW_at hP hK hD _⟩ rfl rfl hl.1 rfl (lv_room (Nat.le_of_ble_eq_true rfl)) dX_isLine_5 ⟨Nat.zero_le _, Nat.zero_le _⟩) hS (fun q _ h => h) (fun q h => h) (fun r9 u9 t9 H locs ht9 hvm9 hpost9 hB9 hz9 hk8 hS => ?_)
  obtain ⟨lo5, hi5, ho5, us5⟩ := u9
  obtain ⟨hP, -, hD⟩ := hB9
  rw [ht9] at hP
  obtain ⟨hr9, hyes9⟩ := hpost9
  subst hr9
  have hP : va_P D vwCl [(h, .inr (0, [.ref a1, .int (nI n), .ref a2, .ref a3, .ref a4, .int (nI us5)])), (a1, .inl (cA, 8, .inl (fun j => nI (nb j)))), (a2, .inl (cA, 8, .inl (fun j => nI (lo5 j)))), (a3, .inl (cA, 8, .inl (fun j => nI (hi5 j)))), (a4, .inl (cA, 16, .inl (fun j => nI (ho5 j))))] H := hP
  have hD : va_D A [(h, .inr (0, [.ref a1, .int (nI n), .ref a2, .ref a3, .ref a4, .int (nI us5)])), (a1, .inl (cA, 8, .inl (fun j => nI (nb j)))), (a2, .inl (cA, 8, .inl (fun j => nI (lo5 j)))), (a3, .inl (cA, 8, .inl (fun j => nI (hi5 j)))), (a4, .inl (cA, 16, .inl (fun j => nI (ho5 j))))] := hD
  exact W.zret (v := (bI ((srN ed (meN (2 ^ n - 1) n 0) [] 0).isSome))) hx hb hr (nb_nar _) (fun t ht hW => ⟨⟨_, (lo5, hi5, ho5, us5), rfl, ⟨rfl, hyes9⟩, by rw [ht]; exact hP, va_K.moved hW.alike hK, hD⟩, hS.F ht⟩) hS.2.2 dX_isLine_8

set_option maxHeartbeats 4000000 in
set_option maxRecDepth 100000 in
theorem cX_nameAll_y (l : Launch) (D : va_G) (A : Nat → Prop) (h a1 a2 a3 a4 : Nat) (cA : ClassId) (n us : Nat) (nb lo hi ho : Nat → Nat) (ed : Nat → Nat → Nat) (hn : n ≤ 8) (hnb : ∀ v, v < n → nb v < 256)(hed : ∀ v j, v < n → j < v → ed v j = if (nb v).testBit j = true then 1 else 0)(x : List (Nat × Nat × Nat) × Nat) (hres : srN ed (meN (2 ^ n - 1) n 0) [] 0 = some x) : Met l yX_nameAll (Cond.code yX_nameAll cX_nameAll 1 none :: bw) (rmL 13) (va_Pc [.ref h] (gW D vwCl A [(h, .inr (0, [.ref a1, .int (nI n), .ref a2, .ref a3, .ref a4, .int (nI us)])), (a1, .inl (cA, 8, .inl (fun j => nI (nb j)))), (a2, .inl (cA, 8, .inl (fun j => nI (lo j)))), (a3, .inl (cA, 8, .inl (fun j => nI (hi j)))), (a4, .inl (cA, 16, .inl (fun j => nI (ho j))))] [(cA, .int)])) (va_Qv (fun u => u.2.2.2 = x.2 ∧ NM x.1 u.1 u.2.1) (fun u => gW D vwCl A (xW9 h a1 a2 a3 a4 cA n nb u) [(cA, .int)]) A) 0 0 A := by
  refine Met.ofW (cc := cX_nameAll) (maxL := 1) (ret := none) (by decide) rfl ?_
  intro p e s m args below meth c s₁ B9 hml hv9
  obtain ⟨rfl, hP, hK, hD⟩ := hv9
  have hx := B9.exec
  have hb := B9.bytes
  have hr := B9.returns
  have hts := atoms_spec (ws := (Cond.code yX_nameAll cX_nameAll 1 none :: bw)) B9.pre
  have hw : ∀ w ∈ bw, w.before _ s = true := fun w h => hts w (List.mem_cons_of_mem _ h)
  have hown : s.vm.findClass RX = some m.cls := findClass_of_methodNamed B9.named
  have hlocks := B9.notSynchronized
  have hl := lv_entry ([.ref h]) (n := 1) (Nat.le_of_ble_eq_true rfl)
  rw [lg_entry_eq]
  generalize (lg_sl ([.ref h]) ++ List.replicate (1 - (lg_sl ([.ref h])).length) Slot.unset).toArray = ls at hl ⊢
  have hl : lv_has ls 1 [(0, .ref h)] := hl
  have hS : va_S A s.heap s.heap [] := va_S.rf
  have hp := pw_8 hn
  have hp0 := Nat.two_pow_pos n
  refine lv_aload_n hx hb dX_nameAll_0 rfl (lv_at hl 0 rfl) ?_
  refine lv_aload_n hx hb dX_nameAll_1 rfl (lv_at hl 0 rfl) ?_
  refine nr_V (b := h) (As := []) (C := RX) (rest := [.ref h]) ⟨hx, hb, hml, hown, hw⟩ (cX_all_c l D A h a1 a2 a3 a4 cA n us nb lo hi ho (by omega)) (cwV 0 hw (gV w1_57 w1_59 w0_0 w1_1 w1_60) rfl rfl rfl ⟨rfl, by decide, by decide, by decide +kernel⟩ ⟨Nat.le_of_ble_eq_true rfl, Nat.le_of_ble_eq_true rfl⟩) gB_blind (va_recv (q0 := 0) (ci := 0) hK hP rfl rfl) (gB_at hP hK _) rfl hl.1 rfl (Nat.le_of_ble_eq_true rfl) dX_nameAll_2 ⟨Nat.zero_le _, Nat.zero_le _⟩ ?_
  refine va_calli (va_runV (C := RX) (As := [.int (nI (2 ^ n - 1))]) (rest := []) ⟨hx, hb, hml, hown, hw⟩ (cX_findNaming_c l D A h a1 a2 a3 a4 cA n us nb lo hi ho (2 ^ n - 1) ed hn hnb (by omega) hed) (cwV 1 hw (gV w1_64 w1_66 w0_1 w1_1 w1_67) rfl rfl rfl ⟨rfl, by decide, by decide, by decide +kernel⟩ ⟨Nat.le_of_ble_eq_true rfl, Nat.le_of_ble_eq_true rfl⟩) ⟨gW_blind, va_recv (q0 := 0) (ci := 0) hK hP rfl rfl, gW_at hP hK hD _⟩ rfl rfl hl.1 rfl (lv_room (Nat.le_of_ble_eq_true rfl)) dX_nameAll_5 ⟨Nat.zero_le _, Nat.zero_le _⟩) hS (fun q _ h => h) (fun q h => h) (fun r9 u9 t9 H locs ht9 hvm9 hpost9 hB9 hz9 hk8 hS => ?_)
  obtain ⟨lo5, hi5, ho5, us5⟩ := u9
  obtain ⟨hP, -, hD⟩ := hB9
  rw [ht9] at hP
  obtain ⟨hr9, hyes9⟩ := hpost9
  subst hr9
  have hP : va_P D vwCl [(h, .inr (0, [.ref a1, .int (nI n), .ref a2, .ref a3, .ref a4, .int (nI us5)])), (a1, .inl (cA, 8, .inl (fun j => nI (nb j)))), (a2, .inl (cA, 8, .inl (fun j => nI (lo5 j)))), (a3, .inl (cA, 8, .inl (fun j => nI (hi5 j)))), (a4, .inl (cA, 16, .inl (fun j => nI (ho5 j))))] H := hP
  have hD : va_D A [(h, .inr (0, [.ref a1, .int (nI n), .ref a2, .ref a3, .ref a4, .int (nI us5)])), (a1, .inl (cA, 8, .inl (fun j => nI (nb j)))), (a2, .inl (cA, 8, .inl (fun j => nI (lo5 j)))), (a3, .inl (cA, 8, .inl (fun j => nI (hi5 j)))), (a4, .inl (cA, 16, .inl (fun j => nI (ho5 j))))] := hD
  refine nv_b_ne (x := (srN ed (meN (2 ^ n - 1) n 0) [] 0).isSome) (tgt := 21) hx hb dX_nameAll_8 rfl (fun hc8 => ?_) (fun hc8 => ?_)
  · exact W.vret hx hb hr (fun t ht hW => ⟨⟨(lo5, hi5, ho5, us5), rfl, hyes9 x hres, by rw [ht]; exact hP, va_K.moved hW.alike hK, hD⟩, hS.F ht⟩) hS.2.2 dX_nameAll_21
  · exact absurd hc8 (by rw [hres]; exact Bool.noConfusion)

set_option maxHeartbeats 4000000 in
set_option maxRecDepth 100000 in
theorem cX_nameAll_n (l : Launch) (D : va_G) (A : Nat → Prop) (h a1 a2 a3 a4 : Nat) (cA : ClassId) (n us : Nat) (nb lo hi ho : Nat → Nat) (ed : Nat → Nat → Nat) (hst : l.stackTraces = false) (hn : n ≤ 8) (hnb : ∀ v, v < n → nb v < 256)(hed : ∀ v j, v < n → j < v → ed v j = if (nb v).testBit j = true then 1 else 0)(hres : srN ed (meN (2 ^ n - 1) n 0) [] 0 = none) : MetT l yX_nameAll (Cond.code yX_nameAll cX_nameAll 1 none :: bw) (rmT 14) (va_Pc [.ref h] (gE D vwCl A [(h, .inr (0, [.ref a1, .int (nI n), .ref a2, .ref a3, .ref a4, .int (nI us)])), (a1, .inl (cA, 8, .inl (fun j => nI (nb j)))), (a2, .inl (cA, 8, .inl (fun j => nI (lo j)))), (a3, .inl (cA, 8, .inl (fun j => nI (hi j)))), (a4, .inl (cA, 16, .inl (fun j => nI (ho j))))] [(cA, .int)])) cISE (fun st t => va_F A st t ∧ (fun t => ∃ u, gW D vwCl A (xW9 h a1 a2 a3 a4 cA n nb u) [(cA, .int)] t) t) 1 6 A := by
  refine tx_ofW (cc := cX_nameAll) (maxL := 1) (ret := none) (by decide) rfl ?_
  intro p e s m args below meth c s₁ B9 hml hv9
  obtain ⟨rfl, ⟨hP, hK, hD⟩, hE⟩ := hv9
  have hx := B9.exec
  have hb := B9.bytes
  have hr := B9.returns
  have hts := atoms_spec (ws := (Cond.code yX_nameAll cX_nameAll 1 none :: bw)) B9.pre
  have hw : ∀ w ∈ bw, w.before _ s = true := fun w h => hts w (List.mem_cons_of_mem _ h)
  have hown : s.vm.findClass RX = some m.cls := findClass_of_methodNamed B9.named
  have hlocks := B9.notSynchronized
  have hl := lv_entry ([.ref h]) (n := 1) (Nat.le_of_ble_eq_true rfl)
  rw [lg_entry_eq]
  generalize (lg_sl ([.ref h]) ++ List.replicate (1 - (lg_sl ([.ref h])).length) Slot.unset).toArray = ls at hl ⊢
  have hl : lv_has ls 1 [(0, .ref h)] := hl
  have hno := B9.noHandlers (hts _ List.mem_cons_self)
  have hS : va_S A s.heap s.heap [] := va_S.rf
  have hp := pw_8 hn
  have hp0 := Nat.two_pow_pos n
  refine lv_aload_n hx hb dX_nameAll_0 rfl (lv_at hl 0 rfl) ?_
  refine lv_aload_n hx hb dX_nameAll_1 rfl (lv_at hl 0 rfl) ?_
  refine nr_V (b := h) (As := []) (C := RX) (rest := [.ref h]) ⟨hx, hb, hml, hown, hw⟩ (cX_all_c l D A h a1 a2 a3 a4 cA n us nb lo hi ho (by omega)) (cwV 0 hw (gV w1_57 w1_59 w0_0 w1_1 w1_60) rfl rfl rfl ⟨rfl, by decide, by decide, by decide +kernel⟩ ⟨Nat.le_of_ble_eq_true rfl, Nat.le_of_ble_eq_true rfl⟩) gB_blind (va_recv (q0 := 0) (ci := 0) hK hP rfl rfl) (gB_at hP hK _) rfl hl.1 rfl (Nat.le_of_ble_eq_true rfl) dX_nameAll_2 ⟨Nat.zero_le _, Nat.zero_le _⟩ ?_
  refine va_calli (va_runV (C := RX) (As := [.int (nI (2 ^ n - 1))]) (rest := []) ⟨hx, hb, hml, hown, hw⟩ (cX_findNaming_c l D A h a1 a2 a3 a4 cA n us nb lo hi ho (2 ^ n - 1) ed hn hnb (by omega) hed) (cwV 1 hw (gV w1_64 w1_66 w0_1 w1_1 w1_67) rfl rfl rfl ⟨rfl, by decide, by decide, by decide +kernel⟩ ⟨Nat.le_of_ble_eq_true rfl, Nat.le_of_ble_eq_true rfl⟩) ⟨gW_blind, va_recv (q0 := 0) (ci := 0) hK hP rfl rfl, gW_at hP hK hD _⟩ rfl rfl hl.1 rfl (lv_room (Nat.le_of_ble_eq_true rfl)) dX_nameAll_5 ⟨Nat.zero_le _, Nat.zero_le _⟩) hS (fun q _ h => h) (fun q h => h) (fun r9 u9 t9 H locs ht9 hvm9 hpost9 hB9 hz9 hk8 hS => ?_)
  obtain ⟨lo5, hi5, ho5, us5⟩ := u9
  obtain ⟨hP, -, hD⟩ := hB9
  rw [ht9] at hP
  obtain ⟨hr9, hyes9⟩ := hpost9
  subst hr9
  have hP : va_P D vwCl [(h, .inr (0, [.ref a1, .int (nI n), .ref a2, .ref a3, .ref a4, .int (nI us5)])), (a1, .inl (cA, 8, .inl (fun j => nI (nb j)))), (a2, .inl (cA, 8, .inl (fun j => nI (lo5 j)))), (a3, .inl (cA, 8, .inl (fun j => nI (hi5 j)))), (a4, .inl (cA, 16, .inl (fun j => nI (ho5 j))))] H := hP
  have hD : va_D A [(h, .inr (0, [.ref a1, .int (nI n), .ref a2, .ref a3, .ref a4, .int (nI us5)])), (a1, .inl (cA, 8, .inl (fun j => nI (nb j)))), (a2, .inl (cA, 8, .inl (fun j => nI (lo5 j)))), (a3, .inl (cA, 8, .inl (fun j => nI (hi5 j)))), (a4, .inl (cA, 16, .inl (fun j => nI (ho5 j))))] := hD
  refine nv_b_ne (x := (srN ed (meN (2 ^ n - 1) n 0) [] 0).isSome) (tgt := 21) hx hb dX_nameAll_8 rfl (fun hc8 => ?_) (fun hc8 => ?_)
  · exact absurd hc8 (by rw [hres]; exact Bool.noConfusion)
  · obtain ⟨sa, hsa⟩ := hE.2.2.2.2.2.2.2.2.1
    exact tx_throw (own := RX) (cls := cISE) (text := "it is no line graph") (names := nmE) (ik := 29) (is := 100) (ic := 33) hx hb hst hown (by decide) (by decide) (txE.words at_ISE hw hE hS.2.1) (txlk hw w1_121 w1_6) hsa hml hl.1 hno hlocks dX_nameAll_11 dX_nameAll_14 dX_nameAll_15 dX_nameAll_17 dX_nameAll_20 (Nat.le_of_ble_eq_true rfl) (Nat.le_of_ble_eq_true rfl) (Nat.le_of_ble_eq_true rfl) (Nat.le_of_ble_eq_true rfl) (fun t hal hz hq => ⟨(txB hS hP hK hD hal hz hq).1, (lo5, hi5, ho5, us5), (txB hS hP hK hD hal hz hq).2⟩) hS.2.2

set_option maxHeartbeats 4000000 in
set_option maxRecDepth 100000 in
theorem cX_ends_y (l : Launch) (D : va_G) (A : Nat → Prop) (h a1 a2 a3 a4 : Nat) (cA : ClassId) (n us : Nat) (nb lo hi ho : Nat → Nat) (ed : Nat → Nat → Nat) (hn : n ≤ 8) (hnb : ∀ v, v < n → nb v < 256)(hed : ∀ v j, v < n → j < v → ed v j = if (nb v).testBit j = true then 1 else 0)(x : List (Nat × Nat × Nat) × Nat) (hres : srN ed (meN (2 ^ n - 1) n 0) [] 0 = some x) : Met l yX_ends (Cond.code yX_ends cX_ends 1 (some FieldType.int) :: bw) (rmL 14) (va_Pc [.ref h] (gW D vwCl A [(h, .inr (0, [.ref a1, .int (nI n), .ref a2, .ref a3, .ref a4, .int (nI us)])), (a1, .inl (cA, 8, .inl (fun j => nI (nb j)))), (a2, .inl (cA, 8, .inl (fun j => nI (lo j)))), (a3, .inl (cA, 8, .inl (fun j => nI (hi j)))), (a4, .inl (cA, 16, .inl (fun j => nI (ho j))))] [(cA, .int)])) (va_Qi (fun r u => r = nI x.2 ∧ u.2.2.2 = x.2 ∧ NM x.1 u.1 u.2.1) (fun u => gW D vwCl A (xW9 h a1 a2 a3 a4 cA n nb u) [(cA, .int)]) A) 0 0 A := by
  refine Met.ofW (cc := cX_ends) (maxL := 1) (ret := (some FieldType.int)) (by decide) rfl ?_
  intro p e s m args below meth c s₁ B9 hml hv9
  obtain ⟨rfl, hP, hK, hD⟩ := hv9
  have hx := B9.exec
  have hb := B9.bytes
  have hr := B9.returns
  have hts := atoms_spec (ws := (Cond.code yX_ends cX_ends 1 (some FieldType.int) :: bw)) B9.pre
  have hw : ∀ w ∈ bw, w.before _ s = true := fun w h => hts w (List.mem_cons_of_mem _ h)
  have hown : s.vm.findClass RX = some m.cls := findClass_of_methodNamed B9.named
  have hlocks := B9.notSynchronized
  have hl := lv_entry ([.ref h]) (n := 1) (Nat.le_of_ble_eq_true rfl)
  rw [lg_entry_eq]
  generalize (lg_sl ([.ref h]) ++ List.replicate (1 - (lg_sl ([.ref h])).length) Slot.unset).toArray = ls at hl ⊢
  have hl : lv_has ls 1 [(0, .ref h)] := hl
  have hS : va_S A s.heap s.heap [] := va_S.rf
  refine lv_aload_n hx hb dX_ends_0 rfl (lv_at hl 0 rfl) ?_
  refine va_callv (va_runV (C := RX) (As := []) (rest := []) ⟨hx, hb, hml, hown, hw⟩ (cX_nameAll_y l D A h a1 a2 a3 a4 cA n us nb lo hi ho ed hn hnb hed x hres) (cwV 0 hw (gV w2_38 w2_40 w0_12 w1_1 w2_41) rfl rfl rfl ⟨rfl, by decide, by decide, by decide +kernel⟩ ⟨Nat.le_of_ble_eq_true rfl, Nat.le_of_ble_eq_true rfl⟩) ⟨gW_blind, va_recv (q0 := 0) (ci := 0) hK hP rfl rfl, gW_at hP hK hD _⟩ rfl rfl hl.1 rfl (lv_room (Nat.le_of_ble_eq_true rfl)) dX_ends_1 ⟨Nat.zero_le _, Nat.zero_le _⟩) hS (fun q _ h => h) (fun q h => h) (fun u9 t9 H locs ht9 hvm9 hpost9 hB9 hz9 hk8 hS => ?_)
  obtain ⟨lo5, hi5, ho5, us5⟩ := u9
  obtain ⟨hP, -, hD⟩ := hB9
  rw [ht9] at hP
  obtain ⟨hus9, hnm9⟩ := hpost9
  have hP : va_P D vwCl [(h, .inr (0, [.ref a1, .int (nI n), .ref a2, .ref a3, .ref a4, .int (nI us5)])), (a1, .inl (cA, 8, .inl (fun j => nI (nb j)))), (a2, .inl (cA, 8, .inl (fun j => nI (lo5 j)))), (a3, .inl (cA, 8, .inl (fun j => nI (hi5 j)))), (a4, .inl (cA, 16, .inl (fun j => nI (ho5 j))))] H := hP
  have hD : va_D A [(h, .inr (0, [.ref a1, .int (nI n), .ref a2, .ref a3, .ref a4, .int (nI us5)])), (a1, .inl (cA, 8, .inl (fun j => nI (nb j)))), (a2, .inl (cA, 8, .inl (fun j => nI (lo5 j)))), (a3, .inl (cA, 8, .inl (fun j => nI (hi5 j)))), (a4, .inl (cA, 16, .inl (fun j => nI (ho5 j))))] := hD
  refine lv_aload_n hx hb dX_ends_4 rfl (lv_at hl 0 rfl) ?_
  refine va_get (D := D) (ci := 0) (v := .int (nI us5)) (C := RX) (T := TX) (N := 6) hx hb hw uX hown hK hP 0 rfl rfl 5 (by decide) (hw _ w1_24) (fun _ h9 => h9) rfl dX_ends_5 ?_
  exact W.iret (v := (nI us5)) hx hb hr (fun t ht hW => ⟨⟨_, (lo5, hi5, ho5, us5), rfl, ⟨congrArg nI hus9, hus9, hnm9⟩, by rw [ht]; exact hP, va_K.moved hW.alike hK, hD⟩, hS.F ht⟩) hS.2.2 dX_ends_8

set_option maxHeartbeats 4000000 in
set_option maxRecDepth 100000 in
theorem cX_low_y (l : Launch) (D : va_G) (A : Nat → Prop) (h a1 a2 a3 a4 : Nat) (cA : ClassId) (n us : Nat) (nb lo hi ho : Nat → Nat) (v : Nat) (ed : Nat → Nat → Nat) (hn : n ≤ 8) (hnb : ∀ v, v < n → nb v < 256)(hed : ∀ v j, v < n → j < v → ed v j = if (nb v).testBit j = true then 1 else 0)(x : List (Nat × Nat × Nat) × Nat) (hres : srN ed (meN (2 ^ n - 1) n 0) [] 0 = some x)(hv : v < n) : Met l yX_low (Cond.code yX_low cX_low 2 (some FieldType.int) :: bw) (rmL 14) (va_Pc [.ref h, .int (nI v)] (gW D vwCl A [(h, .inr (0, [.ref a1, .int (nI n), .ref a2, .ref a3, .ref a4, .int (nI us)])), (a1, .inl (cA, 8, .inl (fun j => nI (nb j)))), (a2, .inl (cA, 8, .inl (fun j => nI (lo j)))), (a3, .inl (cA, 8, .inl (fun j => nI (hi j)))), (a4, .inl (cA, 16, .inl (fun j => nI (ho j))))] [(cA, .int)])) (va_Qi (fun r u => r = nI (u.1 v) ∧ u.2.2.2 = x.2 ∧ NM x.1 u.1 u.2.1) (fun u => gW D vwCl A (xW9 h a1 a2 a3 a4 cA n nb u) [(cA, .int)]) A) 0 0 A := by
  refine Met.ofW (cc := cX_low) (maxL := 2) (ret := (some FieldType.int)) (by decide) rfl ?_
  intro p e s m args below meth c s₁ B9 hml hv9
  obtain ⟨rfl, hP, hK, hD⟩ := hv9
  have hx := B9.exec
  have hb := B9.bytes
  have hr := B9.returns
  have hts := atoms_spec (ws := (Cond.code yX_low cX_low 2 (some FieldType.int) :: bw)) B9.pre
  have hw : ∀ w ∈ bw, w.before _ s = true := fun w h => hts w (List.mem_cons_of_mem _ h)
  have hown : s.vm.findClass RX = some m.cls := findClass_of_methodNamed B9.named
  have hlocks := B9.notSynchronized
  have hl := lv_entry ([.ref h, .int (nI v)]) (n := 2) (Nat.le_of_ble_eq_true rfl)
  rw [lg_entry_eq]
  generalize (lg_sl ([.ref h, .int (nI v)]) ++ List.replicate (2 - (lg_sl ([.ref h, .int (nI v)])).length) Slot.unset).toArray = ls at hl ⊢
  have hl : lv_has ls 2 [(0, .ref h), (1, .int (nI v))] := hl
  have hS : va_S A s.heap s.heap [] := va_S.rf
  refine lv_aload_n hx hb dX_low_0 rfl (lv_at hl 0 rfl) ?_
  refine lv_iload_n hx hb dX_low_1 rfl (lv_at hl 1 rfl) ?_
  refine nr_V0 (b := h) (As := [.int (nI v)]) (C := RX) (rest := []) ⟨hx, hb, hml, hown, hw⟩ (cX_checkVertex_y l D A h a1 a2 a3 a4 cA n us nb lo hi ho v hn hv) (cwV 1 hw (gV w1_210 w1_212 w0_11 w1_1 w1_213) rfl rfl rfl ⟨rfl, by decide, by decide, by decide +kernel⟩ ⟨Nat.le_of_ble_eq_true rfl, Nat.le_of_ble_eq_true rfl⟩) gB_blind (va_recv (q0 := 0) (ci := 0) hK hP rfl rfl) (gB_at hP hK _) rfl hl.1 rfl (Nat.le_of_ble_eq_true rfl) dX_low_2 ⟨Nat.zero_le _, Nat.zero_le _⟩ ?_
  refine lv_aload_n hx hb dX_low_5 rfl (lv_at hl 0 rfl) ?_
  refine va_callv (va_runV (C := RX) (As := []) (rest := []) ⟨hx, hb, hml, hown, hw⟩ (cX_nameAll_y l D A h a1 a2 a3 a4 cA n us nb lo hi ho ed hn hnb hed x hres) (cwV 0 hw (gV w2_38 w2_40 w0_12 w1_1 w2_41) rfl rfl rfl ⟨rfl, by decide, by decide, by decide +kernel⟩ ⟨Nat.le_of_ble_eq_true rfl, Nat.le_of_ble_eq_true rfl⟩) ⟨gW_blind, va_recv (q0 := 0) (ci := 0) hK hP rfl rfl, gW_at hP hK hD _⟩ rfl rfl hl.1 rfl (lv_room (Nat.le_of_ble_eq_true rfl)) dX_low_6 ⟨Nat.zero_le _, Nat.zero_le _⟩) hS (fun q _ h => h) (fun q h => h) (fun u9 t9 H locs ht9 hvm9 hpost9 hB9 hz9 hk8 hS => ?_)
  obtain ⟨lo5, hi5, ho5, us5⟩ := u9
  obtain ⟨hP, -, hD⟩ := hB9
  rw [ht9] at hP
  obtain ⟨hus9, hnm9⟩ := hpost9
  have hP : va_P D vwCl [(h, .inr (0, [.ref a1, .int (nI n), .ref a2, .ref a3, .ref a4, .int (nI us5)])), (a1, .inl (cA, 8, .inl (fun j => nI (nb j)))), (a2, .inl (cA, 8, .inl (fun j => nI (lo5 j)))), (a3, .inl (cA, 8, .inl (fun j => nI (hi5 j)))), (a4, .inl (cA, 16, .inl (fun j => nI (ho5 j))))] H := hP
  have hD : va_D A [(h, .inr (0, [.ref a1, .int (nI n), .ref a2, .ref a3, .ref a4, .int (nI us5)])), (a1, .inl (cA, 8, .inl (fun j => nI (nb j)))), (a2, .inl (cA, 8, .inl (fun j => nI (lo5 j)))), (a3, .inl (cA, 8, .inl (fun j => nI (hi5 j)))), (a4, .inl (cA, 16, .inl (fun j => nI (ho5 j))))] := hD
  refine lv_aload_n hx hb dX_low_9 rfl (lv_at hl 0 rfl) ?_
  refine va_get (D := D) (ci := 0) (v := .ref a2) (C := RX) (T := TX) (N := 6) hx hb hw uX hown hK hP 0 rfl rfl 2 (by decide) (hw _ w1_21) (fun _ h9 => h9) rfl dX_low_10 ?_
  refine lv_iload_n hx hb dX_low_13 rfl (lv_at hl 1 rfl) ?_
  refine nv_iald (i := v) (f := lo5) hx hb hK hP 2 0 rfl rfl (by omega) (by omega) dX_low_14 ?_
  exact W.iret (v := (nI (lo5 v))) hx hb hr (fun t ht hW => ⟨⟨_, (lo5, hi5, ho5, us5), rfl, ⟨rfl, hus9, hnm9⟩, by rw [ht]; exact hP, va_K.moved hW.alike hK, hD⟩, hS.F ht⟩) hS.2.2 dX_low_15

set_option maxHeartbeats 4000000 in
set_option maxRecDepth 100000 in
theorem cX_low_n2 (l : Launch) (D : va_G) (A : Nat → Prop) (h a1 a2 a3 a4 : Nat) (cA : ClassId) (n us : Nat) (nb lo hi ho : Nat → Nat) (v : Nat) (ed : Nat → Nat → Nat) (hst : l.stackTraces = false) (hn : n ≤ 8) (hnb : ∀ v, v < n → nb v < 256)(hed : ∀ v j, v < n → j < v → ed v j = if (nb v).testBit j = true then 1 else 0)(hres : srN ed (meN (2 ^ n - 1) n 0) [] 0 = none)(hv : v < n) : MetT l yX_low (Cond.code yX_low cX_low 2 (some FieldType.int) :: bw) (rmT 15) (va_Pc [.ref h, .int (nI v)] (gE D vwCl A [(h, .inr (0, [.ref a1, .int (nI n), .ref a2, .ref a3, .ref a4, .int (nI us)])), (a1, .inl (cA, 8, .inl (fun j => nI (nb j)))), (a2, .inl (cA, 8, .inl (fun j => nI (lo j)))), (a3, .inl (cA, 8, .inl (fun j => nI (hi j)))), (a4, .inl (cA, 16, .inl (fun j => nI (ho j))))] [(cA, .int)])) cISE (fun st t => va_F A st t ∧ (fun t => ∃ u, gW D vwCl A (xW9 h a1 a2 a3 a4 cA n nb u) [(cA, .int)] t) t) 1 6 A := by
  refine tx_ofW (cc := cX_low) (maxL := 2) (ret := (some FieldType.int)) (by decide) rfl ?_
  intro p e s m args below meth c s₁ B9 hml hv9
  obtain ⟨rfl, ⟨hP, hK, hD⟩, hE⟩ := hv9
  have hx := B9.exec
  have hb := B9.bytes
  have hr := B9.returns
  have hts := atoms_spec (ws := (Cond.code yX_low cX_low 2 (some FieldType.int) :: bw)) B9.pre
  have hw : ∀ w ∈ bw, w.before _ s = true := fun w h => hts w (List.mem_cons_of_mem _ h)
  have hown : s.vm.findClass RX = some m.cls := findClass_of_methodNamed B9.named
  have hlocks := B9.notSynchronized
  have hl := lv_entry ([.ref h, .int (nI v)]) (n := 2) (Nat.le_of_ble_eq_true rfl)
  rw [lg_entry_eq]
  generalize (lg_sl ([.ref h, .int (nI v)]) ++ List.replicate (2 - (lg_sl ([.ref h, .int (nI v)])).length) Slot.unset).toArray = ls at hl ⊢
  have hl : lv_has ls 2 [(0, .ref h), (1, .int (nI v))] := hl
  have hno := B9.noHandlers (hts _ List.mem_cons_self)
  have hS : va_S A s.heap s.heap [] := va_S.rf
  refine lv_aload_n hx hb dX_low_0 rfl (lv_at hl 0 rfl) ?_
  refine lv_iload_n hx hb dX_low_1 rfl (lv_at hl 1 rfl) ?_
  refine nr_V0 (b := h) (As := [.int (nI v)]) (C := RX) (rest := []) ⟨hx, hb, hml, hown, hw⟩ (cX_checkVertex_y l D A h a1 a2 a3 a4 cA n us nb lo hi ho v hn hv) (cwV 1 hw (gV w1_210 w1_212 w0_11 w1_1 w1_213) rfl rfl rfl ⟨rfl, by decide, by decide, by decide +kernel⟩ ⟨Nat.le_of_ble_eq_true rfl, Nat.le_of_ble_eq_true rfl⟩) gB_blind (va_recv (q0 := 0) (ci := 0) hK hP rfl rfl) (gB_at hP hK _) rfl hl.1 rfl (Nat.le_of_ble_eq_true rfl) dX_low_2 ⟨Nat.zero_le _, Nat.zero_le _⟩ ?_
  refine lv_aload_n hx hb dX_low_5 rfl (lv_at hl 0 rfl) ?_
  exact tx_pass (C := RX) (As := []) (rest := []) ⟨hx, hb, hml, hown, hw⟩ (cX_nameAll_n l D A h a1 a2 a3 a4 cA n us nb lo hi ho ed hst hn hnb hed hres) (cwV 0 hw (gV w2_38 w2_40 w0_12 w1_1 w2_41) rfl rfl rfl ⟨rfl, by decide, by decide, by decide +kernel⟩ ⟨Nat.le_of_ble_eq_true rfl, Nat.le_of_ble_eq_true rfl⟩) ⟨gE_blind, va_recv (q0 := 0) (ci := 0) hK hP rfl rfl, gE_at hP hK hD hE _⟩ rfl hl.1 rfl (Nat.le_of_ble_eq_true rfl) dX_low_6 ⟨Nat.le_refl _, Nat.le_refl _⟩ hno hlocks (fun st t t' h1 h2 h3 h4 h5 => ⟨txF hS h1 h2 h5.1, h5.2.elim fun u hu => ⟨u, gW_mv h2 h4 hu⟩⟩) (fun q h => h) hS.2.2

set_option maxHeartbeats 4000000 in
set_option maxRecDepth 100000 in
theorem cX_high_y (l : Launch) (D : va_G) (A : Nat → Prop) (h a1 a2 a3 a4 : Nat) (cA : ClassId) (n us : Nat) (nb lo hi ho : Nat → Nat) (v : Nat) (ed : Nat → Nat → Nat) (hn : n ≤ 8) (hnb : ∀ v, v < n → nb v < 256)(hed : ∀ v j, v < n → j < v → ed v j = if (nb v).testBit j = true then 1 else 0)(x : List (Nat × Nat × Nat) × Nat) (hres : srN ed (meN (2 ^ n - 1) n 0) [] 0 = some x)(hv : v < n) : Met l yX_high (Cond.code yX_high cX_high 2 (some FieldType.int) :: bw) (rmL 14) (va_Pc [.ref h, .int (nI v)] (gW D vwCl A [(h, .inr (0, [.ref a1, .int (nI n), .ref a2, .ref a3, .ref a4, .int (nI us)])), (a1, .inl (cA, 8, .inl (fun j => nI (nb j)))), (a2, .inl (cA, 8, .inl (fun j => nI (lo j)))), (a3, .inl (cA, 8, .inl (fun j => nI (hi j)))), (a4, .inl (cA, 16, .inl (fun j => nI (ho j))))] [(cA, .int)])) (va_Qi (fun r u => r = nI (u.2.1 v) ∧ u.2.2.2 = x.2 ∧ NM x.1 u.1 u.2.1) (fun u => gW D vwCl A (xW9 h a1 a2 a3 a4 cA n nb u) [(cA, .int)]) A) 0 0 A := by
  refine Met.ofW (cc := cX_high) (maxL := 2) (ret := (some FieldType.int)) (by decide) rfl ?_
  intro p e s m args below meth c s₁ B9 hml hv9
  obtain ⟨rfl, hP, hK, hD⟩ := hv9
  have hx := B9.exec
  have hb := B9.bytes
  have hr := B9.returns
  have hts := atoms_spec (ws := (Cond.code yX_high cX_high 2 (some FieldType.int) :: bw)) B9.pre
  have hw : ∀ w ∈ bw, w.before _ s = true := fun w h => hts w (List.mem_cons_of_mem _ h)
  have hown : s.vm.findClass RX = some m.cls := findClass_of_methodNamed B9.named
  have hlocks := B9.notSynchronized
  have hl := lv_entry ([.ref h, .int (nI v)]) (n := 2) (Nat.le_of_ble_eq_true rfl)
  rw [lg_entry_eq]
  generalize (lg_sl ([.ref h, .int (nI v)]) ++ List.replicate (2 - (lg_sl ([.ref h, .int (nI v)])).length) Slot.unset).toArray = ls at hl ⊢
  have hl : lv_has ls 2 [(0, .ref h), (1, .int (nI v))] := hl
  have hS : va_S A s.heap s.heap [] := va_S.rf
  refine lv_aload_n hx hb dX_high_0 rfl (lv_at hl 0 rfl) ?_
  refine lv_iload_n hx hb dX_high_1 rfl (lv_at hl 1 rfl) ?_
  refine nr_V0 (b := h) (As := [.int (nI v)]) (C := RX) (rest := []) ⟨hx, hb, hml, hown, hw⟩ (cX_checkVertex_y l D A h a1 a2 a3 a4 cA n us nb lo hi ho v hn hv) (cwV 1 hw (gV w1_210 w1_212 w0_11 w1_1 w1_213) rfl rfl rfl ⟨rfl, by decide, by decide, by decide +kernel⟩ ⟨Nat.le_of_ble_eq_true rfl, Nat.le_of_ble_eq_true rfl⟩) gB_blind (va_recv (q0 := 0) (ci := 0) hK hP rfl rfl) (gB_at hP hK _) rfl hl.1 rfl (Nat.le_of_ble_eq_true rfl) dX_high_2 ⟨Nat.zero_le _, Nat.zero_le _⟩ ?_
  refine lv_aload_n hx hb dX_high_5 rfl (lv_at hl 0 rfl) ?_
  refine va_callv (va_runV (C := RX) (As := []) (rest := []) ⟨hx, hb, hml, hown, hw⟩ (cX_nameAll_y l D A h a1 a2 a3 a4 cA n us nb lo hi ho ed hn hnb hed x hres) (cwV 0 hw (gV w2_38 w2_40 w0_12 w1_1 w2_41) rfl rfl rfl ⟨rfl, by decide, by decide, by decide +kernel⟩ ⟨Nat.le_of_ble_eq_true rfl, Nat.le_of_ble_eq_true rfl⟩) ⟨gW_blind, va_recv (q0 := 0) (ci := 0) hK hP rfl rfl, gW_at hP hK hD _⟩ rfl rfl hl.1 rfl (lv_room (Nat.le_of_ble_eq_true rfl)) dX_high_6 ⟨Nat.zero_le _, Nat.zero_le _⟩) hS (fun q _ h => h) (fun q h => h) (fun u9 t9 H locs ht9 hvm9 hpost9 hB9 hz9 hk8 hS => ?_)
  obtain ⟨lo5, hi5, ho5, us5⟩ := u9
  obtain ⟨hP, -, hD⟩ := hB9
  rw [ht9] at hP
  obtain ⟨hus9, hnm9⟩ := hpost9
  have hP : va_P D vwCl [(h, .inr (0, [.ref a1, .int (nI n), .ref a2, .ref a3, .ref a4, .int (nI us5)])), (a1, .inl (cA, 8, .inl (fun j => nI (nb j)))), (a2, .inl (cA, 8, .inl (fun j => nI (lo5 j)))), (a3, .inl (cA, 8, .inl (fun j => nI (hi5 j)))), (a4, .inl (cA, 16, .inl (fun j => nI (ho5 j))))] H := hP
  have hD : va_D A [(h, .inr (0, [.ref a1, .int (nI n), .ref a2, .ref a3, .ref a4, .int (nI us5)])), (a1, .inl (cA, 8, .inl (fun j => nI (nb j)))), (a2, .inl (cA, 8, .inl (fun j => nI (lo5 j)))), (a3, .inl (cA, 8, .inl (fun j => nI (hi5 j)))), (a4, .inl (cA, 16, .inl (fun j => nI (ho5 j))))] := hD
  refine lv_aload_n hx hb dX_high_9 rfl (lv_at hl 0 rfl) ?_
  refine va_get (D := D) (ci := 0) (v := .ref a3) (C := RX) (T := TX) (N := 6) hx hb hw uX hown hK hP 0 rfl rfl 3 (by decide) (hw _ w1_22) (fun _ h9 => h9) rfl dX_high_10 ?_
  refine lv_iload_n hx hb dX_high_13 rfl (lv_at hl 1 rfl) ?_
  refine nv_iald (i := v) (f := hi5) hx hb hK hP 3 0 rfl rfl (by omega) (by omega) dX_high_14 ?_
  exact W.iret (v := (nI (hi5 v))) hx hb hr (fun t ht hW => ⟨⟨_, (lo5, hi5, ho5, us5), rfl, ⟨rfl, hus9, hnm9⟩, by rw [ht]; exact hP, va_K.moved hW.alike hK, hD⟩, hS.F ht⟩) hS.2.2 dX_high_15

set_option maxHeartbeats 4000000 in
set_option maxRecDepth 100000 in
theorem cX_high_n2 (l : Launch) (D : va_G) (A : Nat → Prop) (h a1 a2 a3 a4 : Nat) (cA : ClassId) (n us : Nat) (nb lo hi ho : Nat → Nat) (v : Nat) (ed : Nat → Nat → Nat) (hst : l.stackTraces = false) (hn : n ≤ 8) (hnb : ∀ v, v < n → nb v < 256)(hed : ∀ v j, v < n → j < v → ed v j = if (nb v).testBit j = true then 1 else 0)(hres : srN ed (meN (2 ^ n - 1) n 0) [] 0 = none)(hv : v < n) : MetT l yX_high (Cond.code yX_high cX_high 2 (some FieldType.int) :: bw) (rmT 15) (va_Pc [.ref h, .int (nI v)] (gE D vwCl A [(h, .inr (0, [.ref a1, .int (nI n), .ref a2, .ref a3, .ref a4, .int (nI us)])), (a1, .inl (cA, 8, .inl (fun j => nI (nb j)))), (a2, .inl (cA, 8, .inl (fun j => nI (lo j)))), (a3, .inl (cA, 8, .inl (fun j => nI (hi j)))), (a4, .inl (cA, 16, .inl (fun j => nI (ho j))))] [(cA, .int)])) cISE (fun st t => va_F A st t ∧ (fun t => ∃ u, gW D vwCl A (xW9 h a1 a2 a3 a4 cA n nb u) [(cA, .int)] t) t) 1 6 A := by
  refine tx_ofW (cc := cX_high) (maxL := 2) (ret := (some FieldType.int)) (by decide) rfl ?_
  intro p e s m args below meth c s₁ B9 hml hv9
  obtain ⟨rfl, ⟨hP, hK, hD⟩, hE⟩ := hv9
  have hx := B9.exec
  have hb := B9.bytes
  have hr := B9.returns
  have hts := atoms_spec (ws := (Cond.code yX_high cX_high 2 (some FieldType.int) :: bw)) B9.pre
  have hw : ∀ w ∈ bw, w.before _ s = true := fun w h => hts w (List.mem_cons_of_mem _ h)
  have hown : s.vm.findClass RX = some m.cls := findClass_of_methodNamed B9.named
  have hlocks := B9.notSynchronized
  have hl := lv_entry ([.ref h, .int (nI v)]) (n := 2) (Nat.le_of_ble_eq_true rfl)
  rw [lg_entry_eq]
  generalize (lg_sl ([.ref h, .int (nI v)]) ++ List.replicate (2 - (lg_sl ([.ref h, .int (nI v)])).length) Slot.unset).toArray = ls at hl ⊢
  have hl : lv_has ls 2 [(0, .ref h), (1, .int (nI v))] := hl
  have hno := B9.noHandlers (hts _ List.mem_cons_self)
  have hS : va_S A s.heap s.heap [] := va_S.rf
  refine lv_aload_n hx hb dX_high_0 rfl (lv_at hl 0 rfl) ?_
  refine lv_iload_n hx hb dX_high_1 rfl (lv_at hl 1 rfl) ?_
  refine nr_V0 (b := h) (As := [.int (nI v)]) (C := RX) (rest := []) ⟨hx, hb, hml, hown, hw⟩ (cX_checkVertex_y l D A h a1 a2 a3 a4 cA n us nb lo hi ho v hn hv) (cwV 1 hw (gV w1_210 w1_212 w0_11 w1_1 w1_213) rfl rfl rfl ⟨rfl, by decide, by decide, by decide +kernel⟩ ⟨Nat.le_of_ble_eq_true rfl, Nat.le_of_ble_eq_true rfl⟩) gB_blind (va_recv (q0 := 0) (ci := 0) hK hP rfl rfl) (gB_at hP hK _) rfl hl.1 rfl (Nat.le_of_ble_eq_true rfl) dX_high_2 ⟨Nat.zero_le _, Nat.zero_le _⟩ ?_
  refine lv_aload_n hx hb dX_high_5 rfl (lv_at hl 0 rfl) ?_
  exact tx_pass (C := RX) (As := []) (rest := []) ⟨hx, hb, hml, hown, hw⟩ (cX_nameAll_n l D A h a1 a2 a3 a4 cA n us nb lo hi ho ed hst hn hnb hed hres) (cwV 0 hw (gV w2_38 w2_40 w0_12 w1_1 w2_41) rfl rfl rfl ⟨rfl, by decide, by decide, by decide +kernel⟩ ⟨Nat.le_of_ble_eq_true rfl, Nat.le_of_ble_eq_true rfl⟩) ⟨gE_blind, va_recv (q0 := 0) (ci := 0) hK hP rfl rfl, gE_at hP hK hD hE _⟩ rfl hl.1 rfl (Nat.le_of_ble_eq_true rfl) dX_high_6 ⟨Nat.le_refl _, Nat.le_refl _⟩ hno hlocks (fun st t t' h1 h2 h3 h4 h5 => ⟨txF hS h1 h2 h5.1, h5.2.elim fun u hu => ⟨u, gW_mv h2 h4 hu⟩⟩) (fun q h => h) hS.2.2

set_option maxHeartbeats 4000000 in
set_option maxRecDepth 100000 in
theorem cX_ends_n (l : Launch) (D : va_G) (A : Nat → Prop) (h a1 a2 a3 a4 : Nat) (cA : ClassId) (n us : Nat) (nb lo hi ho : Nat → Nat) (ed : Nat → Nat → Nat) (hst : l.stackTraces = false) (hn : n ≤ 8) (hnb : ∀ v, v < n → nb v < 256)(hed : ∀ v j, v < n → j < v → ed v j = if (nb v).testBit j = true then 1 else 0)(hres : srN ed (meN (2 ^ n - 1) n 0) [] 0 = none) : MetT l yX_ends (Cond.code yX_ends cX_ends 1 (some FieldType.int) :: bw) (rmT 15) (va_Pc [.ref h] (gE D vwCl A [(h, .inr (0, [.ref a1, .int (nI n), .ref a2, .ref a3, .ref a4, .int (nI us)])), (a1, .inl (cA, 8, .inl (fun j => nI (nb j)))), (a2, .inl (cA, 8, .inl (fun j => nI (lo j)))), (a3, .inl (cA, 8, .inl (fun j => nI (hi j)))), (a4, .inl (cA, 16, .inl (fun j => nI (ho j))))] [(cA, .int)])) cISE (fun st t => va_F A st t ∧ (fun t => ∃ u, gW D vwCl A (xW9 h a1 a2 a3 a4 cA n nb u) [(cA, .int)] t) t) 1 6 A := by
  refine tx_ofW (cc := cX_ends) (maxL := 1) (ret := (some FieldType.int)) (by decide) rfl ?_
  intro p e s m args below meth c s₁ B9 hml hv9
  obtain ⟨rfl, ⟨hP, hK, hD⟩, hE⟩ := hv9
  have hx := B9.exec
  have hb := B9.bytes
  have hr := B9.returns
  have hts := atoms_spec (ws := (Cond.code yX_ends cX_ends 1 (some FieldType.int) :: bw)) B9.pre
  have hw : ∀ w ∈ bw, w.before _ s = true := fun w h => hts w (List.mem_cons_of_mem _ h)
  have hown : s.vm.findClass RX = some m.cls := findClass_of_methodNamed B9.named
  have hlocks := B9.notSynchronized
  have hl := lv_entry ([.ref h]) (n := 1) (Nat.le_of_ble_eq_true rfl)
  rw [lg_entry_eq]
  generalize (lg_sl ([.ref h]) ++ List.replicate (1 - (lg_sl ([.ref h])).length) Slot.unset).toArray = ls at hl ⊢
  have hl : lv_has ls 1 [(0, .ref h)] := hl
  have hno := B9.noHandlers (hts _ List.mem_cons_self)
  have hS : va_S A s.heap s.heap [] := va_S.rf
  refine lv_aload_n hx hb dX_ends_0 rfl (lv_at hl 0 rfl) ?_
  exact tx_pass (C := RX) (As := []) (rest := []) ⟨hx, hb, hml, hown, hw⟩ (cX_nameAll_n l D A h a1 a2 a3 a4 cA n us nb lo hi ho ed hst hn hnb hed hres) (cwV 0 hw (gV w2_38 w2_40 w0_12 w1_1 w2_41) rfl rfl rfl ⟨rfl, by decide, by decide, by decide +kernel⟩ ⟨Nat.le_of_ble_eq_true rfl, Nat.le_of_ble_eq_true rfl⟩) ⟨gE_blind, va_recv (q0 := 0) (ci := 0) hK hP rfl rfl, gE_at hP hK hD hE _⟩ rfl hl.1 rfl (Nat.le_of_ble_eq_true rfl) dX_ends_1 ⟨Nat.le_refl _, Nat.le_refl _⟩ hno hlocks (fun st t t' h1 h2 h3 h4 h5 => ⟨txF hS h1 h2 h5.1, h5.2.elim fun u hu => ⟨u, gW_mv h2 h4 hu⟩⟩) (fun q h => h) hS.2.2

set_option maxHeartbeats 4000000 in
set_option maxRecDepth 100000 in
theorem cX_loose_y (l : Launch) (D : va_G) (A : Nat → Prop) (h a1 a2 a3 a4 : Nat) (cA : ClassId) (n us : Nat) (nb lo hi ho : Nat → Nat) (ed : Nat → Nat → Nat) (hn : n ≤ 8) (hnb : ∀ v, v < n → nb v < 256)(hed : ∀ v j, v < n → j < v → ed v j = if (nb v).testBit j = true then 1 else 0)(x : List (Nat × Nat × Nat) × Nat) (hres : srN ed (meN (2 ^ n - 1) n 0) [] 0 = some x) : Met l yX_loose (Cond.code yX_loose cX_loose 1 (some FieldType.int) :: bw) (rmL 14) (va_Pc [.ref h] (gW D vwCl A [(h, .inr (0, [.ref a1, .int (nI n), .ref a2, .ref a3, .ref a4, .int (nI us)])), (a1, .inl (cA, 8, .inl (fun j => nI (nb j)))), (a2, .inl (cA, 8, .inl (fun j => nI (lo j)))), (a3, .inl (cA, 8, .inl (fun j => nI (hi j)))), (a4, .inl (cA, 16, .inl (fun j => nI (ho j))))] [(cA, .int)])) (va_Qi (fun r u => r = nI (jLo nb u.1 u.2.1 n x.2 (pcN (jBest (jAp nb n) (2 ^ n))) (2 ^ n)) ∧ u.2.2.2 = x.2 ∧ NM x.1 u.1 u.2.1) (fun u => gW D vwCl A (xW9 h a1 a2 a3 a4 cA n nb u) [(cA, .int)]) A) 0 0 A := by
  refine Met.ofW (cc := cX_loose) (maxL := 1) (ret := (some FieldType.int)) (by decide) rfl ?_
  intro p e s m args below meth c s₁ B9 hml hv9
  obtain ⟨rfl, hP, hK, hD⟩ := hv9
  have hx := B9.exec
  have hb := B9.bytes
  have hr := B9.returns
  have hts := atoms_spec (ws := (Cond.code yX_loose cX_loose 1 (some FieldType.int) :: bw)) B9.pre
  have hw : ∀ w ∈ bw, w.before _ s = true := fun w h => hts w (List.mem_cons_of_mem _ h)
  have hown : s.vm.findClass RX = some m.cls := findClass_of_methodNamed B9.named
  have hlocks := B9.notSynchronized
  have hl := lv_entry ([.ref h]) (n := 1) (Nat.le_of_ble_eq_true rfl)
  rw [lg_entry_eq]
  generalize (lg_sl ([.ref h]) ++ List.replicate (1 - (lg_sl ([.ref h])).length) Slot.unset).toArray = ls at hl ⊢
  have hl : lv_has ls 1 [(0, .ref h)] := hl
  have hS : va_S A s.heap s.heap [] := va_S.rf
  refine lv_aload_n hx hb dX_loose_0 rfl (lv_at hl 0 rfl) ?_
  refine va_callv (va_runV (C := RX) (As := []) (rest := []) ⟨hx, hb, hml, hown, hw⟩ (cX_nameAll_y l D A h a1 a2 a3 a4 cA n us nb lo hi ho ed hn hnb hed x hres) (cwV 0 hw (gV w2_38 w2_40 w0_12 w1_1 w2_41) rfl rfl rfl ⟨rfl, by decide, by decide, by decide +kernel⟩ ⟨Nat.le_of_ble_eq_true rfl, Nat.le_of_ble_eq_true rfl⟩) ⟨gW_blind, va_recv (q0 := 0) (ci := 0) hK hP rfl rfl, gW_at hP hK hD _⟩ rfl rfl hl.1 rfl (lv_room (Nat.le_of_ble_eq_true rfl)) dX_loose_1 ⟨Nat.zero_le _, Nat.zero_le _⟩) hS (fun q _ h => h) (fun q h => h) (fun u9 t9 H locs ht9 hvm9 hpost9 hB9 hz9 hk8 hS => ?_)
  obtain ⟨lo5, hi5, ho5, us5⟩ := u9
  obtain ⟨hP, -, hD⟩ := hB9
  rw [ht9] at hP
  obtain ⟨hus9, hnm9⟩ := hpost9
  have hP : va_P D vwCl [(h, .inr (0, [.ref a1, .int (nI n), .ref a2, .ref a3, .ref a4, .int (nI us5)])), (a1, .inl (cA, 8, .inl (fun j => nI (nb j)))), (a2, .inl (cA, 8, .inl (fun j => nI (lo5 j)))), (a3, .inl (cA, 8, .inl (fun j => nI (hi5 j)))), (a4, .inl (cA, 16, .inl (fun j => nI (ho5 j))))] H := hP
  have hD : va_D A [(h, .inr (0, [.ref a1, .int (nI n), .ref a2, .ref a3, .ref a4, .int (nI us5)])), (a1, .inl (cA, 8, .inl (fun j => nI (nb j)))), (a2, .inl (cA, 8, .inl (fun j => nI (lo5 j)))), (a3, .inl (cA, 8, .inl (fun j => nI (hi5 j)))), (a4, .inl (cA, 16, .inl (fun j => nI (ho5 j))))] := hD
  refine lv_aload_n hx hb dX_loose_4 rfl (lv_at hl 0 rfl) ?_
  dsimp only at hus9 hnm9
  subst hus9
  obtain ⟨hu16, hall⟩ := sr_all hn hres hnm9
  have hlh : ∀ v, v < n → lo5 v < 16 ∧ hi5 v < 16 := fun v hv => (hall v hv).1
  refine nr_V (b := h) (As := []) (C := RX) (rest := []) ⟨hx, hb, hml, hown, hw⟩ (cX_looseEnds_c l D A h a1 a2 a3 a4 cA n x.2 nb lo5 hi5 ho5 hn hnb hlh hu16) (cwV 0 hw (gV w2_72 w2_74 w0_13 w1_1 w2_75) rfl rfl rfl ⟨rfl, by decide, by decide, by decide +kernel⟩ ⟨Nat.le_of_ble_eq_true rfl, Nat.le_of_ble_eq_true rfl⟩) gB_blind (va_recv (q0 := 0) (ci := 0) hK hP rfl rfl) (gB_at hP hK _) rfl hl.1 rfl (Nat.le_of_ble_eq_true rfl) dX_loose_5 ⟨Nat.zero_le _, Nat.zero_le _⟩ ?_
  exact W.iret (v := (nI (jLo nb lo5 hi5 n x.2 (pcN (jBest (jAp nb n) (2 ^ n))) (2 ^ n)))) hx hb hr (fun t ht hW => ⟨⟨_, (lo5, hi5, ho5, x.2), rfl, ⟨rfl, rfl, hnm9⟩, by rw [ht]; exact hP, va_K.moved hW.alike hK, hD⟩, hS.F ht⟩) hS.2.2 dX_loose_8

set_option maxHeartbeats 4000000 in
set_option maxRecDepth 100000 in
theorem cX_loose_n (l : Launch) (D : va_G) (A : Nat → Prop) (h a1 a2 a3 a4 : Nat) (cA : ClassId) (n us : Nat) (nb lo hi ho : Nat → Nat) (ed : Nat → Nat → Nat) (hst : l.stackTraces = false) (hn : n ≤ 8) (hnb : ∀ v, v < n → nb v < 256)(hed : ∀ v j, v < n → j < v → ed v j = if (nb v).testBit j = true then 1 else 0)(hres : srN ed (meN (2 ^ n - 1) n 0) [] 0 = none) : MetT l yX_loose (Cond.code yX_loose cX_loose 1 (some FieldType.int) :: bw) (rmT 15) (va_Pc [.ref h] (gE D vwCl A [(h, .inr (0, [.ref a1, .int (nI n), .ref a2, .ref a3, .ref a4, .int (nI us)])), (a1, .inl (cA, 8, .inl (fun j => nI (nb j)))), (a2, .inl (cA, 8, .inl (fun j => nI (lo j)))), (a3, .inl (cA, 8, .inl (fun j => nI (hi j)))), (a4, .inl (cA, 16, .inl (fun j => nI (ho j))))] [(cA, .int)])) cISE (fun st t => va_F A st t ∧ (fun t => ∃ u, gW D vwCl A (xW9 h a1 a2 a3 a4 cA n nb u) [(cA, .int)] t) t) 1 6 A := by
  refine tx_ofW (cc := cX_loose) (maxL := 1) (ret := (some FieldType.int)) (by decide) rfl ?_
  intro p e s m args below meth c s₁ B9 hml hv9
  obtain ⟨rfl, ⟨hP, hK, hD⟩, hE⟩ := hv9
  have hx := B9.exec
  have hb := B9.bytes
  have hr := B9.returns
  have hts := atoms_spec (ws := (Cond.code yX_loose cX_loose 1 (some FieldType.int) :: bw)) B9.pre
  have hw : ∀ w ∈ bw, w.before _ s = true := fun w h => hts w (List.mem_cons_of_mem _ h)
  have hown : s.vm.findClass RX = some m.cls := findClass_of_methodNamed B9.named
  have hlocks := B9.notSynchronized
  have hl := lv_entry ([.ref h]) (n := 1) (Nat.le_of_ble_eq_true rfl)
  rw [lg_entry_eq]
  generalize (lg_sl ([.ref h]) ++ List.replicate (1 - (lg_sl ([.ref h])).length) Slot.unset).toArray = ls at hl ⊢
  have hl : lv_has ls 1 [(0, .ref h)] := hl
  have hno := B9.noHandlers (hts _ List.mem_cons_self)
  have hS : va_S A s.heap s.heap [] := va_S.rf
  refine lv_aload_n hx hb dX_loose_0 rfl (lv_at hl 0 rfl) ?_
  exact tx_pass (C := RX) (As := []) (rest := []) ⟨hx, hb, hml, hown, hw⟩ (cX_nameAll_n l D A h a1 a2 a3 a4 cA n us nb lo hi ho ed hst hn hnb hed hres) (cwV 0 hw (gV w2_38 w2_40 w0_12 w1_1 w2_41) rfl rfl rfl ⟨rfl, by decide, by decide, by decide +kernel⟩ ⟨Nat.le_of_ble_eq_true rfl, Nat.le_of_ble_eq_true rfl⟩) ⟨gE_blind, va_recv (q0 := 0) (ci := 0) hK hP rfl rfl, gE_at hP hK hD hE _⟩ rfl hl.1 rfl (Nat.le_of_ble_eq_true rfl) dX_loose_1 ⟨Nat.le_refl _, Nat.le_refl _⟩ hno hlocks (fun st t t' h1 h2 h3 h4 h5 => ⟨txF hS h1 h2 h5.1, h5.2.elim fun u hu => ⟨u, gW_mv h2 h4 hu⟩⟩) (fun q h => h) hS.2.2

set_option maxHeartbeats 4000000 in
set_option maxRecDepth 100000 in
theorem cX_barrier_n (l : Launch) (D : va_G) (A : Nat → Prop) (h a1 a2 a3 a4 : Nat) (cA : ClassId) (n us : Nat) (nb lo hi ho : Nat → Nat) (ed : Nat → Nat → Nat) (hst : l.stackTraces = false) (hn : n ≤ 8) (hnb : ∀ v, v < n → nb v < 256)(hed : ∀ v j, v < n → j < v → ed v j = if (nb v).testBit j = true then 1 else 0)(hres : srN ed (meN (2 ^ n - 1) n 0) [] 0 = none) : MetT l yX_barrier (Cond.code yX_barrier cX_barrier 5 (some FieldType.int) :: bw) (rmT 15) (va_Pc [.ref h] (gE D vwCl A [(h, .inr (0, [.ref a1, .int (nI n), .ref a2, .ref a3, .ref a4, .int (nI us)])), (a1, .inl (cA, 8, .inl (fun j => nI (nb j)))), (a2, .inl (cA, 8, .inl (fun j => nI (lo j)))), (a3, .inl (cA, 8, .inl (fun j => nI (hi j)))), (a4, .inl (cA, 16, .inl (fun j => nI (ho j))))] [(cA, .int)])) cISE (fun st t => va_F A st t ∧ (fun t => ∃ u, gW D vwCl A (xW9 h a1 a2 a3 a4 cA n nb u) [(cA, .int)] t) t) 1 6 A := by
  refine tx_ofW (cc := cX_barrier) (maxL := 5) (ret := (some FieldType.int)) (by decide) rfl ?_
  intro p e s m args below meth c s₁ B9 hml hv9
  obtain ⟨rfl, ⟨hP, hK, hD⟩, hE⟩ := hv9
  have hx := B9.exec
  have hb := B9.bytes
  have hr := B9.returns
  have hts := atoms_spec (ws := (Cond.code yX_barrier cX_barrier 5 (some FieldType.int) :: bw)) B9.pre
  have hw : ∀ w ∈ bw, w.before _ s = true := fun w h => hts w (List.mem_cons_of_mem _ h)
  have hown : s.vm.findClass RX = some m.cls := findClass_of_methodNamed B9.named
  have hlocks := B9.notSynchronized
  have hl := lv_entry ([.ref h]) (n := 5) (Nat.le_of_ble_eq_true rfl)
  rw [lg_entry_eq]
  generalize (lg_sl ([.ref h]) ++ List.replicate (5 - (lg_sl ([.ref h])).length) Slot.unset).toArray = ls at hl ⊢
  have hl : lv_has ls 5 [(0, .ref h)] := hl
  have hno := B9.noHandlers (hts _ List.mem_cons_self)
  have hS : va_S A s.heap s.heap [] := va_S.rf
  refine lv_aload_n hx hb dX_barrier_0 rfl (lv_at hl 0 rfl) ?_
  exact tx_pass (C := RX) (As := []) (rest := []) ⟨hx, hb, hml, hown, hw⟩ (cX_nameAll_n l D A h a1 a2 a3 a4 cA n us nb lo hi ho ed hst hn hnb hed hres) (cwV 0 hw (gV w2_38 w2_40 w0_12 w1_1 w2_41) rfl rfl rfl ⟨rfl, by decide, by decide, by decide +kernel⟩ ⟨Nat.le_of_ble_eq_true rfl, Nat.le_of_ble_eq_true rfl⟩) ⟨gE_blind, va_recv (q0 := 0) (ci := 0) hK hP rfl rfl, gE_at hP hK hD hE _⟩ rfl hl.1 rfl (Nat.le_of_ble_eq_true rfl) dX_barrier_1 ⟨Nat.le_refl _, Nat.le_refl _⟩ hno hlocks (fun st t t' h1 h2 h3 h4 h5 => ⟨txF hS h1 h2 h5.1, h5.2.elim fun u hu => ⟨u, gW_mv h2 h4 hu⟩⟩) (fun q h => h) hS.2.2

set_option maxHeartbeats 4000000 in
set_option maxRecDepth 100000 in
theorem cX_barrier_y (l : Launch) (D : va_G) (A : Nat → Prop) (h a1 a2 a3 a4 : Nat) (cA : ClassId) (n us : Nat) (nb lo hi ho : Nat → Nat) (ed : Nat → Nat → Nat) (hn : n ≤ 8) (hnb : ∀ v, v < n → nb v < 256)(hed : ∀ v j, v < n → j < v → ed v j = if (nb v).testBit j = true then 1 else 0)(x : List (Nat × Nat × Nat) × Nat) (hres : srN ed (meN (2 ^ n - 1) n 0) [] 0 = some x) : Met l yX_barrier (Cond.code yX_barrier cX_barrier 5 (some FieldType.int) :: bw) (rmL 14) (va_Pc [.ref h] (gW D vwCl A [(h, .inr (0, [.ref a1, .int (nI n), .ref a2, .ref a3, .ref a4, .int (nI us)])), (a1, .inl (cA, 8, .inl (fun j => nI (nb j)))), (a2, .inl (cA, 8, .inl (fun j => nI (lo j)))), (a3, .inl (cA, 8, .inl (fun j => nI (hi j)))), (a4, .inl (cA, 16, .inl (fun j => nI (ho j))))] [(cA, .int)])) (va_Qi (fun r u => r = nI (jBa u.1 u.2.1 (jLo nb u.1 u.2.1 n x.2 (pcN (jBest (jAp nb n) (2 ^ n))) (2 ^ n)) n &&& ntN (jLo nb u.1 u.2.1 n x.2 (pcN (jBest (jAp nb n) (2 ^ n))) (2 ^ n))) ∧ u.2.2.2 = x.2 ∧ NM x.1 u.1 u.2.1) (fun u => gW D vwCl A (xW9 h a1 a2 a3 a4 cA n nb u) [(cA, .int)]) A) 0 0 A := by
  refine Met.ofW (cc := cX_barrier) (maxL := 5) (ret := (some FieldType.int)) (by decide) rfl ?_
  intro p e s m args below meth c s₁ B9 hml hv9
  obtain ⟨rfl, hP, hK, hD⟩ := hv9
  have hx := B9.exec
  have hb := B9.bytes
  have hr := B9.returns
  have hts := atoms_spec (ws := (Cond.code yX_barrier cX_barrier 5 (some FieldType.int) :: bw)) B9.pre
  have hw : ∀ w ∈ bw, w.before _ s = true := fun w h => hts w (List.mem_cons_of_mem _ h)
  have hown : s.vm.findClass RX = some m.cls := findClass_of_methodNamed B9.named
  have hlocks := B9.notSynchronized
  have hl := lv_entry ([.ref h]) (n := 5) (Nat.le_of_ble_eq_true rfl)
  rw [lg_entry_eq]
  generalize (lg_sl ([.ref h]) ++ List.replicate (5 - (lg_sl ([.ref h])).length) Slot.unset).toArray = ls at hl ⊢
  have hl : lv_has ls 5 [(0, .ref h)] := hl
  have hS : va_S A s.heap s.heap [] := va_S.rf
  refine lv_aload_n hx hb dX_barrier_0 rfl (lv_at hl 0 rfl) ?_
  refine va_callv (va_runV (C := RX) (As := []) (rest := []) ⟨hx, hb, hml, hown, hw⟩ (cX_nameAll_y l D A h a1 a2 a3 a4 cA n us nb lo hi ho ed hn hnb hed x hres) (cwV 0 hw (gV w2_38 w2_40 w0_12 w1_1 w2_41) rfl rfl rfl ⟨rfl, by decide, by decide, by decide +kernel⟩ ⟨Nat.le_of_ble_eq_true rfl, Nat.le_of_ble_eq_true rfl⟩) ⟨gW_blind, va_recv (q0 := 0) (ci := 0) hK hP rfl rfl, gW_at hP hK hD _⟩ rfl rfl hl.1 rfl (lv_room (Nat.le_of_ble_eq_true rfl)) dX_barrier_1 ⟨Nat.zero_le _, Nat.zero_le _⟩) hS (fun q _ h => h) (fun q h => h) (fun u9 t9 H locs ht9 hvm9 hpost9 hB9 hz9 hk8 hS => ?_)
  obtain ⟨lo5, hi5, ho5, us5⟩ := u9
  obtain ⟨hP, -, hD⟩ := hB9
  rw [ht9] at hP
  obtain ⟨hus9, hnm9⟩ := hpost9
  have hP : va_P D vwCl [(h, .inr (0, [.ref a1, .int (nI n), .ref a2, .ref a3, .ref a4, .int (nI us5)])), (a1, .inl (cA, 8, .inl (fun j => nI (nb j)))), (a2, .inl (cA, 8, .inl (fun j => nI (lo5 j)))), (a3, .inl (cA, 8, .inl (fun j => nI (hi5 j)))), (a4, .inl (cA, 16, .inl (fun j => nI (ho5 j))))] H := hP
  have hD : va_D A [(h, .inr (0, [.ref a1, .int (nI n), .ref a2, .ref a3, .ref a4, .int (nI us5)])), (a1, .inl (cA, 8, .inl (fun j => nI (nb j)))), (a2, .inl (cA, 8, .inl (fun j => nI (lo5 j)))), (a3, .inl (cA, 8, .inl (fun j => nI (hi5 j)))), (a4, .inl (cA, 16, .inl (fun j => nI (ho5 j))))] := hD
  refine lv_aload_n hx hb dX_barrier_4 rfl (lv_at hl 0 rfl) ?_
  dsimp only at hus9 hnm9
  subst hus9
  obtain ⟨hu16, hall⟩ := sr_all hn hres hnm9
  have hlh : ∀ v, v < n → lo5 v < 16 ∧ hi5 v < 16 := fun v hv => (hall v hv).1
  refine nr_V (b := h) (As := []) (C := RX) (rest := []) ⟨hx, hb, hml, hown, hw⟩ (cX_looseEnds_c l D A h a1 a2 a3 a4 cA n x.2 nb lo5 hi5 ho5 hn hnb hlh hu16) (cwV 0 hw (gV w2_72 w2_74 w0_13 w1_1 w2_75) rfl rfl rfl ⟨rfl, by decide, by decide, by decide +kernel⟩ ⟨Nat.le_of_ble_eq_true rfl, Nat.le_of_ble_eq_true rfl⟩) gB_blind (va_recv (q0 := 0) (ci := 0) hK hP rfl rfl) (gB_at hP hK _) rfl hl.1 rfl (Nat.le_of_ble_eq_true rfl) dX_barrier_5 ⟨Nat.zero_le _, Nat.zero_le _⟩ ?_
  have hll : (jLo nb lo5 hi5 n x.2 (pcN (jBest (jAp nb n) (2 ^ n))) (2 ^ n)) < 65536 := jLo_lt hu16 _
  generalize hge : (jLo nb lo5 hi5 n x.2 (pcN (jBest (jAp nb n) (2 ^ n))) (2 ^ n)) = ll at hll ⊢
  refine lv_istore_n hx hb dX_barrier_8 rfl hl (by decide) (lv' := [(1, .int (nI ll)), (0, .ref h)]) rfl (fun ls hl => ?_)
  refine lv_iconst (v := nI 0) hx hb dX_barrier_9 (by decide) ?_
  refine lv_istore_n hx hb dX_barrier_10 rfl hl (by decide) (lv' := [(2, .int (nI 0)), (1, .int (nI ll)), (0, .ref h)]) rfl (fun ls hl => ?_)
  refine lv_iconst (v := nI 0) hx hb dX_barrier_11 (by decide) ?_
  refine lv_istore_n hx hb dX_barrier_12 rfl hl (by decide) (lv' := [(3, .int (nI 0)), (2, .int (nI 0)), (1, .int (nI ll)), (0, .ref h)]) rfl (fun ls hl => ?_)
  have L13 : ∀ (k9 : Nat) (i : Nat), k9 = n - i → i ≤ n → ∀ (ls : Array Slot), lv_has ls 5 [(3, .int (nI i)), (2, .int (nI (jBa lo5 hi5 ll i))), (1, .int (nI ll)), (0, .ref h)] → ∀ (H : Heap) (locs : List Loc), va_P D vwCl [(h, .inr (0, [.ref a1, .int (nI n), .ref a2, .ref a3, .ref a4, .int (nI x.2)])), (a1, .inl (cA, 8, .inl (fun j => nI (nb j)))), (a2, .inl (cA, 8, .inl (fun j => nI (lo5 j)))), (a3, .inl (cA, 8, .inl (fun j => nI (hi5 j)))), (a4, .inl (cA, 16, .inl (fun j => nI (ho5 j))))] H → va_D A [(h, .inr (0, [.ref a1, .int (nI n), .ref a2, .ref a3, .ref a4, .int (nI x.2)])), (a1, .inl (cA, 8, .inl (fun j => nI (nb j)))), (a2, .inl (cA, 8, .inl (fun j => nI (lo5 j)))), (a3, .inl (cA, 8, .inl (fun j => nI (hi5 j)))), (a4, .inl (cA, 16, .inl (fun j => nI (ho5 j))))] → va_S A s.heap H locs → W p l e (headSpec (Cond.code yX_barrier cX_barrier 5 (some FieldType.int) :: bw) (rmL 14)).room s m ([.ref h] : List Value).toArray below meth c H locs 0 0 (MQ below (va_Qi (fun r u => r = nI (jBa u.1 u.2.1 (jLo nb u.1 u.2.1 n x.2 (pcN (jBest (jAp nb n) (2 ^ n))) (2 ^ n)) n &&& ntN (jLo nb u.1 u.2.1 n x.2 (pcN (jBest (jAp nb n) (2 ^ n))) (2 ^ n))) ∧ u.2.2.2 = x.2 ∧ NM x.1 u.1 u.2.1) (fun u => gW D vwCl A (xW9 h a1 a2 a3 a4 cA n nb u) [(cA, .int)]) A) ([.ref h] : List Value).toArray s 0 0 A) (F0 m 13 ls []) := by
    intro k9
    induction k9 using Nat.strongRecOn with
    | _ k9 ih13 =>
      intro i hk9 hi9 ls hl H locs hP hD hS
      refine lv_iload_n hx hb dX_barrier_13 rfl (lv_at hl 0 rfl) ?_
      refine lv_aload_n hx hb dX_barrier_14 rfl (lv_at hl 3 rfl) ?_
      refine va_get (D := D) (ci := 0) (v := .int (nI n)) (C := RX) (T := TX) (N := 6) hx hb hw uX hown hK hP 0 rfl rfl 1 (by decide) (hw _ w1_20) (fun _ h9 => h9) rfl dX_barrier_15 ?_
      refine nv_icmp_ge (x := i) (y := n) (tgt := 46) hx hb dX_barrier_18 rfl (by omega) (by omega) (fun hc18 => ?_) (fun hc18 => ?_)
      · refine lv_iload_n hx hb dX_barrier_46 rfl (lv_at hl 1 rfl) ?_
        refine lv_iload_n hx hb dX_barrier_47 rfl (lv_at hl 2 rfl) ?_
        refine lv_iconst (v := nI 4294967295) hx hb dX_barrier_48 nb_m1 ?_
        refine nv_ixor (x := ll) (y := 4294967295) hx hb dX_barrier_49 ?_
        refine nv_iand (x := jBa lo5 hi5 ll i) (y := ll ^^^ 4294967295) hx hb dX_barrier_50 ?_
        exact W.iret (v := (nI ((jBa lo5 hi5 ll i) &&& (ll ^^^ 4294967295)))) hx hb hr (fun t ht hW => ⟨⟨_, (lo5, hi5, ho5, x.2), rfl, ⟨by rw [hge, show i = n by omega]; rfl, rfl, hnm9⟩, by rw [ht]; exact hP, va_K.moved hW.alike hK, hD⟩, hS.F ht⟩) hS.2.2 dX_barrier_51
      · refine lv_aload_n hx hb dX_barrier_21 rfl (lv_at hl 3 rfl) ?_
        refine lv_iload_n hx hb dX_barrier_22 rfl (lv_at hl 0 rfl) ?_
        refine nr_V (b := h) (As := [.int (nI i)]) (C := RX) (rest := []) ⟨hx, hb, hml, hown, hw⟩ (cX_pairOf_c l D A h a1 a2 a3 a4 cA n x.2 nb lo5 hi5 ho5 i (by omega) (hlh i hc18).1 (hlh i hc18).2) (cwV 1 hw (gV w2_81 w2_83 w0_15 w1_1 w2_84) rfl rfl rfl ⟨rfl, by decide, by decide, by decide +kernel⟩ ⟨Nat.le_of_ble_eq_true rfl, Nat.le_of_ble_eq_true rfl⟩) gB_blind (va_recv (q0 := 0) (ci := 0) hK hP rfl rfl) (gB_at hP hK _) rfl hl.1 rfl (Nat.le_of_ble_eq_true rfl) dX_barrier_23 ⟨Nat.zero_le _, Nat.zero_le _⟩ ?_
        refine lv_istore hx hb dX_barrier_26 hl (by decide) (lv' := [(4, .int (nI (jPa lo5 hi5 i))), (3, .int (nI i)), (2, .int (nI (jBa lo5 hi5 ll i))), (1, .int (nI ll)), (0, .ref h)]) rfl (fun ls hl => ?_)
        refine lv_iload hx hb dX_barrier_28 (lv_at hl 0 rfl) ?_
        refine lv_iload_n hx hb dX_barrier_30 rfl (lv_at hl 3 rfl) ?_
        refine nv_iand (x := jPa lo5 hi5 i) (y := ll) hx hb dX_barrier_31 ?_
        have hq32 : jPa lo5 hi5 i &&& ll < 2 ^ 32 := and_lt (by have := jPa_lt (hlh i hc18).1 (hlh i hc18).2; omega)
        refine nv_if_eq (x := (jPa lo5 hi5 i) &&& ll) (tgt := 40) hx hb dX_barrier_32 rfl (by omega) (fun hc32 => ?_) (fun hc32 => ?_)
        · refine lv_iinc (k := 1) hx hb dX_barrier_40 hl rfl (nb_inc _) (by decide) (lv' := [(3, .int (nI (i + 1))), (4, .int (nI (jPa lo5 hi5 i))), (2, .int (nI (jBa lo5 hi5 ll i))), (1, .int (nI ll)), (0, .ref h)]) rfl (fun ls hl => ?_)
          refine lv_goto (tgt := 13) hx hb dX_barrier_43 rfl ?_
          have e9 : jBa lo5 hi5 ll (i + 1) = jBa lo5 hi5 ll i := if_pos hc32
          have hl := lv_sub hl (l' := [(3, .int (nI (i + 1))), (2, .int (nI (jBa lo5 hi5 ll i))), (1, .int (nI ll)), (0, .ref h)]) [0, 2, 3, 4] rfl
          have hl : lv_has ls 5 [(3, .int (nI (i + 1))), (2, .int (nI (jBa lo5 hi5 ll (i + 1)))), (1, .int (nI ll)), (0, .ref h)] := by rw [e9]; exact hl
          exact ih13 _ (by omega) (i + 1) rfl (by omega) ls hl _ _ hP hD hS
        · refine lv_iload_n hx hb dX_barrier_35 rfl (lv_at hl 2 rfl) ?_
          refine lv_iload hx hb dX_barrier_36 (lv_at hl 0 rfl) ?_
          refine nv_ior (x := jBa lo5 hi5 ll i) (y := jPa lo5 hi5 i) hx hb dX_barrier_38 ?_
          refine lv_istore_n hx hb dX_barrier_39 rfl hl (by decide) (lv' := [(2, .int (nI ((jBa lo5 hi5 ll i) ||| (jPa lo5 hi5 i)))), (4, .int (nI (jPa lo5 hi5 i))), (3, .int (nI i)), (1, .int (nI ll)), (0, .ref h)]) rfl (fun ls hl => ?_)
          refine lv_iinc (k := 2) hx hb dX_barrier_40 hl rfl (nb_inc _) (by decide) (lv' := [(3, .int (nI (i + 1))), (2, .int (nI ((jBa lo5 hi5 ll i) ||| (jPa lo5 hi5 i)))), (4, .int (nI (jPa lo5 hi5 i))), (1, .int (nI ll)), (0, .ref h)]) rfl (fun ls hl => ?_)
          refine lv_goto (tgt := 13) hx hb dX_barrier_43 rfl ?_
          have e9 : jBa lo5 hi5 ll (i + 1) = jBa lo5 hi5 ll i ||| jPa lo5 hi5 i := if_neg hc32
          have hl := lv_sub hl (l' := [(3, .int (nI (i + 1))), (2, .int (nI ((jBa lo5 hi5 ll i) ||| (jPa lo5 hi5 i)))), (1, .int (nI ll)), (0, .ref h)]) [0, 1, 3, 4] rfl
          have hl : lv_has ls 5 [(3, .int (nI (i + 1))), (2, .int (nI (jBa lo5 hi5 ll (i + 1)))), (1, .int (nI ll)), (0, .ref h)] := by rw [e9]; exact hl
          exact ih13 _ (by omega) (i + 1) rfl (by omega) ls hl _ _ hP hD hS
  exact L13 _ 0 rfl (Nat.zero_le _) ls hl _ _ hP hD hS

set_option maxHeartbeats 4000000 in
set_option maxRecDepth 100000 in
theorem cX_spoiler_n (l : Launch) (D : va_G) (A : Nat → Prop) (h a1 a2 a3 a4 : Nat) (cA : ClassId) (n us : Nat) (nb lo hi ho : Nat → Nat) (ed : Nat → Nat → Nat) (hst : l.stackTraces = false) (hn : n ≤ 8) (hnb : ∀ v, v < n → nb v < 256)(hed : ∀ v j, v < n → j < v → ed v j = if (nb v).testBit j = true then 1 else 0)(x : List (Nat × Nat × Nat) × Nat) (hres : srN ed (meN (2 ^ n - 1) n 0) [] 0 = some x) : MetT l yX_spoiler (Cond.code yX_spoiler cX_spoiler 4 (some FieldType.int) :: bw) (rmT 14) (va_Pc [.ref h] (gE D vwCl A [(h, .inr (0, [.ref a1, .int (nI n), .ref a2, .ref a3, .ref a4, .int (nI us)])), (a1, .inl (cA, 8, .inl (fun j => nI (nb j)))), (a2, .inl (cA, 8, .inl (fun j => nI (lo j)))), (a3, .inl (cA, 8, .inl (fun j => nI (hi j)))), (a4, .inl (cA, 16, .inl (fun j => nI (ho j))))] [(cA, .int)])) cISE (fun st t => va_F A st t ∧ (fun t => ∃ u, gW D vwCl A (xW9 h a1 a2 a3 a4 cA n nb u) [(cA, .int)] t) t) 1 6 A := by
  refine tx_ofW (cc := cX_spoiler) (maxL := 4) (ret := (some FieldType.int)) (by decide) rfl ?_
  intro p e s m args below meth c s₁ B9 hml hv9
  obtain ⟨rfl, ⟨hP, hK, hD⟩, hE⟩ := hv9
  have hx := B9.exec
  have hb := B9.bytes
  have hr := B9.returns
  have hts := atoms_spec (ws := (Cond.code yX_spoiler cX_spoiler 4 (some FieldType.int) :: bw)) B9.pre
  have hw : ∀ w ∈ bw, w.before _ s = true := fun w h => hts w (List.mem_cons_of_mem _ h)
  have hown : s.vm.findClass RX = some m.cls := findClass_of_methodNamed B9.named
  have hlocks := B9.notSynchronized
  have hl := lv_entry ([.ref h]) (n := 4) (Nat.le_of_ble_eq_true rfl)
  rw [lg_entry_eq]
  generalize (lg_sl ([.ref h]) ++ List.replicate (4 - (lg_sl ([.ref h])).length) Slot.unset).toArray = ls at hl ⊢
  have hl : lv_has ls 4 [(0, .ref h)] := hl
  have hno := B9.noHandlers (hts _ List.mem_cons_self)
  have hS : va_S A s.heap s.heap [] := va_S.rf
  have hp := pw_8 hn
  have hp0 := Nat.two_pow_pos n
  refine lv_aload_n hx hb dX_spoiler_0 rfl (lv_at hl 0 rfl) ?_
  refine nr_V (b := h) (As := []) (C := RX) (rest := []) ⟨hx, hb, hml, hown, hw⟩ (cX_all_c l D A h a1 a2 a3 a4 cA n us nb lo hi ho (by omega)) (cwV 0 hw (gV w1_57 w1_59 w0_0 w1_1 w1_60) rfl rfl rfl ⟨rfl, by decide, by decide, by decide +kernel⟩ ⟨Nat.le_of_ble_eq_true rfl, Nat.le_of_ble_eq_true rfl⟩) gB_blind (va_recv (q0 := 0) (ci := 0) hK hP rfl rfl) (gB_at hP hK _) rfl hl.1 rfl (Nat.le_of_ble_eq_true rfl) dX_spoiler_1 ⟨Nat.zero_le _, Nat.zero_le _⟩ ?_
  refine lv_istore_n hx hb dX_spoiler_4 rfl hl (by decide) (lv' := [(1, .int (nI (2 ^ n - 1))), (0, .ref h)]) rfl (fun ls hl => ?_)
  refine lv_aload_n hx hb dX_spoiler_5 rfl (lv_at hl 1 rfl) ?_
  refine lv_iload_n hx hb dX_spoiler_6 rfl (lv_at hl 0 rfl) ?_
  refine va_calli (va_runV (C := RX) (As := [.int (nI (2 ^ n - 1))]) (rest := []) ⟨hx, hb, hml, hown, hw⟩ (cX_findNaming_c l D A h a1 a2 a3 a4 cA n us nb lo hi ho (2 ^ n - 1) ed hn hnb (by omega) hed) (cwV 1 hw (gV w1_64 w1_66 w0_1 w1_1 w1_67) rfl rfl rfl ⟨rfl, by decide, by decide, by decide +kernel⟩ ⟨Nat.le_of_ble_eq_true rfl, Nat.le_of_ble_eq_true rfl⟩) ⟨gW_blind, va_recv (q0 := 0) (ci := 0) hK hP rfl rfl, gW_at hP hK hD _⟩ rfl rfl hl.1 rfl (lv_room (Nat.le_of_ble_eq_true rfl)) dX_spoiler_7 ⟨Nat.zero_le _, Nat.zero_le _⟩) hS (fun q _ h => h) (fun q h => h) (fun r9 u9 t9 H locs ht9 hvm9 hpost9 hB9 hz9 hk8 hS => ?_)
  obtain ⟨lo5, hi5, ho5, us5⟩ := u9
  obtain ⟨hP, -, hD⟩ := hB9
  rw [ht9] at hP
  obtain ⟨hr9, hyes9⟩ := hpost9
  subst hr9
  have hP : va_P D vwCl [(h, .inr (0, [.ref a1, .int (nI n), .ref a2, .ref a3, .ref a4, .int (nI us5)])), (a1, .inl (cA, 8, .inl (fun j => nI (nb j)))), (a2, .inl (cA, 8, .inl (fun j => nI (lo5 j)))), (a3, .inl (cA, 8, .inl (fun j => nI (hi5 j)))), (a4, .inl (cA, 16, .inl (fun j => nI (ho5 j))))] H := hP
  have hD : va_D A [(h, .inr (0, [.ref a1, .int (nI n), .ref a2, .ref a3, .ref a4, .int (nI us5)])), (a1, .inl (cA, 8, .inl (fun j => nI (nb j)))), (a2, .inl (cA, 8, .inl (fun j => nI (lo5 j)))), (a3, .inl (cA, 8, .inl (fun j => nI (hi5 j)))), (a4, .inl (cA, 16, .inl (fun j => nI (ho5 j))))] := hD
  refine nv_b_eq (x := (srN ed (meN (2 ^ n - 1) n 0) [] 0).isSome) (tgt := 23) hx hb dX_spoiler_10 rfl (fun hc10 => ?_) (fun hc10 => ?_)
  · exact absurd hc10 (by rw [hres]; exact Bool.noConfusion)
  · obtain ⟨sa, hsa⟩ := hE.2.2.2.2.2.2.2.2.2
    exact tx_throw (own := RX) (cls := cISE) (text := "it is a line graph") (names := nmE) (ik := 29) (is := 76) (ic := 33) hx hb hst hown (by decide) (by decide) (txE.words at_ISE hw hE hS.2.1) (txlk hw w1_121 w1_6) hsa hml hl.1 hno hlocks dX_spoiler_13 dX_spoiler_16 dX_spoiler_17 dX_spoiler_19 dX_spoiler_22 (Nat.le_of_ble_eq_true rfl) (Nat.le_of_ble_eq_true rfl) (Nat.le_of_ble_eq_true rfl) (Nat.le_of_ble_eq_true rfl) (fun t hal hz hq => ⟨(txB hS hP hK hD hal hz hq).1, (lo5, hi5, ho5, us5), (txB hS hP hK hD hal hz hq).2⟩) hS.2.2

set_option maxHeartbeats 4000000 in
set_option maxRecDepth 100000 in
theorem cX_spoiler_y (l : Launch) (D : va_G) (A : Nat → Prop) (h a1 a2 a3 a4 : Nat) (cA : ClassId) (n us : Nat) (nb lo hi ho : Nat → Nat) (ed : Nat → Nat → Nat) (hn : n ≤ 8) (hnb : ∀ v, v < n → nb v < 256)(hed : ∀ v j, v < n → j < v → ed v j = if (nb v).testBit j = true then 1 else 0)(hres : srN ed (meN (2 ^ n - 1) n 0) [] 0 = none) : Met l yX_spoiler (Cond.code yX_spoiler cX_spoiler 4 (some FieldType.int) :: bw) (rmL 13) (va_Pc [.ref h] (gW D vwCl A [(h, .inr (0, [.ref a1, .int (nI n), .ref a2, .ref a3, .ref a4, .int (nI us)])), (a1, .inl (cA, 8, .inl (fun j => nI (nb j)))), (a2, .inl (cA, 8, .inl (fun j => nI (lo j)))), (a3, .inl (cA, 8, .inl (fun j => nI (hi j)))), (a4, .inl (cA, 16, .inl (fun j => nI (ho j))))] [(cA, .int)])) (va_Qi (fun r (_ : (Nat → Nat) × (Nat → Nat) × (Nat → Nat) × Nat) => r = nI (jSp (isL ed n) (2 ^ n - 1) n)) (fun u => gW D vwCl A (xW9 h a1 a2 a3 a4 cA n nb u) [(cA, .int)]) A) 0 0 A := by
  refine Met.ofW (cc := cX_spoiler) (maxL := 4) (ret := (some FieldType.int)) (by decide) rfl ?_
  intro p e s m args below meth c s₁ B9 hml hv9
  obtain ⟨rfl, hP, hK, hD⟩ := hv9
  have hx := B9.exec
  have hb := B9.bytes
  have hr := B9.returns
  have hts := atoms_spec (ws := (Cond.code yX_spoiler cX_spoiler 4 (some FieldType.int) :: bw)) B9.pre
  have hw : ∀ w ∈ bw, w.before _ s = true := fun w h => hts w (List.mem_cons_of_mem _ h)
  have hown : s.vm.findClass RX = some m.cls := findClass_of_methodNamed B9.named
  have hlocks := B9.notSynchronized
  have hl := lv_entry ([.ref h]) (n := 4) (Nat.le_of_ble_eq_true rfl)
  rw [lg_entry_eq]
  generalize (lg_sl ([.ref h]) ++ List.replicate (4 - (lg_sl ([.ref h])).length) Slot.unset).toArray = ls at hl ⊢
  have hl : lv_has ls 4 [(0, .ref h)] := hl
  have hS : va_S A s.heap s.heap [] := va_S.rf
  have hp := pw_8 hn
  have hp0 := Nat.two_pow_pos n
  refine lv_aload_n hx hb dX_spoiler_0 rfl (lv_at hl 0 rfl) ?_
  refine nr_V (b := h) (As := []) (C := RX) (rest := []) ⟨hx, hb, hml, hown, hw⟩ (cX_all_c l D A h a1 a2 a3 a4 cA n us nb lo hi ho (by omega)) (cwV 0 hw (gV w1_57 w1_59 w0_0 w1_1 w1_60) rfl rfl rfl ⟨rfl, by decide, by decide, by decide +kernel⟩ ⟨Nat.le_of_ble_eq_true rfl, Nat.le_of_ble_eq_true rfl⟩) gB_blind (va_recv (q0 := 0) (ci := 0) hK hP rfl rfl) (gB_at hP hK _) rfl hl.1 rfl (Nat.le_of_ble_eq_true rfl) dX_spoiler_1 ⟨Nat.zero_le _, Nat.zero_le _⟩ ?_
  refine lv_istore_n hx hb dX_spoiler_4 rfl hl (by decide) (lv' := [(1, .int (nI (2 ^ n - 1))), (0, .ref h)]) rfl (fun ls hl => ?_)
  refine lv_aload_n hx hb dX_spoiler_5 rfl (lv_at hl 1 rfl) ?_
  refine lv_iload_n hx hb dX_spoiler_6 rfl (lv_at hl 0 rfl) ?_
  refine va_calli (va_runV (C := RX) (As := [.int (nI (2 ^ n - 1))]) (rest := []) ⟨hx, hb, hml, hown, hw⟩ (cX_findNaming_c l D A h a1 a2 a3 a4 cA n us nb lo hi ho (2 ^ n - 1) ed hn hnb (by omega) hed) (cwV 1 hw (gV w1_64 w1_66 w0_1 w1_1 w1_67) rfl rfl rfl ⟨rfl, by decide, by decide, by decide +kernel⟩ ⟨Nat.le_of_ble_eq_true rfl, Nat.le_of_ble_eq_true rfl⟩) ⟨gW_blind, va_recv (q0 := 0) (ci := 0) hK hP rfl rfl, gW_at hP hK hD _⟩ rfl rfl hl.1 rfl (lv_room (Nat.le_of_ble_eq_true rfl)) dX_spoiler_7 ⟨Nat.zero_le _, Nat.zero_le _⟩) hS (fun q _ h => h) (fun q h => h) (fun r9 u9 t9 H locs ht9 hvm9 hpost9 hB9 hz9 hk8 hS => ?_)
  obtain ⟨lo5, hi5, ho5, us5⟩ := u9
  obtain ⟨hP, -, hD⟩ := hB9
  rw [ht9] at hP
  obtain ⟨hr9, hyes9⟩ := hpost9
  subst hr9
  have hP : va_P D vwCl [(h, .inr (0, [.ref a1, .int (nI n), .ref a2, .ref a3, .ref a4, .int (nI us5)])), (a1, .inl (cA, 8, .inl (fun j => nI (nb j)))), (a2, .inl (cA, 8, .inl (fun j => nI (lo5 j)))), (a3, .inl (cA, 8, .inl (fun j => nI (hi5 j)))), (a4, .inl (cA, 16, .inl (fun j => nI (ho5 j))))] H := hP
  have hD : va_D A [(h, .inr (0, [.ref a1, .int (nI n), .ref a2, .ref a3, .ref a4, .int (nI us5)])), (a1, .inl (cA, 8, .inl (fun j => nI (nb j)))), (a2, .inl (cA, 8, .inl (fun j => nI (lo5 j)))), (a3, .inl (cA, 8, .inl (fun j => nI (hi5 j)))), (a4, .inl (cA, 16, .inl (fun j => nI (ho5 j))))] := hD
  refine nv_b_eq (x := (srN ed (meN (2 ^ n - 1) n 0) [] 0).isSome) (tgt := 23) hx hb dX_spoiler_10 rfl (fun hc10 => ?_) (fun hc10 => ?_)
  · refine lv_iconst (v := nI 0) hx hb dX_spoiler_23 (by decide) ?_
    refine lv_istore_n hx hb dX_spoiler_24 rfl hl (by decide) (lv' := [(2, .int (nI 0)), (1, .int (nI (2 ^ n - 1))), (0, .ref h)]) rfl (fun ls hl => ?_)
    have L25 : ∀ (k9 : Nat) (i : Nat) (lo1 : Nat → Nat) (hi1 : Nat → Nat) (ho1 : Nat → Nat) (us1 : Nat), k9 = n - i → i ≤ n → ∀ (ls : Array Slot), lv_has ls 4 [(2, .int (nI i)), (1, .int (nI (jSp (isL ed n) (2 ^ n - 1) i))), (0, .ref h)] → ∀ (H : Heap) (locs : List Loc), va_P D vwCl [(h, .inr (0, [.ref a1, .int (nI n), .ref a2, .ref a3, .ref a4, .int (nI us1)])), (a1, .inl (cA, 8, .inl (fun j => nI (nb j)))), (a2, .inl (cA, 8, .inl (fun j => nI (lo1 j)))), (a3, .inl (cA, 8, .inl (fun j => nI (hi1 j)))), (a4, .inl (cA, 16, .inl (fun j => nI (ho1 j))))] H → va_D A [(h, .inr (0, [.ref a1, .int (nI n), .ref a2, .ref a3, .ref a4, .int (nI us1)])), (a1, .inl (cA, 8, .inl (fun j => nI (nb j)))), (a2, .inl (cA, 8, .inl (fun j => nI (lo1 j)))), (a3, .inl (cA, 8, .inl (fun j => nI (hi1 j)))), (a4, .inl (cA, 16, .inl (fun j => nI (ho1 j))))] → va_S A s.heap H locs → W p l e (headSpec (Cond.code yX_spoiler cX_spoiler 4 (some FieldType.int) :: bw) (rmL 13)).room s m ([.ref h] : List Value).toArray below meth c H locs 0 0 (MQ below (va_Qi (fun r (_ : (Nat → Nat) × (Nat → Nat) × (Nat → Nat) × Nat) => r = nI (jSp (isL ed n) (2 ^ n - 1) n)) (fun u => gW D vwCl A (xW9 h a1 a2 a3 a4 cA n nb u) [(cA, .int)]) A) ([.ref h] : List Value).toArray s 0 0 A) (F0 m 25 ls []) := by
      intro k9
      induction k9 using Nat.strongRecOn with
      | _ k9 ih25 =>
        intro i lo1 hi1 ho1 us1 hk9 hi9 ls hl H locs hP hD hS
        refine lv_iload_n hx hb dX_spoiler_25 rfl (lv_at hl 0 rfl) ?_
        refine lv_aload_n hx hb dX_spoiler_26 rfl (lv_at hl 2 rfl) ?_
        refine va_get (D := D) (ci := 0) (v := .int (nI n)) (C := RX) (T := TX) (N := 6) hx hb hw uX hown hK hP 0 rfl rfl 1 (by decide) (hw _ w1_20) (fun _ h9 => h9) rfl dX_spoiler_27 ?_
        refine nv_icmp_ge (x := i) (y := n) (tgt := 58) hx hb dX_spoiler_30 rfl (by omega) (by omega) (fun hc30 => ?_) (fun hc30 => ?_)
        · refine lv_iload_n hx hb dX_spoiler_58 rfl (lv_at hl 1 rfl) ?_
          exact W.iret (v := (nI (jSp (isL ed n) (2 ^ n - 1) i))) hx hb hr (fun t ht hW => ⟨⟨_, (lo1, hi1, ho1, us1), rfl, by rw [show i = n by omega], by rw [ht]; exact hP, va_K.moved hW.alike hK, hD⟩, hS.F ht⟩) hS.2.2 dX_spoiler_59
        · have hq33 := jSp_lt (L := isL ed n) (a := 2 ^ n - 1) (N := 256) (by omega) i
          have hq34 : jSp (isL ed n) (2 ^ n - 1) i &&& (2 ^ i ^^^ 4294967295) < 256 := and_lt hq33
          refine lv_iload_n hx hb dX_spoiler_33 rfl (lv_at hl 1 rfl) ?_
          refine lv_iload_n hx hb dX_spoiler_34 rfl (lv_at hl 0 rfl) ?_
          refine nr_S (As := [.int (nI i)]) (rest := [.int (nI (jSp (isL ed n) (2 ^ n - 1) i))]) ⟨hx, hb, hml, hown, hw⟩ (cX_only_c l i (by omega)) (va_cwS 1 hw (gS2 w1_61 w1_62 w1_1 w1_63) rfl rfl rfl ⟨by decide, by decide, by decide +kernel⟩ ⟨Nat.le_of_ble_eq_true rfl, Nat.le_of_ble_eq_true rfl⟩) gT_blind (gT_at _) rfl hl.1 rfl (Nat.le_of_ble_eq_true rfl) dX_spoiler_35 ⟨Nat.zero_le _, Nat.zero_le _⟩ ?_
          refine lv_iconst (v := nI 4294967295) hx hb dX_spoiler_38 nb_m1 ?_
          refine nv_ixor (x := 2 ^ i) (y := 4294967295) hx hb dX_spoiler_39 ?_
          refine nv_iand (x := jSp (isL ed n) (2 ^ n - 1) i) (y := (2 ^ i) ^^^ 4294967295) hx hb dX_spoiler_40 ?_
          refine lv_istore_n hx hb dX_spoiler_41 rfl hl (by decide) (lv' := [(3, .int (nI ((jSp (isL ed n) (2 ^ n - 1) i) &&& ((2 ^ i) ^^^ 4294967295)))), (2, .int (nI i)), (1, .int (nI (jSp (isL ed n) (2 ^ n - 1) i))), (0, .ref h)]) rfl (fun ls hl => ?_)
          refine lv_aload_n hx hb dX_spoiler_42 rfl (lv_at hl 3 rfl) ?_
          refine lv_iload_n hx hb dX_spoiler_43 rfl (lv_at hl 0 rfl) ?_
          refine va_calli (va_runV (C := RX) (As := [.int (nI ((jSp (isL ed n) (2 ^ n - 1) i) &&& ((2 ^ i) ^^^ 4294967295)))]) (rest := []) ⟨hx, hb, hml, hown, hw⟩ (cX_findNaming_c l D A h a1 a2 a3 a4 cA n us1 nb lo1 hi1 ho1 ((jSp (isL ed n) (2 ^ n - 1) i) &&& ((2 ^ i) ^^^ 4294967295)) ed hn hnb (by omega) hed) (cwV 1 hw (gV w1_64 w1_66 w0_1 w1_1 w1_67) rfl rfl rfl ⟨rfl, by decide, by decide, by decide +kernel⟩ ⟨Nat.le_of_ble_eq_true rfl, Nat.le_of_ble_eq_true rfl⟩) ⟨gW_blind, va_recv (q0 := 0) (ci := 0) hK hP rfl rfl, gW_at hP hK hD _⟩ rfl rfl hl.1 rfl (lv_room (Nat.le_of_ble_eq_true rfl)) dX_spoiler_44 ⟨Nat.zero_le _, Nat.zero_le _⟩) hS (fun q _ h => h) (fun q h => h) (fun r9 u9 t9 H locs ht9 hvm9 hpost9 hB9 hz9 hk8 hS => ?_)
          obtain ⟨lo6, hi6, ho6, us6⟩ := u9
          obtain ⟨hP, -, hD⟩ := hB9
          rw [ht9] at hP
          obtain ⟨hr9, hyes9⟩ := hpost9
          subst hr9
          have hP : va_P D vwCl [(h, .inr (0, [.ref a1, .int (nI n), .ref a2, .ref a3, .ref a4, .int (nI us6)])), (a1, .inl (cA, 8, .inl (fun j => nI (nb j)))), (a2, .inl (cA, 8, .inl (fun j => nI (lo6 j)))), (a3, .inl (cA, 8, .inl (fun j => nI (hi6 j)))), (a4, .inl (cA, 16, .inl (fun j => nI (ho6 j))))] H := hP
          have hD : va_D A [(h, .inr (0, [.ref a1, .int (nI n), .ref a2, .ref a3, .ref a4, .int (nI us6)])), (a1, .inl (cA, 8, .inl (fun j => nI (nb j)))), (a2, .inl (cA, 8, .inl (fun j => nI (lo6 j)))), (a3, .inl (cA, 8, .inl (fun j => nI (hi6 j)))), (a4, .inl (cA, 16, .inl (fun j => nI (ho6 j))))] := hD
          refine nv_b_ne (x := (srN ed (meN ((jSp (isL ed n) (2 ^ n - 1) i) &&& ((2 ^ i) ^^^ 4294967295)) n 0) [] 0).isSome) (tgt := 52) hx hb dX_spoiler_47 rfl (fun hc47 => ?_) (fun hc47 => ?_)
          · refine lv_iinc (k := 1) hx hb dX_spoiler_52 hl rfl (nb_inc _) (by decide) (lv' := [(2, .int (nI (i + 1))), (3, .int (nI ((jSp (isL ed n) (2 ^ n - 1) i) &&& ((2 ^ i) ^^^ 4294967295)))), (1, .int (nI (jSp (isL ed n) (2 ^ n - 1) i))), (0, .ref h)]) rfl (fun ls hl => ?_)
            refine lv_goto (tgt := 25) hx hb dX_spoiler_55 rfl ?_
            have e9 : jSp (isL ed n) (2 ^ n - 1) (i + 1) = jSp (isL ed n) (2 ^ n - 1) i := if_pos hc47
            have hl := lv_sub hl (l' := [(2, .int (nI (i + 1))), (1, .int (nI (jSp (isL ed n) (2 ^ n - 1) i))), (0, .ref h)]) [0, 2, 3] rfl
            have hl : lv_has ls 4 [(2, .int (nI (i + 1))), (1, .int (nI (jSp (isL ed n) (2 ^ n - 1) (i + 1)))), (0, .ref h)] := by rw [e9]; exact hl
            exact ih25 _ (by omega) (i + 1) lo6 hi6 ho6 us6 rfl (by omega) ls hl _ _ hP hD hS
          · refine lv_iload_n hx hb dX_spoiler_50 rfl (lv_at hl 0 rfl) ?_
            refine lv_istore_n hx hb dX_spoiler_51 rfl hl (by decide) (lv' := [(1, .int (nI ((jSp (isL ed n) (2 ^ n - 1) i) &&& ((2 ^ i) ^^^ 4294967295)))), (3, .int (nI ((jSp (isL ed n) (2 ^ n - 1) i) &&& ((2 ^ i) ^^^ 4294967295)))), (2, .int (nI i)), (0, .ref h)]) rfl (fun ls hl => ?_)
            refine lv_iinc (k := 2) hx hb dX_spoiler_52 hl rfl (nb_inc _) (by decide) (lv' := [(2, .int (nI (i + 1))), (1, .int (nI ((jSp (isL ed n) (2 ^ n - 1) i) &&& ((2 ^ i) ^^^ 4294967295)))), (3, .int (nI ((jSp (isL ed n) (2 ^ n - 1) i) &&& ((2 ^ i) ^^^ 4294967295)))), (0, .ref h)]) rfl (fun ls hl => ?_)
            refine lv_goto (tgt := 25) hx hb dX_spoiler_55 rfl ?_
            have e9 : jSp (isL ed n) (2 ^ n - 1) (i + 1) = jSp (isL ed n) (2 ^ n - 1) i &&& ntN (2 ^ i) := if_neg (fun h9 => Bool.false_ne_true (hc47.symm.trans h9))
            have hl := lv_sub hl (l' := [(2, .int (nI (i + 1))), (1, .int (nI ((jSp (isL ed n) (2 ^ n - 1) i) &&& ((2 ^ i) ^^^ 4294967295)))), (0, .ref h)]) [0, 1, 3] rfl
            have hl : lv_has ls 4 [(2, .int (nI (i + 1))), (1, .int (nI (jSp (isL ed n) (2 ^ n - 1) (i + 1)))), (0, .ref h)] := by rw [e9]; exact hl
            exact ih25 _ (by omega) (i + 1) lo6 hi6 ho6 us6 rfl (by omega) ls hl _ _ hP hD hS
    exact L25 _ 0 lo5 hi5 ho5 us5 rfl (Nat.zero_le _) ls hl _ _ hP hD hS
  · exact absurd hc10 (by rw [hres]; exact Bool.noConfusion)
