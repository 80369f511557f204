theorem jRe_v {nb : Nat → Nat} {n v : Nat} : ∀ k, (jRe nb n v k).testBit v = true
  | 0 => Nat.testBit_two_pow_self
  | k + 1 => by
    show (jRe nb n v k ||| _).testBit v = true
    rw [Nat.testBit_or, jRe_v k]; rfl
theorem jRe_ne {nb : Nat → Nat} {n v : Nat} (k : Nat) : jRe nb n v k ≠ 0 := by
  intro h
  have h1 := jRe_v (nb := nb) (n := n) (v := v) k
  rw [h, Nat.zero_testBit] at h1
  cases h1

set_option maxHeartbeats 4000000 in
set_option maxRecDepth 100000 in
theorem cX_join_c (l : Launch) (D : va_G) (A : Nat → Prop) (h a1 a2 a3 a4 : Nat) (cA : ClassId) (n us : Nat) (nb lo hi ho : Nat → Nat) (u v : Nat) (hn : n ≤ 8) (hnb : ∀ v, v < n → nb v < 256) (hu : u < n) (hv : v < n) (huv : u ≠ v) : Met l yX_join (Cond.code yX_join cX_join 4 (some FieldType.boolean) :: bw) (rmL 3) (va_Pc [.ref h, .int (nI u), .int (nI v)] (gW D vwCl A [(h, .inr (0, [.ref a1, .int (nI n), .ref a2, .ref a3, .ref a4, .int (nI us)])), (a1, .inl (cA, 8, .inl (fun j => nI (nb j)))), (a2, .inl (cA, 8, .inl (fun j => nI (lo j)))), (a3, .inl (cA, 8, .inl (fun j => nI (hi j)))), (a4, .inl (cA, 16, .inl (fun j => nI (ho j))))] [(cA, .int)])) (va_Qi (fun (r9 : Int32) (_ : Unit) => r9 = (bI (!(nb u).testBit v))) (fun _ => gW D vwCl A [(h, .inr (0, [.ref a1, .int (nI n), .ref a2, .ref a3, .ref a4, .int (nI us)])), (a1, .inl (cA, 8, .inl (fun j => nI ((jJo nb u v) j)))), (a2, .inl (cA, 8, .inl (fun j => nI (lo j)))), (a3, .inl (cA, 8, .inl (fun j => nI (hi j)))), (a4, .inl (cA, 16, .inl (fun j => nI (ho j))))] [(cA, .int)]) A) 0 0 A := by
  refine Met.ofW (cc := cX_join) (maxL := 4) (ret := (some FieldType.boolean)) (by decide) rfl ?_
  intro p e s m args below meth c s₁ B9 hml hv
  obtain ⟨rfl, hP, hK, hD⟩ := hv
  have hx := B9.exec
  have hb := B9.bytes
  have hr := B9.returns
  have hts := atoms_spec (ws := (Cond.code yX_join cX_join 4 (some FieldType.boolean) :: bw)) B9.pre
  have hw : ∀ w ∈ bw, w.before _ s = true := fun w h => hts w (List.mem_cons_of_mem _ h)
  have hown : s.vm.findClass RX = some m.cls := findClass_of_methodNamed B9.named
  have hlocks := B9.notSynchronized
  have hl := lv_entry ([.ref h, .int (nI u), .int (nI v)]) (n := 4) (Nat.le_of_ble_eq_true rfl)
  rw [lg_entry_eq]
  generalize (lg_sl ([.ref h, .int (nI u), .int (nI v)]) ++ List.replicate (4 - (lg_sl ([.ref h, .int (nI u), .int (nI v)])).length) Slot.unset).toArray = ls at hl ⊢
  have hl : lv_has ls 4 [(0, .ref h), (1, .int (nI u)), (2, .int (nI v))] := hl
  have hS : va_S A s.heap s.heap [] := va_S.rf
  have hqu := hnb u hu
  have hqv := hnb v hv
  refine lv_aload_n hx hb dX_join_0 rfl (lv_at hl 0 rfl) ?_
  refine lv_iload_n hx hb dX_join_1 rfl (lv_at hl 1 rfl) ?_
  refine lv_iload_n hx hb dX_join_2 rfl (lv_at hl 2 rfl) ?_
  refine nr_V0 (b := h) (As := [.int (nI u), .int (nI v)]) (C := RX) (rest := []) ⟨hx, hb, hml, hown, hw⟩ (cX_checkTwo_y l D A h a1 a2 a3 a4 cA n us nb lo hi ho u v hn hu hv huv) (cwV 2 hw (gV w1_206 w1_208 w0_10 w1_1 w1_209) rfl rfl rfl ⟨rfl, by decide, by decide, by decide +kernel⟩ ⟨Nat.le_of_ble_eq_true rfl, Nat.le_of_ble_eq_true rfl⟩) gB_blind (va_recv (q0 := 0) (ci := 0) hK hP rfl rfl) (gB_at hP hK _) rfl hl.1 rfl (Nat.le_of_ble_eq_true rfl) dX_join_3 ⟨Nat.zero_le _, Nat.zero_le _⟩ ?_
  refine lv_aload_n hx hb dX_join_6 rfl (lv_at hl 0 rfl) ?_
  refine va_get (D := D) (ci := 0) (v := .ref a1) (C := RX) (T := TX) (N := 6) hx hb hw uX hown hK hP 0 rfl rfl 0 (by decide) (hw _ w1_19) (fun _ h9 => h9) rfl dX_join_7 ?_
  refine lv_iload_n hx hb dX_join_10 rfl (lv_at hl 1 rfl) ?_
  refine nv_iald (i := u) (f := nb) hx hb hK hP 1 0 rfl rfl (by omega) (by omega) dX_join_11 ?_
  refine lv_iload_n hx hb dX_join_12 rfl (lv_at hl 2 rfl) ?_
  refine nr_S (As := [.int (nI (nb u)), .int (nI v)]) (rest := []) ⟨hx, hb, hml, hown, hw⟩ (cX_has_c l (nb u) v (by omega) (by omega)) (va_cwS 2 hw (gS2 w1_72 w1_73 w1_1 w1_74) rfl rfl rfl ⟨by decide, by decide, by decide +kernel⟩ ⟨Nat.le_of_ble_eq_true rfl, Nat.le_of_ble_eq_true rfl⟩) gT_blind (gT_at _) rfl hl.1 rfl (Nat.le_of_ble_eq_true rfl) dX_join_13 ⟨Nat.zero_le _, Nat.zero_le _⟩ ?_
  refine nv_b_ne (x := (nb u).testBit v) (tgt := 23) hx hb dX_join_16 rfl (fun hc16 => ?_) (fun hc16 => ?_)
  · refine lv_iconst (v := nI 0) hx hb dX_join_23 (by decide) ?_
    refine lv_istore_n hx hb dX_join_24 rfl hl (by decide) (lv' := [(3, .int (nI 0)), (0, .ref h), (1, .int (nI u)), (2, .int (nI v))]) rfl (fun ls hl => ?_)
    refine lv_aload_n hx hb dX_join_25 rfl (lv_at hl 1 rfl) ?_
    refine va_get (D := D) (ci := 0) (v := .ref a1) (C := RX) (T := TX) (N := 6) hx hb hw uX hown hK hP 0 rfl rfl 0 (by decide) (hw _ w1_19) (fun _ h9 => h9) rfl dX_join_26 ?_
    refine lv_iload_n hx hb dX_join_29 rfl (lv_at hl 2 rfl) ?_
    refine lv_dup2_11 hx hb dX_join_30 rfl rfl ?_
    refine nv_iald (i := u) (f := nb) hx hb hK hP 1 0 rfl rfl (by omega) (by omega) dX_join_31 ?_
    refine lv_iload_n hx hb dX_join_32 rfl (lv_at hl 3 rfl) ?_
    refine nr_S (As := [.int (nI v)]) (rest := [.int (nI (nb u)), .int (nI u), .ref a1]) ⟨hx, hb, hml, hown, hw⟩ (cX_only_c l v (by omega)) (va_cwS 1 hw (gS2 w1_61 w1_62 w1_1 w1_63) rfl rfl rfl ⟨by decide, by decide, by decide +kernel⟩ ⟨Nat.le_of_ble_eq_true rfl, Nat.le_of_ble_eq_true rfl⟩) gT_blind (gT_at _) rfl hl.1 rfl (Nat.le_of_ble_eq_true rfl) dX_join_33 ⟨Nat.zero_le _, Nat.zero_le _⟩ ?_
    refine nv_ior (x := nb u) (y := 2 ^ v) hx hb dX_join_36 ?_
    refine nv_iast (i := u) (x := (nb u) ||| (2 ^ v)) (f := nb) hx hb hK hP hD hS 1 0 rfl rfl (by omega) (by omega) dX_join_37 (fun H locs hP hD hS => ?_)
    have hP : va_P D vwCl [(h, .inr (0, [.ref a1, .int (nI n), .ref a2, .ref a3, .ref a4, .int (nI us)])), (a1, .inl (cA, 8, .inl (fun j => nI ((upN nb u ((nb u) ||| (2 ^ v))) j)))), (a2, .inl (cA, 8, .inl (fun j => nI (lo j)))), (a3, .inl (cA, 8, .inl (fun j => nI (hi j)))), (a4, .inl (cA, 16, .inl (fun j => nI (ho j))))] H := hP
    have hD : va_D A [(h, .inr (0, [.ref a1, .int (nI n), .ref a2, .ref a3, .ref a4, .int (nI us)])), (a1, .inl (cA, 8, .inl (fun j => nI ((upN nb u ((nb u) ||| (2 ^ v))) j)))), (a2, .inl (cA, 8, .inl (fun j => nI (lo j)))), (a3, .inl (cA, 8, .inl (fun j => nI (hi j)))), (a4, .inl (cA, 16, .inl (fun j => nI (ho j))))] := hD
    refine lv_aload_n hx hb dX_join_38 rfl (lv_at hl 1 rfl) ?_
    refine va_get (D := D) (ci := 0) (v := .ref a1) (C := RX) (T := TX) (N := 6) hx hb hw uX hown hK hP 0 rfl rfl 0 (by decide) (hw _ w1_19) (fun _ h9 => h9) rfl dX_join_39 ?_
    refine lv_iload_n hx hb dX_join_42 rfl (lv_at hl 3 rfl) ?_
    refine lv_dup2_11 hx hb dX_join_43 rfl rfl ?_
    refine nv_iald (i := v) (f := upN nb u ((nb u) ||| (2 ^ v))) hx hb hK hP 1 0 rfl rfl (by omega) (by omega) dX_join_44 ?_
    refine lv_iload_n hx hb dX_join_45 rfl (lv_at hl 2 rfl) ?_
    refine nr_S (As := [.int (nI u)]) (rest := [.int (nI ((upN nb u ((nb u) ||| (2 ^ v))) v)), .int (nI v), .ref a1]) ⟨hx, hb, hml, hown, hw⟩ (cX_only_c l u (by omega)) (va_cwS 1 hw (gS2 w1_61 w1_62 w1_1 w1_63) rfl rfl rfl ⟨by decide, by decide, by decide +kernel⟩ ⟨Nat.le_of_ble_eq_true rfl, Nat.le_of_ble_eq_true rfl⟩) gT_blind (gT_at _) rfl hl.1 rfl (Nat.le_of_ble_eq_true rfl) dX_join_46 ⟨Nat.zero_le _, Nat.zero_le _⟩ ?_
    refine nv_ior (x := (upN nb u ((nb u) ||| (2 ^ v))) v) (y := 2 ^ u) hx hb dX_join_49 ?_
    refine nv_iast (i := v) (x := ((upN nb u ((nb u) ||| (2 ^ v))) v) ||| (2 ^ u)) (f := upN nb u ((nb u) ||| (2 ^ v))) hx hb hK hP hD hS 1 0 rfl rfl (by omega) (by omega) dX_join_50 (fun H locs hP hD hS => ?_)
    have hP : va_P D vwCl [(h, .inr (0, [.ref a1, .int (nI n), .ref a2, .ref a3, .ref a4, .int (nI us)])), (a1, .inl (cA, 8, .inl (fun j => nI ((upN (upN nb u ((nb u) ||| (2 ^ v))) v (((upN nb u ((nb u) ||| (2 ^ v))) v) ||| (2 ^ u))) j)))), (a2, .inl (cA, 8, .inl (fun j => nI (lo j)))), (a3, .inl (cA, 8, .inl (fun j => nI (hi j)))), (a4, .inl (cA, 16, .inl (fun j => nI (ho j))))] H := hP
    have hD : va_D A [(h, .inr (0, [.ref a1, .int (nI n), .ref a2, .ref a3, .ref a4, .int (nI us)])), (a1, .inl (cA, 8, .inl (fun j => nI ((upN (upN nb u ((nb u) ||| (2 ^ v))) v (((upN nb u ((nb u) ||| (2 ^ v))) v) ||| (2 ^ u))) j)))), (a2, .inl (cA, 8, .inl (fun j => nI (lo j)))), (a3, .inl (cA, 8, .inl (fun j => nI (hi j)))), (a4, .inl (cA, 16, .inl (fun j => nI (ho j))))] := hD
    refine lv_iload_n hx hb dX_join_51 rfl (lv_at hl 0 rfl) ?_
    exact W.zret (v := (nI 0)) hx hb hr rfl (fun t ht hW => ⟨⟨_, (), rfl, by rw [hc16]; rfl, by rw [ht]; exact hP, va_K.moved hW.alike hK, hD⟩, hS.F ht⟩) hS.2.2 dX_join_52
  · refine lv_iconst (v := nI 1) hx hb dX_join_19 (by decide) ?_
    refine lv_goto (tgt := 24) hx hb dX_join_20 rfl ?_
    refine lv_istore_n hx hb dX_join_24 rfl hl (by decide) (lv' := [(3, .int (nI 1)), (0, .ref h), (1, .int (nI u)), (2, .int (nI v))]) rfl (fun ls hl => ?_)
    refine lv_aload_n hx hb dX_join_25 rfl (lv_at hl 1 rfl) ?_
    refine va_get (D := D) (ci := 0) (v := .ref a1) (C := RX) (T := TX) (N := 6) hx hb hw uX hown hK hP 0 rfl rfl 0 (by decide) (hw _ w1_19) (fun _ h9 => h9) rfl dX_join_26 ?_
    refine lv_iload_n hx hb dX_join_29 rfl (lv_at hl 2 rfl) ?_
    refine lv_dup2_11 hx hb dX_join_30 rfl rfl ?_
    refine nv_iald (i := u) (f := nb) hx hb hK hP 1 0 rfl rfl (by omega) (by omega) dX_join_31 ?_
    refine lv_iload_n hx hb dX_join_32 rfl (lv_at hl 3 rfl) ?_
    refine nr_S (As := [.int (nI v)]) (rest := [.int (nI (nb u)), .int (nI u), .ref a1]) ⟨hx, hb, hml, hown, hw⟩ (cX_only_c l v (by omega)) (va_cwS 1 hw (gS2 w1_61 w1_62 w1_1 w1_63) rfl rfl rfl ⟨by decide, by decide, by decide +kernel⟩ ⟨Nat.le_of_ble_eq_true rfl, Nat.le_of_ble_eq_true rfl⟩) gT_blind (gT_at _) rfl hl.1 rfl (Nat.le_of_ble_eq_true rfl) dX_join_33 ⟨Nat.zero_le _, Nat.zero_le _⟩ ?_
    refine nv_ior (x := nb u) (y := 2 ^ v) hx hb dX_join_36 ?_
    refine nv_iast (i := u) (x := (nb u) ||| (2 ^ v)) (f := nb) hx hb hK hP hD hS 1 0 rfl rfl (by omega) (by omega) dX_join_37 (fun H locs hP hD hS => ?_)
    have hP : va_P D vwCl [(h, .inr (0, [.ref a1, .int (nI n), .ref a2, .ref a3, .ref a4, .int (nI us)])), (a1, .inl (cA, 8, .inl (fun j => nI ((upN nb u ((nb u) ||| (2 ^ v))) j)))), (a2, .inl (cA, 8, .inl (fun j => nI (lo j)))), (a3, .inl (cA, 8, .inl (fun j => nI (hi j)))), (a4, .inl (cA, 16, .inl (fun j => nI (ho j))))] H := hP
    have hD : va_D A [(h, .inr (0, [.ref a1, .int (nI n), .ref a2, .ref a3, .ref a4, .int (nI us)])), (a1, .inl (cA, 8, .inl (fun j => nI ((upN nb u ((nb u) ||| (2 ^ v))) j)))), (a2, .inl (cA, 8, .inl (fun j => nI (lo j)))), (a3, .inl (cA, 8, .inl (fun j => nI (hi j)))), (a4, .inl (cA, 16, .inl (fun j => nI (ho j))))] := hD
    refine lv_aload_n hx hb dX_join_38 rfl (lv_at hl 1 rfl) ?_
    refine va_get (D := D) (ci := 0) (v := .ref a1) (C := RX) (T := TX) (N := 6) hx hb hw uX hown hK hP 0 rfl rfl 0 (by decide) (hw _ w1_19) (fun _ h9 => h9) rfl dX_join_39 ?_
    refine lv_iload_n hx hb dX_join_42 rfl (lv_at hl 3 rfl) ?_
    refine lv_dup2_11 hx hb dX_join_43 rfl rfl ?_
    refine nv_iald (i := v) (f := upN nb u ((nb u) ||| (2 ^ v))) hx hb hK hP 1 0 rfl rfl (by omega) (by omega) dX_join_44 ?_
    refine lv_iload_n hx hb dX_join_45 rfl (lv_at hl 2 rfl) ?_
    refine nr_S (As := [.int (nI u)]) (rest := [.int (nI ((upN nb u ((nb u) ||| (2 ^ v))) v)), .int (nI v), .ref a1]) ⟨hx, hb, hml, hown, hw⟩ (cX_only_c l u (by omega)) (va_cwS 1 hw (gS2 w1_61 w1_62 w1_1 w1_63) rfl rfl rfl ⟨by decide, by decide, by decide +kernel⟩ ⟨Nat.le_of_ble_eq_true rfl, Nat.le_of_ble_eq_true rfl⟩) gT_blind (gT_at _) rfl hl.1 rfl (Nat.le_of_ble_eq_true rfl) dX_join_46 ⟨Nat.zero_le _, Nat.zero_le _⟩ ?_
    refine nv_ior (x := (upN nb u ((nb u) ||| (2 ^ v))) v) (y := 2 ^ u) hx hb dX_join_49 ?_
    refine nv_iast (i := v) (x := ((upN nb u ((nb u) ||| (2 ^ v))) v) ||| (2 ^ u)) (f := upN nb u ((nb u) ||| (2 ^ v))) hx hb hK hP hD hS 1 0 rfl rfl (by omega) (by omega) dX_join_50 (fun H locs hP hD hS => ?_)
    have hP : va_P D vwCl [(h, .inr (0, [.ref a1, .int (nI n), .ref a2, .ref a3, .ref a4, .int (nI us)])), (a1, .inl (cA, 8, .inl (fun j => nI ((upN (upN nb u ((nb u) ||| (2 ^ v))) v (((upN nb u ((nb u) ||| (2 ^ v))) v) ||| (2 ^ u))) j)))), (a2, .inl (cA, 8, .inl (fun j => nI (lo j)))), (a3, .inl (cA, 8, .inl (fun j => nI (hi j)))), (a4, .inl (cA, 16, .inl (fun j => nI (ho j))))] H := hP
    have hD : va_D A [(h, .inr (0, [.ref a1, .int (nI n), .ref a2, .ref a3, .ref a4, .int (nI us)])), (a1, .inl (cA, 8, .inl (fun j => nI ((upN (upN nb u ((nb u) ||| (2 ^ v))) v (((upN nb u ((nb u) ||| (2 ^ v))) v) ||| (2 ^ u))) j)))), (a2, .inl (cA, 8, .inl (fun j => nI (lo j)))), (a3, .inl (cA, 8, .inl (fun j => nI (hi j)))), (a4, .inl (cA, 16, .inl (fun j => nI (ho j))))] := hD
    refine lv_iload_n hx hb dX_join_51 rfl (lv_at hl 0 rfl) ?_
    exact W.zret (v := (nI 1)) hx hb hr rfl (fun t ht hW => ⟨⟨_, (), rfl, by rw [hc16]; rfl, by rw [ht]; exact hP, va_K.moved hW.alike hK, hD⟩, hS.F ht⟩) hS.2.2 dX_join_52

set_option maxHeartbeats 4000000 in
set_option maxRecDepth 100000 in
theorem cX_part_c (l : Launch) (D : va_G) (A : Nat → Prop) (h a1 a2 a3 a4 : Nat) (cA : ClassId) (n us : Nat) (nb lo hi ho : Nat → Nat) (u v : Nat) (hn : n ≤ 8) (hnb : ∀ v, v < n → nb v < 256) (hu : u < n) (hv : v < n) (huv : u ≠ v) : Met l yX_part (Cond.code yX_part cX_part 4 (some FieldType.boolean) :: bw) (rmL 3) (va_Pc [.ref h, .int (nI u), .int (nI v)] (gW D vwCl A [(h, .inr (0, [.ref a1, .int (nI n), .ref a2, .ref a3, .ref a4, .int (nI us)])), (a1, .inl (cA, 8, .inl (fun j => nI (nb j)))), (a2, .inl (cA, 8, .inl (fun j => nI (lo j)))), (a3, .inl (cA, 8, .inl (fun j => nI (hi j)))), (a4, .inl (cA, 16, .inl (fun j => nI (ho j))))] [(cA, .int)])) (va_Qi (fun (r9 : Int32) (_ : Unit) => r9 = (bI ((nb u).testBit v))) (fun _ => gW D vwCl A [(h, .inr (0, [.ref a1, .int (nI n), .ref a2, .ref a3, .ref a4, .int (nI us)])), (a1, .inl (cA, 8, .inl (fun j => nI ((jPt nb u v) j)))), (a2, .inl (cA, 8, .inl (fun j => nI (lo j)))), (a3, .inl (cA, 8, .inl (fun j => nI (hi j)))), (a4, .inl (cA, 16, .inl (fun j => nI (ho j))))] [(cA, .int)]) A) 0 0 A := by
  refine Met.ofW (cc := cX_part) (maxL := 4) (ret := (some FieldType.boolean)) (by decide) rfl ?_
  intro p e s m args below meth c s₁ B9 hml hv
  obtain ⟨rfl, hP, hK, hD⟩ := hv
  have hx := B9.exec
  have hb := B9.bytes
  have hr := B9.returns
  have hts := atoms_spec (ws := (Cond.code yX_part cX_part 4 (some FieldType.boolean) :: bw)) B9.pre
  have hw : ∀ w ∈ bw, w.before _ s = true := fun w h => hts w (List.mem_cons_of_mem _ h)
  have hown : s.vm.findClass RX = some m.cls := findClass_of_methodNamed B9.named
  have hlocks := B9.notSynchronized
  have hl := lv_entry ([.ref h, .int (nI u), .int (nI v)]) (n := 4) (Nat.le_of_ble_eq_true rfl)
  rw [lg_entry_eq]
  generalize (lg_sl ([.ref h, .int (nI u), .int (nI v)]) ++ List.replicate (4 - (lg_sl ([.ref h, .int (nI u), .int (nI v)])).length) Slot.unset).toArray = ls at hl ⊢
  have hl : lv_has ls 4 [(0, .ref h), (1, .int (nI u)), (2, .int (nI v))] := hl
  have hS : va_S A s.heap s.heap [] := va_S.rf
  have hqu := hnb u hu
  have hqv := hnb v hv
  refine lv_aload_n hx hb dX_part_0 rfl (lv_at hl 0 rfl) ?_
  refine lv_iload_n hx hb dX_part_1 rfl (lv_at hl 1 rfl) ?_
  refine lv_iload_n hx hb dX_part_2 rfl (lv_at hl 2 rfl) ?_
  refine nr_V0 (b := h) (As := [.int (nI u), .int (nI v)]) (C := RX) (rest := []) ⟨hx, hb, hml, hown, hw⟩ (cX_checkTwo_y l D A h a1 a2 a3 a4 cA n us nb lo hi ho u v hn hu hv huv) (cwV 2 hw (gV w1_206 w1_208 w0_10 w1_1 w1_209) rfl rfl rfl ⟨rfl, by decide, by decide, by decide +kernel⟩ ⟨Nat.le_of_ble_eq_true rfl, Nat.le_of_ble_eq_true rfl⟩) gB_blind (va_recv (q0 := 0) (ci := 0) hK hP rfl rfl) (gB_at hP hK _) rfl hl.1 rfl (Nat.le_of_ble_eq_true rfl) dX_part_3 ⟨Nat.zero_le _, Nat.zero_le _⟩ ?_
  refine lv_aload_n hx hb dX_part_6 rfl (lv_at hl 0 rfl) ?_
  refine va_get (D := D) (ci := 0) (v := .ref a1) (C := RX) (T := TX) (N := 6) hx hb hw uX hown hK hP 0 rfl rfl 0 (by decide) (hw _ w1_19) (fun _ h9 => h9) rfl dX_part_7 ?_
  refine lv_iload_n hx hb dX_part_10 rfl (lv_at hl 1 rfl) ?_
  refine nv_iald (i := u) (f := nb) hx hb hK hP 1 0 rfl rfl (by omega) (by omega) dX_part_11 ?_
  refine lv_iload_n hx hb dX_part_12 rfl (lv_at hl 2 rfl) ?_
  refine nr_S (As := [.int (nI (nb u)), .int (nI v)]) (rest := []) ⟨hx, hb, hml, hown, hw⟩ (cX_has_c l (nb u) v (by omega) (by omega)) (va_cwS 2 hw (gS2 w1_72 w1_73 w1_1 w1_74) rfl rfl rfl ⟨by decide, by decide, by decide +kernel⟩ ⟨Nat.le_of_ble_eq_true rfl, Nat.le_of_ble_eq_true rfl⟩) gT_blind (gT_at _) rfl hl.1 rfl (Nat.le_of_ble_eq_true rfl) dX_part_13 ⟨Nat.zero_le _, Nat.zero_le _⟩ ?_
  refine lv_istore_n hx hb dX_part_16 rfl hl (by decide) (lv' := [(3, .int (bI ((nb u).testBit v))), (0, .ref h), (1, .int (nI u)), (2, .int (nI v))]) rfl (fun ls hl => ?_)
  refine lv_aload_n hx hb dX_part_17 rfl (lv_at hl 1 rfl) ?_
  refine va_get (D := D) (ci := 0) (v := .ref a1) (C := RX) (T := TX) (N := 6) hx hb hw uX hown hK hP 0 rfl rfl 0 (by decide) (hw _ w1_19) (fun _ h9 => h9) rfl dX_part_18 ?_
  refine lv_iload_n hx hb dX_part_21 rfl (lv_at hl 2 rfl) ?_
  refine lv_dup2_11 hx hb dX_part_22 rfl rfl ?_
  refine nv_iald (i := u) (f := nb) hx hb hK hP 1 0 rfl rfl (by omega) (by omega) dX_part_23 ?_
  refine lv_iload_n hx hb dX_part_24 rfl (lv_at hl 3 rfl) ?_
  refine nr_S (As := [.int (nI v)]) (rest := [.int (nI (nb u)), .int (nI u), .ref a1]) ⟨hx, hb, hml, hown, hw⟩ (cX_only_c l v (by omega)) (va_cwS 1 hw (gS2 w1_61 w1_62 w1_1 w1_63) rfl rfl rfl ⟨by decide, by decide, by decide +kernel⟩ ⟨Nat.le_of_ble_eq_true rfl, Nat.le_of_ble_eq_true rfl⟩) gT_blind (gT_at _) rfl hl.1 rfl (Nat.le_of_ble_eq_true rfl) dX_part_25 ⟨Nat.zero_le _, Nat.zero_le _⟩ ?_
  refine lv_iconst (v := nI 4294967295) hx hb dX_part_28 nb_m1 ?_
  refine nv_ixor (x := 2 ^ v) (y := 4294967295) hx hb dX_part_29 ?_
  refine nv_iand (x := nb u) (y := (2 ^ v) ^^^ 4294967295) hx hb dX_part_30 ?_
  refine nv_iast (i := u) (x := (nb u) &&& ((2 ^ v) ^^^ 4294967295)) (f := nb) hx hb hK hP hD hS 1 0 rfl rfl (by omega) (by omega) dX_part_31 (fun H locs hP hD hS => ?_)
  have hP : va_P D vwCl [(h, .inr (0, [.ref a1, .int (nI n), .ref a2, .ref a3, .ref a4, .int (nI us)])), (a1, .inl (cA, 8, .inl (fun j => nI ((upN nb u ((nb u) &&& ((2 ^ v) ^^^ 4294967295))) j)))), (a2, .inl (cA, 8, .inl (fun j => nI (lo j)))), (a3, .inl (cA, 8, .inl (fun j => nI (hi j)))), (a4, .inl (cA, 16, .inl (fun j => nI (ho j))))] H := hP
  have hD : va_D A [(h, .inr (0, [.ref a1, .int (nI n), .ref a2, .ref a3, .ref a4, .int (nI us)])), (a1, .inl (cA, 8, .inl (fun j => nI ((upN nb u ((nb u) &&& ((2 ^ v) ^^^ 4294967295))) j)))), (a2, .inl (cA, 8, .inl (fun j => nI (lo j)))), (a3, .inl (cA, 8, .inl (fun j => nI (hi j)))), (a4, .inl (cA, 16, .inl (fun j => nI (ho j))))] := hD
  refine lv_aload_n hx hb dX_part_32 rfl (lv_at hl 1 rfl) ?_
  refine va_get (D := D) (ci := 0) (v := .ref a1) (C := RX) (T := TX) (N := 6) hx hb hw uX hown hK hP 0 rfl rfl 0 (by decide) (hw _ w1_19) (fun _ h9 => h9) rfl dX_part_33 ?_
  refine lv_iload_n hx hb dX_part_36 rfl (lv_at hl 3 rfl) ?_
  refine lv_dup2_11 hx hb dX_part_37 rfl rfl ?_
  refine nv_iald (i := v) (f := upN nb u ((nb u) &&& ((2 ^ v) ^^^ 4294967295))) hx hb hK hP 1 0 rfl rfl (by omega) (by omega) dX_part_38 ?_
  refine lv_iload_n hx hb dX_part_39 rfl (lv_at hl 2 rfl) ?_
  refine nr_S (As := [.int (nI u)]) (rest := [.int (nI ((upN nb u ((nb u) &&& ((2 ^ v) ^^^ 4294967295))) v)), .int (nI v), .ref a1]) ⟨hx, hb, hml, hown, hw⟩ (cX_only_c l u (by omega)) (va_cwS 1 hw (gS2 w1_61 w1_62 w1_1 w1_63) rfl rfl rfl ⟨by decide, by decide, by decide +kernel⟩ ⟨Nat.le_of_ble_eq_true rfl, Nat.le_of_ble_eq_true rfl⟩) gT_blind (gT_at _) rfl hl.1 rfl (Nat.le_of_ble_eq_true rfl) dX_part_40 ⟨Nat.zero_le _, Nat.zero_le _⟩ ?_
  refine lv_iconst (v := nI 4294967295) hx hb dX_part_43 nb_m1 ?_
  refine nv_ixor (x := 2 ^ u) (y := 4294967295) hx hb dX_part_44 ?_
  refine nv_iand (x := (upN nb u ((nb u) &&& ((2 ^ v) ^^^ 4294967295))) v) (y := (2 ^ u) ^^^ 4294967295) hx hb dX_part_45 ?_
  refine nv_iast (i := v) (x := ((upN nb u ((nb u) &&& ((2 ^ v) ^^^ 4294967295))) v) &&& ((2 ^ u) ^^^ 4294967295)) (f := upN nb u ((nb u) &&& ((2 ^ v) ^^^ 4294967295))) hx hb hK hP hD hS 1 0 rfl rfl (by omega) (by omega) dX_part_46 (fun H locs hP hD hS => ?_)
  have hP : va_P D vwCl [(h, .inr (0, [.ref a1, .int (nI n), .ref a2, .ref a3, .ref a4, .int (nI us)])), (a1, .inl (cA, 8, .inl (fun j => nI ((upN (upN nb u ((nb u) &&& ((2 ^ v) ^^^ 4294967295))) v (((upN nb u ((nb u) &&& ((2 ^ v) ^^^ 4294967295))) v) &&& ((2 ^ u) ^^^ 4294967295))) j)))), (a2, .inl (cA, 8, .inl (fun j => nI (lo j)))), (a3, .inl (cA, 8, .inl (fun j => nI (hi j)))), (a4, .inl (cA, 16, .inl (fun j => nI (ho j))))] H := hP
  have hD : va_D A [(h, .inr (0, [.ref a1, .int (nI n), .ref a2, .ref a3, .ref a4, .int (nI us)])), (a1, .inl (cA, 8, .inl (fun j => nI ((upN (upN nb u ((nb u) &&& ((2 ^ v) ^^^ 4294967295))) v (((upN nb u ((nb u) &&& ((2 ^ v) ^^^ 4294967295))) v) &&& ((2 ^ u) ^^^ 4294967295))) j)))), (a2, .inl (cA, 8, .inl (fun j => nI (lo j)))), (a3, .inl (cA, 8, .inl (fun j => nI (hi j)))), (a4, .inl (cA, 16, .inl (fun j => nI (ho j))))] := hD
  refine lv_iload_n hx hb dX_part_47 rfl (lv_at hl 0 rfl) ?_
  exact W.zret (v := (bI ((nb u).testBit v))) hx hb hr (nb_nar _) (fun t ht hW => ⟨⟨_, (), rfl, rfl, by rw [ht]; exact hP, va_K.moved hW.alike hK, hD⟩, hS.F ht⟩) hS.2.2 dX_part_48

set_option maxHeartbeats 4000000 in
set_option maxRecDepth 100000 in
theorem cX_adjacent_c (l : Launch) (D : va_G) (A : Nat → Prop) (h a1 a2 a3 a4 : Nat) (cA : ClassId) (n us : Nat) (nb lo hi ho : Nat → Nat) (u v : Nat) (hn : n ≤ 8) (hnb : ∀ v, v < n → nb v < 256) (hu : u < n) (hv : v < n) : Rd l yX_adjacent (Cond.code yX_adjacent cX_adjacent 3 (some FieldType.boolean) :: bw) (rmL 3) [.ref h, .int (nI u), .int (nI v)] (gB D vwCl [(h, .inr (0, [.ref a1, .int (nI n), .ref a2, .ref a3, .ref a4, .int (nI us)])), (a1, .inl (cA, 8, .inl (fun j => nI (nb j)))), (a2, .inl (cA, 8, .inl (fun j => nI (lo j)))), (a3, .inl (cA, 8, .inl (fun j => nI (hi j)))), (a4, .inl (cA, 16, .inl (fun j => nI (ho j))))] [(cA, .int)]) ((bI ((nb u).testBit v))) := by
  refine Met.ofW (cc := cX_adjacent) (maxL := 3) (ret := (some FieldType.boolean)) (by decide) rfl ?_
  intro p e s m args below meth c s₁ B9 hml hv
  obtain ⟨rfl, hP, hK⟩ := hv
  have hx := B9.exec
  have hb := B9.bytes
  have hr := B9.returns
  have hts := atoms_spec (ws := (Cond.code yX_adjacent cX_adjacent 3 (some FieldType.boolean) :: bw)) B9.pre
  have hw : ∀ w ∈ bw, w.before _ s = true := fun w h => hts w (List.mem_cons_of_mem _ h)
  have hown : s.vm.findClass RX = some m.cls := findClass_of_methodNamed B9.named
  have hlocks := B9.notSynchronized
  have hl := lv_entry ([.ref h, .int (nI u), .int (nI v)]) (n := 3) (Nat.le_of_ble_eq_true rfl)
  rw [lg_entry_eq]
  generalize (lg_sl ([.ref h, .int (nI u), .int (nI v)]) ++ List.replicate (3 - (lg_sl ([.ref h, .int (nI u), .int (nI v)])).length) Slot.unset).toArray = ls at hl ⊢
  have hl : lv_has ls 3 [(0, .ref h), (1, .int (nI u)), (2, .int (nI v))] := hl
  have hqu := hnb u hu
  refine lv_aload_n hx hb dX_adjacent_0 rfl (lv_at hl 0 rfl) ?_
  refine lv_iload_n hx hb dX_adjacent_1 rfl (lv_at hl 1 rfl) ?_
  refine nr_V0 (b := h) (As := [.int (nI u)]) (C := RX) (rest := []) ⟨hx, hb, hml, hown, hw⟩ (cX_checkVertex_y l D A h a1 a2 a3 a4 cA n us nb lo hi ho u hn (by omega)) (cwV 1 hw (gV w1_210 w1_212 w0_11 w1_1 w1_213) rfl rfl rfl ⟨rfl, by decide, by decide, by decide +kernel⟩ ⟨Nat.le_of_ble_eq_true rfl, Nat.le_of_ble_eq_true rfl⟩) gB_blind (va_recv (q0 := 0) (ci := 0) hK hP rfl rfl) (gB_at hP hK _) rfl hl.1 rfl (Nat.le_of_ble_eq_true rfl) dX_adjacent_2 ⟨Nat.zero_le _, Nat.zero_le _⟩ ?_
  refine lv_aload_n hx hb dX_adjacent_5 rfl (lv_at hl 0 rfl) ?_
  refine lv_iload_n hx hb dX_adjacent_6 rfl (lv_at hl 2 rfl) ?_
  refine nr_V0 (b := h) (As := [.int (nI v)]) (C := RX) (rest := []) ⟨hx, hb, hml, hown, hw⟩ (cX_checkVertex_y l D A h a1 a2 a3 a4 cA n us nb lo hi ho v hn (by omega)) (cwV 1 hw (gV w1_210 w1_212 w0_11 w1_1 w1_213) rfl rfl rfl ⟨rfl, by decide, by decide, by decide +kernel⟩ ⟨Nat.le_of_ble_eq_true rfl, Nat.le_of_ble_eq_true rfl⟩) gB_blind (va_recv (q0 := 0) (ci := 0) hK hP rfl rfl) (gB_at hP hK _) rfl hl.1 rfl (Nat.le_of_ble_eq_true rfl) dX_adjacent_7 ⟨Nat.zero_le _, Nat.zero_le _⟩ ?_
  refine lv_aload_n hx hb dX_adjacent_10 rfl (lv_at hl 0 rfl) ?_
  refine va_get (D := D) (ci := 0) (v := .ref a1) (C := RX) (T := TX) (N := 6) hx hb hw uX hown hK hP 0 rfl rfl 0 (by decide) (hw _ w1_19) (fun _ h9 => h9) rfl dX_adjacent_11 ?_
  refine lv_iload_n hx hb dX_adjacent_14 rfl (lv_at hl 1 rfl) ?_
  refine nv_iald (i := u) (f := nb) hx hb hK hP 1 0 rfl rfl (by omega) (by omega) dX_adjacent_15 ?_
  refine lv_iload_n hx hb dX_adjacent_16 rfl (lv_at hl 2 rfl) ?_
  refine nr_S (As := [.int (nI (nb u)), .int (nI v)]) (rest := []) ⟨hx, hb, hml, hown, hw⟩ (cX_has_c l (nb u) v (by omega) (by omega)) (va_cwS 2 hw (gS2 w1_72 w1_73 w1_1 w1_74) rfl rfl rfl ⟨by decide, by decide, by decide +kernel⟩ ⟨Nat.le_of_ble_eq_true rfl, Nat.le_of_ble_eq_true rfl⟩) gT_blind (gT_at _) rfl hl.1 rfl (Nat.le_of_ble_eq_true rfl) dX_adjacent_17 ⟨Nat.zero_le _, Nat.zero_le _⟩ ?_
  exact W.zret (v := (bI ((nb u).testBit v))) hx hb hr (nb_nar _) (fun t ht hW => ⟨rfl, ht⟩) (fun q h => by cases h) dX_adjacent_20

set_option maxHeartbeats 4000000 in
set_option maxRecDepth 100000 in
theorem cX_leader_c (l : Launch) (D : va_G) (A : Nat → Prop) (h a1 a2 a3 a4 : Nat) (cA : ClassId) (n us : Nat) (nb lo hi ho : Nat → Nat) (v : Nat) (hn : n ≤ 8) (hnb : ∀ v, v < n → nb v < 256) (hv : v < n) : Rd l yX_leader (Cond.code yX_leader cX_leader 4 (some FieldType.int) :: bw) (rmL 4) [.ref h, .int (nI v)] (gB D vwCl [(h, .inr (0, [.ref a1, .int (nI n), .ref a2, .ref a3, .ref a4, .int (nI us)])), (a1, .inl (cA, 8, .inl (fun j => nI (nb j)))), (a2, .inl (cA, 8, .inl (fun j => nI (lo j)))), (a3, .inl (cA, 8, .inl (fun j => nI (hi j)))), (a4, .inl (cA, 16, .inl (fun j => nI (ho j))))] [(cA, .int)]) ((nI (tzN (jRe nb n v (n - 1))))) := by
  refine Met.ofW (cc := cX_leader) (maxL := 4) (ret := (some FieldType.int)) (by decide) rfl ?_
  intro p e s m args below meth c s₁ B9 hml hv
  obtain ⟨rfl, hP, hK⟩ := hv
  have hx := B9.exec
  have hb := B9.bytes
  have hr := B9.returns
  have hts := atoms_spec (ws := (Cond.code yX_leader cX_leader 4 (some FieldType.int) :: bw)) B9.pre
  have hw : ∀ w ∈ bw, w.before _ s = true := fun w h => hts w (List.mem_cons_of_mem _ h)
  have hown : s.vm.findClass RX = some m.cls := findClass_of_methodNamed B9.named
  have hlocks := B9.notSynchronized
  have hl := lv_entry ([.ref h, .int (nI v)]) (n := 4) (Nat.le_of_ble_eq_true rfl)
  rw [lg_entry_eq]
  generalize (lg_sl ([.ref h, .int (nI v)]) ++ List.replicate (4 - (lg_sl ([.ref h, .int (nI v)])).length) Slot.unset).toArray = ls at hl ⊢
  have hl : lv_has ls 4 [(0, .ref h), (1, .int (nI v))] := hl
  refine lv_aload_n hx hb dX_leader_0 rfl (lv_at hl 0 rfl) ?_
  refine lv_iload_n hx hb dX_leader_1 rfl (lv_at hl 1 rfl) ?_
  refine nr_V0 (b := h) (As := [.int (nI v)]) (C := RX) (rest := []) ⟨hx, hb, hml, hown, hw⟩ (cX_checkVertex_y l D A h a1 a2 a3 a4 cA n us nb lo hi ho v hn (by omega)) (cwV 1 hw (gV w1_210 w1_212 w0_11 w1_1 w1_213) rfl rfl rfl ⟨rfl, by decide, by decide, by decide +kernel⟩ ⟨Nat.le_of_ble_eq_true rfl, Nat.le_of_ble_eq_true rfl⟩) gB_blind (va_recv (q0 := 0) (ci := 0) hK hP rfl rfl) (gB_at hP hK _) rfl hl.1 rfl (Nat.le_of_ble_eq_true rfl) dX_leader_2 ⟨Nat.zero_le _, Nat.zero_le _⟩ ?_
  refine lv_iload_n hx hb dX_leader_5 rfl (lv_at hl 1 rfl) ?_
  refine nr_S (As := [.int (nI v)]) (rest := []) ⟨hx, hb, hml, hown, hw⟩ (cX_only_c l v (by omega)) (va_cwS 1 hw (gS2 w1_61 w1_62 w1_1 w1_63) rfl rfl rfl ⟨by decide, by decide, by decide +kernel⟩ ⟨Nat.le_of_ble_eq_true rfl, Nat.le_of_ble_eq_true rfl⟩) gT_blind (gT_at _) rfl hl.1 rfl (Nat.le_of_ble_eq_true rfl) dX_leader_6 ⟨Nat.zero_le _, Nat.zero_le _⟩ ?_
  refine lv_istore_n hx hb dX_leader_9 rfl hl (by decide) (lv' := [(2, .int (nI (2 ^ v))), (0, .ref h), (1, .int (nI v))]) rfl (fun ls hl => ?_)
  refine lv_iconst (v := nI 1) hx hb dX_leader_10 (by decide) ?_
  refine lv_istore_n hx hb dX_leader_11 rfl hl (by decide) (lv' := [(3, .int (nI 1)), (2, .int (nI (2 ^ v))), (0, .ref h), (1, .int (nI v))]) rfl (fun ls hl => ?_)
  have L12 : ∀ (k9 : Nat) (i : Nat), k9 = n - i → i + 1 ≤ n → ∀ (ls : Array Slot), lv_has ls 4 [(3, .int (nI (i + 1))), (2, .int (nI (jRe nb n v i))), (0, .ref h), (1, .int (nI v))] → W p l e (headSpec (Cond.code yX_leader cX_leader 4 (some FieldType.int) :: bw) (rmL 4)).room s m ([.ref h, .int (nI v)] : List Value).toArray below meth c s.heap [] 0 0 (MQ below (QcRead ((nI (tzN (jRe nb n v (n - 1)))))) ([.ref h, .int (nI v)] : List Value).toArray s 0 0 (fun _ => False)) (F0 m 12 ls []) := by
    intro k9
    induction k9 using Nat.strongRecOn with
    | _ k9 ih12 =>
      intro i hk9 hi9 ls hl
      refine lv_iload_n hx hb dX_leader_12 rfl (lv_at hl 0 rfl) ?_
      refine lv_aload_n hx hb dX_leader_13 rfl (lv_at hl 2 rfl) ?_
      refine va_get (D := D) (ci := 0) (v := .int (nI n)) (C := RX) (T := TX) (N := 6) hx hb hw uX hown hK hP 0 rfl rfl 1 (by decide) (hw _ w1_20) (fun _ h9 => h9) rfl dX_leader_14 ?_
      refine nv_icmp_ge (x := i + 1) (y := n) (tgt := 34) hx hb dX_leader_17 rfl (by omega) (by omega) (fun hc17 => ?_) (fun hc17 => ?_)
      · refine lv_iload_n hx hb dX_leader_34 rfl (lv_at hl 1 rfl) ?_
        have hq35 := jRe_lt hnb (show v < 8 by omega) i
        have hq36 := jRe_ne (nb := nb) (n := n) (v := v) i
        refine nr_S (As := [.int (nI (jRe nb n v i))]) (rest := []) ⟨hx, hb, hml, hown, hw⟩ (cI_numberOfTrailingZeros_c l (jRe nb n v i) (by omega) (by omega)) (va_cwS 1 hw (gS2 w2_27 w2_28 w1_9 w2_29) rfl rfl rfl ⟨by decide, by decide, by decide +kernel⟩ ⟨Nat.le_of_ble_eq_true rfl, Nat.le_of_ble_eq_true rfl⟩) gT_blind (gT_at _) rfl hl.1 rfl (Nat.le_of_ble_eq_true rfl) dX_leader_35 ⟨Nat.zero_le _, Nat.zero_le _⟩ ?_
        exact W.iret (v := (nI (tzN (jRe nb n v i)))) hx hb hr (fun t ht hW => ⟨by rw [show i = n - 1 by omega], ht⟩) (fun q h => by cases h) dX_leader_38
      · refine lv_iload_n hx hb dX_leader_20 rfl (lv_at hl 1 rfl) ?_
        refine lv_aload_n hx hb dX_leader_21 rfl (lv_at hl 2 rfl) ?_
        refine lv_iload_n hx hb dX_leader_22 rfl (lv_at hl 1 rfl) ?_
        have hq23 := jRe_lt hnb (show v < 8 by omega) i
        refine nr_V (b := h) (As := [.int (nI (jRe nb n v i))]) (C := RX) (rest := [.int (nI (jRe nb n v i))]) ⟨hx, hb, hml, hown, hw⟩ (cX_neighboursOf_c l D A h a1 a2 a3 a4 cA n us nb lo hi ho (jRe nb n v i) hn hnb (by omega)) (cwV 1 hw (gV w1_101 w1_103 w0_7 w1_1 w1_104) rfl rfl rfl ⟨rfl, by decide, by decide, by decide +kernel⟩ ⟨Nat.le_of_ble_eq_true rfl, Nat.le_of_ble_eq_true rfl⟩) gB_blind (va_recv (q0 := 0) (ci := 0) hK hP rfl rfl) (gB_at hP hK _) rfl hl.1 rfl (Nat.le_of_ble_eq_true rfl) dX_leader_23 ⟨Nat.zero_le _, Nat.zero_le _⟩ ?_
        refine nv_ior (x := jRe nb n v i) (y := jNo nb (jRe nb n v i) n) hx hb dX_leader_26 ?_
        refine lv_istore_n hx hb dX_leader_27 rfl hl (by decide) (lv' := [(2, .int (nI ((jRe nb n v i) ||| (jNo nb (jRe nb n v i) n)))), (3, .int (nI (i + 1))), (0, .ref h), (1, .int (nI v))]) rfl (fun ls hl => ?_)
        refine lv_iinc (k := 1) hx hb dX_leader_28 hl rfl (nb_inc _) (by decide) (lv' := [(3, .int (nI ((i + 1) + 1))), (2, .int (nI ((jRe nb n v i) ||| (jNo nb (jRe nb n v i) n)))), (0, .ref h), (1, .int (nI v))]) rfl (fun ls hl => ?_)
        refine lv_goto (tgt := 12) hx hb dX_leader_31 rfl ?_
        exact ih12 _ (by omega) (i + 1) rfl (by omega) ls hl
  exact L12 _ 0 rfl (by omega) ls hl

set_option maxHeartbeats 4000000 in
set_option maxRecDepth 100000 in
theorem cX_join_n1 (l : Launch) (D : va_G) (A : Nat → Prop) (h a1 a2 a3 a4 : Nat) (cA : ClassId) (n us : Nat) (nb lo hi ho : Nat → Nat) (z1 z2 : Int32) (hst : l.stackTraces = false) (hn : n ≤ 8) (hz9 : ∀ k, k < n → z1 ≠ nI k) : MetT l yX_join (Cond.code yX_join cX_join 4 (some FieldType.boolean) :: bw) (rmT 9) (va_Pc [.ref h, .int z1, .int z2] (gE D vwCl A [(h, .inr (0, [.ref a1, .int (nI n), .ref a2, .ref a3, .ref a4, .int (nI us)])), (a1, .inl (cA, 8, .inl (fun j => nI (nb j)))), (a2, .inl (cA, 8, .inl (fun j => nI (lo j)))), (a3, .inl (cA, 8, .inl (fun j => nI (hi j)))), (a4, .inl (cA, 16, .inl (fun j => nI (ho j))))] [(cA, .int)])) cIOB (fun st t => va_F A st t ∧ (gW D vwCl A [(h, .inr (0, [.ref a1, .int (nI n), .ref a2, .ref a3, .ref a4, .int (nI us)])), (a1, .inl (cA, 8, .inl (fun j => nI (nb j)))), (a2, .inl (cA, 8, .inl (fun j => nI (lo j)))), (a3, .inl (cA, 8, .inl (fun j => nI (hi j)))), (a4, .inl (cA, 16, .inl (fun j => nI (ho j))))] [(cA, .int)]) t) 1 6 A := by
  refine tx_ofW (cc := cX_join) (maxL := 4) (ret := (some FieldType.boolean)) (by decide) rfl ?_
  intro p e s m args below meth c s₁ B9 hml hv9
  obtain ⟨rfl, ⟨hP, hK, hD⟩, hE⟩ := hv9
  have hx := B9.exec
  have hb := B9.bytes
  have hr := B9.returns
  have hts := atoms_spec (ws := (Cond.code yX_join cX_join 4 (some FieldType.boolean) :: bw)) B9.pre
  have hw : ∀ w ∈ bw, w.before _ s = true := fun w h => hts w (List.mem_cons_of_mem _ h)
  have hown : s.vm.findClass RX = some m.cls := findClass_of_methodNamed B9.named
  have hlocks := B9.notSynchronized
  have hl := lv_entry ([.ref h, .int z1, .int z2]) (n := 4) (Nat.le_of_ble_eq_true rfl)
  rw [lg_entry_eq]
  generalize (lg_sl ([.ref h, .int z1, .int z2]) ++ List.replicate (4 - (lg_sl ([.ref h, .int z1, .int z2])).length) Slot.unset).toArray = ls at hl ⊢
  have hl : lv_has ls 4 [(0, .ref h), (1, .int z1), (2, .int z2)] := hl
  have hno := B9.noHandlers (hts _ List.mem_cons_self)
  have hS : va_S A s.heap s.heap [] := va_S.rf
  refine lv_aload_n hx hb dX_join_0 rfl (lv_at hl 0 rfl) ?_
  refine lv_iload_n hx hb dX_join_1 rfl (lv_at hl 1 rfl) ?_
  refine lv_iload_n hx hb dX_join_2 rfl (lv_at hl 2 rfl) ?_
  exact tx_pass (C := RX) (As := [.int z1, .int z2]) (rest := []) ⟨hx, hb, hml, hown, hw⟩ (cX_checkTwo_n1 l D A h a1 a2 a3 a4 cA n us nb lo hi ho z1 z2 hst hn hz9) (cwV 2 hw (gV w1_206 w1_208 w0_10 w1_1 w1_209) rfl rfl rfl ⟨rfl, by decide, by decide, by decide +kernel⟩ ⟨Nat.le_of_ble_eq_true rfl, Nat.le_of_ble_eq_true rfl⟩) ⟨gE_blind, va_recv (q0 := 0) (ci := 0) hK hP rfl rfl, gE_at hP hK hD hE _⟩ rfl hl.1 rfl (Nat.le_of_ble_eq_true rfl) dX_join_3 ⟨Nat.le_refl _, Nat.le_refl _⟩ hno hlocks (fun st t t' h1 h2 h3 h4 h5 => ⟨txF hS h1 h2 h5.1, gW_mv h2 h4 h5.2⟩) (fun q h => h) hS.2.2

set_option maxHeartbeats 4000000 in
set_option maxRecDepth 100000 in
theorem cX_join_n2 (l : Launch) (D : va_G) (A : Nat → Prop) (h a1 a2 a3 a4 : Nat) (cA : ClassId) (n us : Nat) (nb lo hi ho : Nat → Nat) (u : Nat) (z2 : Int32) (hst : l.stackTraces = false) (hn : n ≤ 8) (hu : u < n) (hz9 : ∀ k, k < n → z2 ≠ nI k) : MetT l yX_join (Cond.code yX_join cX_join 4 (some FieldType.boolean) :: bw) (rmT 9) (va_Pc [.ref h, .int (nI u), .int z2] (gE D vwCl A [(h, .inr (0, [.ref a1, .int (nI n), .ref a2, .ref a3, .ref a4, .int (nI us)])), (a1, .inl (cA, 8, .inl (fun j => nI (nb j)))), (a2, .inl (cA, 8, .inl (fun j => nI (lo j)))), (a3, .inl (cA, 8, .inl (fun j => nI (hi j)))), (a4, .inl (cA, 16, .inl (fun j => nI (ho j))))] [(cA, .int)])) cIOB (fun st t => va_F A st t ∧ (gW D vwCl A [(h, .inr (0, [.ref a1, .int (nI n), .ref a2, .ref a3, .ref a4, .int (nI us)])), (a1, .inl (cA, 8, .inl (fun j => nI (nb j)))), (a2, .inl (cA, 8, .inl (fun j => nI (lo j)))), (a3, .inl (cA, 8, .inl (fun j => nI (hi j)))), (a4, .inl (cA, 16, .inl (fun j => nI (ho j))))] [(cA, .int)]) t) 1 6 A := by
  refine tx_ofW (cc := cX_join) (maxL := 4) (ret := (some FieldType.boolean)) (by decide) rfl ?_
  intro p e s m args below meth c s₁ B9 hml hv9
  obtain ⟨rfl, ⟨hP, hK, hD⟩, hE⟩ := hv9
  have hx := B9.exec
  have hb := B9.bytes
  have hr := B9.returns
  have hts := atoms_spec (ws := (Cond.code yX_join cX_join 4 (some FieldType.boolean) :: bw)) B9.pre
  have hw : ∀ w ∈ bw, w.before _ s = true := fun w h => hts w (List.mem_cons_of_mem _ h)
  have hown : s.vm.findClass RX = some m.cls := findClass_of_methodNamed B9.named
  have hlocks := B9.notSynchronized
  have hl := lv_entry ([.ref h, .int (nI u), .int z2]) (n := 4) (Nat.le_of_ble_eq_true rfl)
  rw [lg_entry_eq]
  generalize (lg_sl ([.ref h, .int (nI u), .int z2]) ++ List.replicate (4 - (lg_sl ([.ref h, .int (nI u), .int z2])).length) Slot.unset).toArray = ls at hl ⊢
  have hl : lv_has ls 4 [(0, .ref h), (1, .int (nI u)), (2, .int z2)] := hl
  have hno := B9.noHandlers (hts _ List.mem_cons_self)
  have hS : va_S A s.heap s.heap [] := va_S.rf
  refine lv_aload_n hx hb dX_join_0 rfl (lv_at hl 0 rfl) ?_
  refine lv_iload_n hx hb dX_join_1 rfl (lv_at hl 1 rfl) ?_
  refine lv_iload_n hx hb dX_join_2 rfl (lv_at hl 2 rfl) ?_
  exact tx_pass (C := RX) (As := [.int (nI u), .int z2]) (rest := []) ⟨hx, hb, hml, hown, hw⟩ (cX_checkTwo_n2 l D A h a1 a2 a3 a4 cA n us nb lo hi ho u z2 hst hn hu hz9) (cwV 2 hw (gV w1_206 w1_208 w0_10 w1_1 w1_209) rfl rfl rfl ⟨rfl, by decide, by decide, by decide +kernel⟩ ⟨Nat.le_of_ble_eq_true rfl, Nat.le_of_ble_eq_true rfl⟩) ⟨gE_blind, va_recv (q0 := 0) (ci := 0) hK hP rfl rfl, gE_at hP hK hD hE _⟩ rfl hl.1 rfl (Nat.le_of_ble_eq_true rfl) dX_join_3 ⟨Nat.le_refl _, Nat.le_refl _⟩ hno hlocks (fun st t t' h1 h2 h3 h4 h5 => ⟨txF hS h1 h2 h5.1, gW_mv h2 h4 h5.2⟩) (fun q h => h) hS.2.2

set_option maxHeartbeats 4000000 in
set_option maxRecDepth 100000 in
theorem cX_join_n3 (l : Launch) (D : va_G) (A : Nat → Prop) (h a1 a2 a3 a4 : Nat) (cA : ClassId) (n us : Nat) (nb lo hi ho : Nat → Nat) (u : Nat) (hst : l.stackTraces = false) (hn : n ≤ 8) (hu : u < n) : MetT l yX_join (Cond.code yX_join cX_join 4 (some FieldType.boolean) :: bw) (rmT 9) (va_Pc [.ref h, .int (nI u), .int (nI u)] (gE D vwCl A [(h, .inr (0, [.ref a1, .int (nI n), .ref a2, .ref a3, .ref a4, .int (nI us)])), (a1, .inl (cA, 8, .inl (fun j => nI (nb j)))), (a2, .inl (cA, 8, .inl (fun j => nI (lo j)))), (a3, .inl (cA, 8, .inl (fun j => nI (hi j)))), (a4, .inl (cA, 16, .inl (fun j => nI (ho j))))] [(cA, .int)])) cIAE (fun st t => va_F A st t ∧ (gW D vwCl A [(h, .inr (0, [.ref a1, .int (nI n), .ref a2, .ref a3, .ref a4, .int (nI us)])), (a1, .inl (cA, 8, .inl (fun j => nI (nb j)))), (a2, .inl (cA, 8, .inl (fun j => nI (lo j)))), (a3, .inl (cA, 8, .inl (fun j => nI (hi j)))), (a4, .inl (cA, 16, .inl (fun j => nI (ho j))))] [(cA, .int)]) t) 1 6 A := by
  refine tx_ofW (cc := cX_join) (maxL := 4) (ret := (some FieldType.boolean)) (by decide) rfl ?_
  intro p e s m args below meth c s₁ B9 hml hv9
  obtain ⟨rfl, ⟨hP, hK, hD⟩, hE⟩ := hv9
  have hx := B9.exec
  have hb := B9.bytes
  have hr := B9.returns
  have hts := atoms_spec (ws := (Cond.code yX_join cX_join 4 (some FieldType.boolean) :: bw)) B9.pre
  have hw : ∀ w ∈ bw, w.before _ s = true := fun w h => hts w (List.mem_cons_of_mem _ h)
  have hown : s.vm.findClass RX = some m.cls := findClass_of_methodNamed B9.named
  have hlocks := B9.notSynchronized
  have hl := lv_entry ([.ref h, .int (nI u), .int (nI u)]) (n := 4) (Nat.le_of_ble_eq_true rfl)
  rw [lg_entry_eq]
  generalize (lg_sl ([.ref h, .int (nI u), .int (nI u)]) ++ List.replicate (4 - (lg_sl ([.ref h, .int (nI u), .int (nI u)])).length) Slot.unset).toArray = ls at hl ⊢
  have hl : lv_has ls 4 [(0, .ref h), (1, .int (nI u)), (2, .int (nI u))] := hl
  have hno := B9.noHandlers (hts _ List.mem_cons_self)
  have hS : va_S A s.heap s.heap [] := va_S.rf
  refine lv_aload_n hx hb dX_join_0 rfl (lv_at hl 0 rfl) ?_
  refine lv_iload_n hx hb dX_join_1 rfl (lv_at hl 1 rfl) ?_
  refine lv_iload_n hx hb dX_join_2 rfl (lv_at hl 2 rfl) ?_
  exact tx_pass (C := RX) (As := [.int (nI u), .int (nI u)]) (rest := []) ⟨hx, hb, hml, hown, hw⟩ (cX_checkTwo_n3 l D A h a1 a2 a3 a4 cA n us nb lo hi ho u hst hn hu) (cwV 2 hw (gV w1_206 w1_208 w0_10 w1_1 w1_209) rfl rfl rfl ⟨rfl, by decide, by decide, by decide +kernel⟩ ⟨Nat.le_of_ble_eq_true rfl, Nat.le_of_ble_eq_true rfl⟩) ⟨gE_blind, va_recv (q0 := 0) (ci := 0) hK hP rfl rfl, gE_at hP hK hD hE _⟩ rfl hl.1 rfl (Nat.le_of_ble_eq_true rfl) dX_join_3 ⟨Nat.le_refl _, Nat.le_refl _⟩ hno hlocks (fun st t t' h1 h2 h3 h4 h5 => ⟨txF hS h1 h2 h5.1, gW_mv h2 h4 h5.2⟩) (fun q h => h) hS.2.2

set_option maxHeartbeats 4000000 in
set_option maxRecDepth 100000 in
theorem cX_part_n1 (l : Launch) (D : va_G) (A : Nat → Prop) (h a1 a2 a3 a4 : Nat) (cA : ClassId) (n us : Nat) (nb lo hi ho : Nat → Nat) (z1 z2 : Int32) (hst : l.stackTraces = false) (hn : n ≤ 8) (hz9 : ∀ k, k < n → z1 ≠ nI k) : MetT l yX_part (Cond.code yX_part cX_part 4 (some FieldType.boolean) :: bw) (rmT 9) (va_Pc [.ref h, .int z1, .int z2] (gE D vwCl A [(h, .inr (0, [.ref a1, .int (nI n), .ref a2, .ref a3, .ref a4, .int (nI us)])), (a1, .inl (cA, 8, .inl (fun j => nI (nb j)))), (a2, .inl (cA, 8, .inl (fun j => nI (lo j)))), (a3, .inl (cA, 8, .inl (fun j => nI (hi j)))), (a4, .inl (cA, 16, .inl (fun j => nI (ho j))))] [(cA, .int)])) cIOB (fun st t => va_F A st t ∧ (gW D vwCl A [(h, .inr (0, [.ref a1, .int (nI n), .ref a2, .ref a3, .ref a4, .int (nI us)])), (a1, .inl (cA, 8, .inl (fun j => nI (nb j)))), (a2, .inl (cA, 8, .inl (fun j => nI (lo j)))), (a3, .inl (cA, 8, .inl (fun j => nI (hi j)))), (a4, .inl (cA, 16, .inl (fun j => nI (ho j))))] [(cA, .int)]) t) 1 6 A := by
  refine tx_ofW (cc := cX_part) (maxL := 4) (ret := (some FieldType.boolean)) (by decide) rfl ?_
  intro p e s m args below meth c s₁ B9 hml hv9
  obtain ⟨rfl, ⟨hP, hK, hD⟩, hE⟩ := hv9
  have hx := B9.exec
  have hb := B9.bytes
  have hr := B9.returns
  have hts := atoms_spec (ws := (Cond.code yX_part cX_part 4 (some FieldType.boolean) :: bw)) B9.pre
  have hw : ∀ w ∈ bw, w.before _ s = true := fun w h => hts w (List.mem_cons_of_mem _ h)
  have hown : s.vm.findClass RX = some m.cls := findClass_of_methodNamed B9.named
  have hlocks := B9.notSynchronized
  have hl := lv_entry ([.ref h, .int z1, .int z2]) (n := 4) (Nat.le_of_ble_eq_true rfl)
  rw [lg_entry_eq]
  generalize (lg_sl ([.ref h, .int z1, .int z2]) ++ List.replicate (4 - (lg_sl ([.ref h, .int z1, .int z2])).length) Slot.unset).toArray = ls at hl ⊢
  have hl : lv_has ls 4 [(0, .ref h), (1, .int z1), (2, .int z2)] := hl
  have hno := B9.noHandlers (hts _ List.mem_cons_self)
  have hS : va_S A s.heap s.heap [] := va_S.rf
  refine lv_aload_n hx hb dX_part_0 rfl (lv_at hl 0 rfl) ?_
  refine lv_iload_n hx hb dX_part_1 rfl (lv_at hl 1 rfl) ?_
  refine lv_iload_n hx hb dX_part_2 rfl (lv_at hl 2 rfl) ?_
  exact tx_pass (C := RX) (As := [.int z1, .int z2]) (rest := []) ⟨hx, hb, hml, hown, hw⟩ (cX_checkTwo_n1 l D A h a1 a2 a3 a4 cA n us nb lo hi ho z1 z2 hst hn hz9) (cwV 2 hw (gV w1_206 w1_208 w0_10 w1_1 w1_209) rfl rfl rfl ⟨rfl, by decide, by decide, by decide +kernel⟩ ⟨Nat.le_of_ble_eq_true rfl, Nat.le_of_ble_eq_true rfl⟩) ⟨gE_blind, va_recv (q0 := 0) (ci := 0) hK hP rfl rfl, gE_at hP hK hD hE _⟩ rfl hl.1 rfl (Nat.le_of_ble_eq_true rfl) dX_part_3 ⟨Nat.le_refl _, Nat.le_refl _⟩ hno hlocks (fun st t t' h1 h2 h3 h4 h5 => ⟨txF hS h1 h2 h5.1, gW_mv h2 h4 h5.2⟩) (fun q h => h) hS.2.2

set_option maxHeartbeats 4000000 in
set_option maxRecDepth 100000 in
theorem cX_part_n2 (l : Launch) (D : va_G) (A : Nat → Prop) (h a1 a2 a3 a4 : Nat) (cA : ClassId) (n us : Nat) (nb lo hi ho : Nat → Nat) (u : Nat) (z2 : Int32) (hst : l.stackTraces = false) (hn : n ≤ 8) (hu : u < n) (hz9 : ∀ k, k < n → z2 ≠ nI k) : MetT l yX_part (Cond.code yX_part cX_part 4 (some FieldType.boolean) :: bw) (rmT 9) (va_Pc [.ref h, .int (nI u), .int z2] (gE D vwCl A [(h, .inr (0, [.ref a1, .int (nI n), .ref a2, .ref a3, .ref a4, .int (nI us)])), (a1, .inl (cA, 8, .inl (fun j => nI (nb j)))), (a2, .inl (cA, 8, .inl (fun j => nI (lo j)))), (a3, .inl (cA, 8, .inl (fun j => nI (hi j)))), (a4, .inl (cA, 16, .inl (fun j => nI (ho j))))] [(cA, .int)])) cIOB (fun st t => va_F A st t ∧ (gW D vwCl A [(h, .inr (0, [.ref a1, .int (nI n), .ref a2, .ref a3, .ref a4, .int (nI us)])), (a1, .inl (cA, 8, .inl (fun j => nI (nb j)))), (a2, .inl (cA, 8, .inl (fun j => nI (lo j)))), (a3, .inl (cA, 8, .inl (fun j => nI (hi j)))), (a4, .inl (cA, 16, .inl (fun j => nI (ho j))))] [(cA, .int)]) t) 1 6 A := by
  refine tx_ofW (cc := cX_part) (maxL := 4) (ret := (some FieldType.boolean)) (by decide) rfl ?_
  intro p e s m args below meth c s₁ B9 hml hv9
  obtain ⟨rfl, ⟨hP, hK, hD⟩, hE⟩ := hv9
  have hx := B9.exec
  have hb := B9.bytes
  have hr := B9.returns
  have hts := atoms_spec (ws := (Cond.code yX_part cX_part 4 (some FieldType.boolean) :: bw)) B9.pre
  have hw : ∀ w ∈ bw, w.before _ s = true := fun w h => hts w (List.mem_cons_of_mem _ h)
  have hown : s.vm.findClass RX = some m.cls := findClass_of_methodNamed B9.named
  have hlocks := B9.notSynchronized
  have hl := lv_entry ([.ref h, .int (nI u), .int z2]) (n := 4) (Nat.le_of_ble_eq_true rfl)
  rw [lg_entry_eq]
  generalize (lg_sl ([.ref h, .int (nI u), .int z2]) ++ List.replicate (4 - (lg_sl ([.ref h, .int (nI u), .int z2])).length) Slot.unset).toArray = ls at hl ⊢
  have hl : lv_has ls 4 [(0, .ref h), (1, .int (nI u)), (2, .int z2)] := hl
  have hno := B9.noHandlers (hts _ List.mem_cons_self)
  have hS : va_S A s.heap s.heap [] := va_S.rf
  refine lv_aload_n hx hb dX_part_0 rfl (lv_at hl 0 rfl) ?_
  refine lv_iload_n hx hb dX_part_1 rfl (lv_at hl 1 rfl) ?_
  refine lv_iload_n hx hb dX_part_2 rfl (lv_at hl 2 rfl) ?_
  exact tx_pass (C := RX) (As := [.int (nI u), .int z2]) (rest := []) ⟨hx, hb, hml, hown, hw⟩ (cX_checkTwo_n2 l D A h a1 a2 a3 a4 cA n us nb lo hi ho u z2 hst hn hu hz9) (cwV 2 hw (gV w1_206 w1_208 w0_10 w1_1 w1_209) rfl rfl rfl ⟨rfl, by decide, by decide, by decide +kernel⟩ ⟨Nat.le_of_ble_eq_true rfl, Nat.le_of_ble_eq_true rfl⟩) ⟨gE_blind, va_recv (q0 := 0) (ci := 0) hK hP rfl rfl, gE_at hP hK hD hE _⟩ rfl hl.1 rfl (Nat.le_of_ble_eq_true rfl) dX_part_3 ⟨Nat.le_refl _, Nat.le_refl _⟩ hno hlocks (fun st t t' h1 h2 h3 h4 h5 => ⟨txF hS h1 h2 h5.1, gW_mv h2 h4 h5.2⟩) (fun q h => h) hS.2.2

set_option maxHeartbeats 4000000 in
set_option maxRecDepth 100000 in
theorem cX_part_n3 (l : Launch) (D : va_G) (A : Nat → Prop) (h a1 a2 a3 a4 : Nat) (cA : ClassId) (n us : Nat) (nb lo hi ho : Nat → Nat) (u : Nat) (hst : l.stackTraces = false) (hn : n ≤ 8) (hu : u < n) : MetT l yX_part (Cond.code yX_part cX_part 4 (some FieldType.boolean) :: bw) (rmT 9) (va_Pc [.ref h, .int (nI u), .int (nI u)] (gE D vwCl A [(h, .inr (0, [.ref a1, .int (nI n), .ref a2, .ref a3, .ref a4, .int (nI us)])), (a1, .inl (cA, 8, .inl (fun j => nI (nb j)))), (a2, .inl (cA, 8, .inl (fun j => nI (lo j)))), (a3, .inl (cA, 8, .inl (fun j => nI (hi j)))), (a4, .inl (cA, 16, .inl (fun j => nI (ho j))))] [(cA, .int)])) cIAE (fun st t => va_F A st t ∧ (gW D vwCl A [(h, .inr (0, [.ref a1, .int (nI n), .ref a2, .ref a3, .ref a4, .int (nI us)])), (a1, .inl (cA, 8, .inl (fun j => nI (nb j)))), (a2, .inl (cA, 8, .inl (fun j => nI (lo j)))), (a3, .inl (cA, 8, .inl (fun j => nI (hi j)))), (a4, .inl (cA, 16, .inl (fun j => nI (ho j))))] [(cA, .int)]) t) 1 6 A := by
  refine tx_ofW (cc := cX_part) (maxL := 4) (ret := (some FieldType.boolean)) (by decide) rfl ?_
  intro p e s m args below meth c s₁ B9 hml hv9
  obtain ⟨rfl, ⟨hP, hK, hD⟩, hE⟩ := hv9
  have hx := B9.exec
  have hb := B9.bytes
  have hr := B9.returns
  have hts := atoms_spec (ws := (Cond.code yX_part cX_part 4 (some FieldType.boolean) :: bw)) B9.pre
  have hw : ∀ w ∈ bw, w.before _ s = true := fun w h => hts w (List.mem_cons_of_mem _ h)
  have hown : s.vm.findClass RX = some m.cls := findClass_of_methodNamed B9.named
  have hlocks := B9.notSynchronized
  have hl := lv_entry ([.ref h, .int (nI u), .int (nI u)]) (n := 4) (Nat.le_of_ble_eq_true rfl)
  rw [lg_entry_eq]
  generalize (lg_sl ([.ref h, .int (nI u), .int (nI u)]) ++ List.replicate (4 - (lg_sl ([.ref h, .int (nI u), .int (nI u)])).length) Slot.unset).toArray = ls at hl ⊢
  have hl : lv_has ls 4 [(0, .ref h), (1, .int (nI u)), (2, .int (nI u))] := hl
  have hno := B9.noHandlers (hts _ List.mem_cons_self)
  have hS : va_S A s.heap s.heap [] := va_S.rf
  refine lv_aload_n hx hb dX_part_0 rfl (lv_at hl 0 rfl) ?_
  refine lv_iload_n hx hb dX_part_1 rfl (lv_at hl 1 rfl) ?_
  refine lv_iload_n hx hb dX_part_2 rfl (lv_at hl 2 rfl) ?_
  exact tx_pass (C := RX) (As := [.int (nI u), .int (nI u)]) (rest := []) ⟨hx, hb, hml, hown, hw⟩ (cX_checkTwo_n3 l D A h a1 a2 a3 a4 cA n us nb lo hi ho u hst hn hu) (cwV 2 hw (gV w1_206 w1_208 w0_10 w1_1 w1_209) rfl rfl rfl ⟨rfl, by decide, by decide, by decide +kernel⟩ ⟨Nat.le_of_ble_eq_true rfl, Nat.le_of_ble_eq_true rfl⟩) ⟨gE_blind, va_recv (q0 := 0) (ci := 0) hK hP rfl rfl, gE_at hP hK hD hE _⟩ rfl hl.1 rfl (Nat.le_of_ble_eq_true rfl) dX_part_3 ⟨Nat.le_refl _, Nat.le_refl _⟩ hno hlocks (fun st t t' h1 h2 h3 h4 h5 => ⟨txF hS h1 h2 h5.1, gW_mv h2 h4 h5.2⟩) (fun q h => h) hS.2.2

set_option maxHeartbeats 4000000 in
set_option maxRecDepth 100000 in
theorem cX_adjacent_n1 (l : Launch) (D : va_G) (A : Nat → Prop) (h a1 a2 a3 a4 : Nat) (cA : ClassId) (n us : Nat) (nb lo hi ho : Nat → Nat) (z1 z2 : Int32) (hst : l.stackTraces = false) (hn : n ≤ 8) (hz9 : ∀ k, k < n → z1 ≠ nI k) : MetT l yX_adjacent (Cond.code yX_adjacent cX_adjacent 3 (some FieldType.boolean) :: bw) (rmT 8) (va_Pc [.ref h, .int z1, .int z2] (gE D vwCl A [(h, .inr (0, [.ref a1, .int (nI n), .ref a2, .ref a3, .ref a4, .int (nI us)])), (a1, .inl (cA, 8, .inl (fun j => nI (nb j)))), (a2, .inl (cA, 8, .inl (fun j => nI (lo j)))), (a3, .inl (cA, 8, .inl (fun j => nI (hi j)))), (a4, .inl (cA, 16, .inl (fun j => nI (ho j))))] [(cA, .int)])) cIOB (fun st t => va_F A st t ∧ (gW D vwCl A [(h, .inr (0, [.ref a1, .int (nI n), .ref a2, .ref a3, .ref a4, .int (nI us)])), (a1, .inl (cA, 8, .inl (fun j => nI (nb j)))), (a2, .inl (cA, 8, .inl (fun j => nI (lo j)))), (a3, .inl (cA, 8, .inl (fun j => nI (hi j)))), (a4, .inl (cA, 16, .inl (fun j => nI (ho j))))] [(cA, .int)]) t) 1 6 A := by
  refine tx_ofW (cc := cX_adjacent) (maxL := 3) (ret := (some FieldType.boolean)) (by decide) rfl ?_
  intro p e s m args below meth c s₁ B9 hml hv9
  obtain ⟨rfl, ⟨hP, hK, hD⟩, hE⟩ := hv9
  have hx := B9.exec
  have hb := B9.bytes
  have hr := B9.returns
  have hts := atoms_spec (ws := (Cond.code yX_adjacent cX_adjacent 3 (some FieldType.boolean) :: bw)) B9.pre
  have hw : ∀ w ∈ bw, w.before _ s = true := fun w h => hts w (List.mem_cons_of_mem _ h)
  have hown : s.vm.findClass RX = some m.cls := findClass_of_methodNamed B9.named
  have hlocks := B9.notSynchronized
  have hl := lv_entry ([.ref h, .int z1, .int z2]) (n := 3) (Nat.le_of_ble_eq_true rfl)
  rw [lg_entry_eq]
  generalize (lg_sl ([.ref h, .int z1, .int z2]) ++ List.replicate (3 - (lg_sl ([.ref h, .int z1, .int z2])).length) Slot.unset).toArray = ls at hl ⊢
  have hl : lv_has ls 3 [(0, .ref h), (1, .int z1), (2, .int z2)] := hl
  have hno := B9.noHandlers (hts _ List.mem_cons_self)
  have hS : va_S A s.heap s.heap [] := va_S.rf
  refine lv_aload_n hx hb dX_adjacent_0 rfl (lv_at hl 0 rfl) ?_
  refine lv_iload_n hx hb dX_adjacent_1 rfl (lv_at hl 1 rfl) ?_
  exact tx_pass (C := RX) (As := [.int z1]) (rest := []) ⟨hx, hb, hml, hown, hw⟩ (cX_checkVertex_n l D A h a1 a2 a3 a4 cA n us nb lo hi ho z1 hst hn hz9) (cwV 1 hw (gV w1_210 w1_212 w0_11 w1_1 w1_213) rfl rfl rfl ⟨rfl, by decide, by decide, by decide +kernel⟩ ⟨Nat.le_of_ble_eq_true rfl, Nat.le_of_ble_eq_true rfl⟩) ⟨gE_blind, va_recv (q0 := 0) (ci := 0) hK hP rfl rfl, gE_at hP hK hD hE _⟩ rfl hl.1 rfl (Nat.le_of_ble_eq_true rfl) dX_adjacent_2 ⟨Nat.le_refl _, Nat.le_refl _⟩ hno hlocks (fun st t t' h1 h2 h3 h4 h5 => ⟨txF hS h1 h2 h5.1, gW_mv h2 h4 h5.2⟩) (fun q h => h) hS.2.2

set_option maxHeartbeats 4000000 in
set_option maxRecDepth 100000 in
theorem cX_adjacent_n2 (l : Launch) (D : va_G) (A : Nat → Prop) (h a1 a2 a3 a4 : Nat) (cA : ClassId) (n us : Nat) (nb lo hi ho : Nat → Nat) (u : Nat) (z2 : Int32) (hst : l.stackTraces = false) (hn : n ≤ 8) (hu : u < n) (hz9 : ∀ k, k < n → z2 ≠ nI k) : MetT l yX_adjacent (Cond.code yX_adjacent cX_adjacent 3 (some FieldType.boolean) :: bw) (rmT 8) (va_Pc [.ref h, .int (nI u), .int z2] (gE D vwCl A [(h, .inr (0, [.ref a1, .int (nI n), .ref a2, .ref a3, .ref a4, .int (nI us)])), (a1, .inl (cA, 8, .inl (fun j => nI (nb j)))), (a2, .inl (cA, 8, .inl (fun j => nI (lo j)))), (a3, .inl (cA, 8, .inl (fun j => nI (hi j)))), (a4, .inl (cA, 16, .inl (fun j => nI (ho j))))] [(cA, .int)])) cIOB (fun st t => va_F A st t ∧ (gW D vwCl A [(h, .inr (0, [.ref a1, .int (nI n), .ref a2, .ref a3, .ref a4, .int (nI us)])), (a1, .inl (cA, 8, .inl (fun j => nI (nb j)))), (a2, .inl (cA, 8, .inl (fun j => nI (lo j)))), (a3, .inl (cA, 8, .inl (fun j => nI (hi j)))), (a4, .inl (cA, 16, .inl (fun j => nI (ho j))))] [(cA, .int)]) t) 1 6 A := by
  refine tx_ofW (cc := cX_adjacent) (maxL := 3) (ret := (some FieldType.boolean)) (by decide) rfl ?_
  intro p e s m args below meth c s₁ B9 hml hv9
  obtain ⟨rfl, ⟨hP, hK, hD⟩, hE⟩ := hv9
  have hx := B9.exec
  have hb := B9.bytes
  have hr := B9.returns
  have hts := atoms_spec (ws := (Cond.code yX_adjacent cX_adjacent 3 (some FieldType.boolean) :: bw)) B9.pre
  have hw : ∀ w ∈ bw, w.before _ s = true := fun w h => hts w (List.mem_cons_of_mem _ h)
  have hown : s.vm.findClass RX = some m.cls := findClass_of_methodNamed B9.named
  have hlocks := B9.notSynchronized
  have hl := lv_entry ([.ref h, .int (nI u), .int z2]) (n := 3) (Nat.le_of_ble_eq_true rfl)
  rw [lg_entry_eq]
  generalize (lg_sl ([.ref h, .int (nI u), .int z2]) ++ List.replicate (3 - (lg_sl ([.ref h, .int (nI u), .int z2])).length) Slot.unset).toArray = ls at hl ⊢
  have hl : lv_has ls 3 [(0, .ref h), (1, .int (nI u)), (2, .int z2)] := hl
  have hno := B9.noHandlers (hts _ List.mem_cons_self)
  have hS : va_S A s.heap s.heap [] := va_S.rf
  refine lv_aload_n hx hb dX_adjacent_0 rfl (lv_at hl 0 rfl) ?_
  refine lv_iload_n hx hb dX_adjacent_1 rfl (lv_at hl 1 rfl) ?_
  refine nr_V0 (b := h) (As := [.int (nI u)]) (C := RX) (rest := []) ⟨hx, hb, hml, hown, hw⟩ (cX_checkVertex_y l D A h a1 a2 a3 a4 cA n us nb lo hi ho u hn (by omega)) (cwV 1 hw (gV w1_210 w1_212 w0_11 w1_1 w1_213) rfl rfl rfl ⟨rfl, by decide, by decide, by decide +kernel⟩ ⟨Nat.le_of_ble_eq_true rfl, Nat.le_of_ble_eq_true rfl⟩) gB_blind (va_recv (q0 := 0) (ci := 0) hK hP rfl rfl) (gB_at hP hK _) rfl hl.1 rfl (Nat.le_of_ble_eq_true rfl) dX_adjacent_2 ⟨Nat.zero_le _, Nat.zero_le _⟩ ?_
  refine lv_aload_n hx hb dX_adjacent_5 rfl (lv_at hl 0 rfl) ?_
  refine lv_iload_n hx hb dX_adjacent_6 rfl (lv_at hl 2 rfl) ?_
  exact tx_pass (C := RX) (As := [.int z2]) (rest := []) ⟨hx, hb, hml, hown, hw⟩ (cX_checkVertex_n l D A h a1 a2 a3 a4 cA n us nb lo hi ho z2 hst hn hz9) (cwV 1 hw (gV w1_210 w1_212 w0_11 w1_1 w1_213) rfl rfl rfl ⟨rfl, by decide, by decide, by decide +kernel⟩ ⟨Nat.le_of_ble_eq_true rfl, Nat.le_of_ble_eq_true rfl⟩) ⟨gE_blind, va_recv (q0 := 0) (ci := 0) hK hP rfl rfl, gE_at hP hK hD hE _⟩ rfl hl.1 rfl (Nat.le_of_ble_eq_true rfl) dX_adjacent_7 ⟨Nat.le_refl _, Nat.le_refl _⟩ hno hlocks (fun st t t' h1 h2 h3 h4 h5 => ⟨txF hS h1 h2 h5.1, gW_mv h2 h4 h5.2⟩) (fun q h => h) hS.2.2

set_option maxHeartbeats 4000000 in
set_option maxRecDepth 100000 in
theorem cX_leader_n1 (l : Launch) (D : va_G) (A : Nat → Prop) (h a1 a2 a3 a4 : Nat) (cA : ClassId) (n us : Nat) (nb lo hi ho : Nat → Nat) (z1 : Int32) (hst : l.stackTraces = false) (hn : n ≤ 8) (hz9 : ∀ k, k < n → z1 ≠ nI k) : MetT l yX_leader (Cond.code yX_leader cX_leader 4 (some FieldType.int) :: bw) (rmT 8) (va_Pc [.ref h, .int z1] (gE D vwCl A [(h, .inr (0, [.ref a1, .int (nI n), .ref a2, .ref a3, .ref a4, .int (nI us)])), (a1, .inl (cA, 8, .inl (fun j => nI (nb j)))), (a2, .inl (cA, 8, .inl (fun j => nI (lo j)))), (a3, .inl (cA, 8, .inl (fun j => nI (hi j)))), (a4, .inl (cA, 16, .inl (fun j => nI (ho j))))] [(cA, .int)])) cIOB (fun st t => va_F A st t ∧ (gW D vwCl A [(h, .inr (0, [.ref a1, .int (nI n), .ref a2, .ref a3, .ref a4, .int (nI us)])), (a1, .inl (cA, 8, .inl (fun j => nI (nb j)))), (a2, .inl (cA, 8, .inl (fun j => nI (lo j)))), (a3, .inl (cA, 8, .inl (fun j => nI (hi j)))), (a4, .inl (cA, 16, .inl (fun j => nI (ho j))))] [(cA, .int)]) t) 1 6 A := by
  refine tx_ofW (cc := cX_leader) (maxL := 4) (ret := (some FieldType.int)) (by decide) rfl ?_
  intro p e s m args below meth c s₁ B9 hml hv9
  obtain ⟨rfl, ⟨hP, hK, hD⟩, hE⟩ := hv9
  have hx := B9.exec
  have hb := B9.bytes
  have hr := B9.returns
  have hts := atoms_spec (ws := (Cond.code yX_leader cX_leader 4 (some FieldType.int) :: bw)) B9.pre
  have hw : ∀ w ∈ bw, w.before _ s = true := fun w h => hts w (List.mem_cons_of_mem _ h)
  have hown : s.vm.findClass RX = some m.cls := findClass_of_methodNamed B9.named
  have hlocks := B9.notSynchronized
  have hl := lv_entry ([.ref h, .int z1]) (n := 4) (Nat.le_of_ble_eq_true rfl)
  rw [lg_entry_eq]
  generalize (lg_sl ([.ref h, .int z1]) ++ List.replicate (4 - (lg_sl ([.ref h, .int z1])).length) Slot.unset).toArray = ls at hl ⊢
  have hl : lv_has ls 4 [(0, .ref h), (1, .int z1)] := hl
  have hno := B9.noHandlers (hts _ List.mem_cons_self)
  have hS : va_S A s.heap s.heap [] := va_S.rf
  refine lv_aload_n hx hb dX_leader_0 rfl (lv_at hl 0 rfl) ?_
  refine lv_iload_n hx hb dX_leader_1 rfl (lv_at hl 1 rfl) ?_
  exact tx_pass (C := RX) (As := [.int z1]) (rest := []) ⟨hx, hb, hml, hown, hw⟩ (cX_checkVertex_n l D A h a1 a2 a3 a4 cA n us nb lo hi ho z1 hst hn hz9) (cwV 1 hw (gV w1_210 w1_212 w0_11 w1_1 w1_213) rfl rfl rfl ⟨rfl, by decide, by decide, by decide +kernel⟩ ⟨Nat.le_of_ble_eq_true rfl, Nat.le_of_ble_eq_true rfl⟩) ⟨gE_blind, va_recv (q0 := 0) (ci := 0) hK hP rfl rfl, gE_at hP hK hD hE _⟩ rfl hl.1 rfl (Nat.le_of_ble_eq_true rfl) dX_leader_2 ⟨Nat.le_refl _, Nat.le_refl _⟩ hno hlocks (fun st t t' h1 h2 h3 h4 h5 => ⟨txF hS h1 h2 h5.1, gW_mv h2 h4 h5.2⟩) (fun q h => h) hS.2.2

set_option maxHeartbeats 4000000 in
set_option maxRecDepth 100000 in
theorem cX_low_n1 (l : Launch) (D : va_G) (A : Nat → Prop) (h a1 a2 a3 a4 : Nat) (cA : ClassId) (n us : Nat) (nb lo hi ho : Nat → Nat) (z1 : Int32) (hst : l.stackTraces = false) (hn : n ≤ 8) (hz9 : ∀ k, k < n → z1 ≠ nI k) : MetT l yX_low (Cond.code yX_low cX_low 2 (some FieldType.int) :: bw) (rmT 8) (va_Pc [.ref h, .int z1] (gE D vwCl A [(h, .inr (0, [.ref a1, .int (nI n), .ref a2, .ref a3, .ref a4, .int (nI us)])), (a1, .inl (cA, 8, .inl (fun j => nI (nb j)))), (a2, .inl (cA, 8, .inl (fun j => nI (lo j)))), (a3, .inl (cA, 8, .inl (fun j => nI (hi j)))), (a4, .inl (cA, 16, .inl (fun j => nI (ho j))))] [(cA, .int)])) cIOB (fun st t => va_F A st t ∧ (gW D vwCl A [(h, .inr (0, [.ref a1, .int (nI n), .ref a2, .ref a3, .ref a4, .int (nI us)])), (a1, .inl (cA, 8, .inl (fun j => nI (nb j)))), (a2, .inl (cA, 8, .inl (fun j => nI (lo j)))), (a3, .inl (cA, 8, .inl (fun j => nI (hi j)))), (a4, .inl (cA, 16, .inl (fun j => nI (ho j))))] [(cA, .int)]) t) 1 6 A := by
  refine tx_ofW (cc := cX_low) (maxL := 2) (ret := (some FieldType.int)) (by decide) rfl ?_
  intro p e s m args below meth c s₁ B9 hml hv9
  obtain ⟨rfl, ⟨hP, hK, hD⟩, hE⟩ := hv9
  have hx := B9.exec
  have hb := B9.bytes
  have hr := B9.returns
  have hts := atoms_spec (ws := (Cond.code yX_low cX_low 2 (some FieldType.int) :: bw)) B9.pre
  have hw : ∀ w ∈ bw, w.before _ s = true := fun w h => hts w (List.mem_cons_of_mem _ h)
  have hown : s.vm.findClass RX = some m.cls := findClass_of_methodNamed B9.named
  have hlocks := B9.notSynchronized
  have hl := lv_entry ([.ref h, .int z1]) (n := 2) (Nat.le_of_ble_eq_true rfl)
  rw [lg_entry_eq]
  generalize (lg_sl ([.ref h, .int z1]) ++ List.replicate (2 - (lg_sl ([.ref h, .int z1])).length) Slot.unset).toArray = ls at hl ⊢
  have hl : lv_has ls 2 [(0, .ref h), (1, .int z1)] := hl
  have hno := B9.noHandlers (hts _ List.mem_cons_self)
  have hS : va_S A s.heap s.heap [] := va_S.rf
  refine lv_aload_n hx hb dX_low_0 rfl (lv_at hl 0 rfl) ?_
  refine lv_iload_n hx hb dX_low_1 rfl (lv_at hl 1 rfl) ?_
  exact tx_pass (C := RX) (As := [.int z1]) (rest := []) ⟨hx, hb, hml, hown, hw⟩ (cX_checkVertex_n l D A h a1 a2 a3 a4 cA n us nb lo hi ho z1 hst hn hz9) (cwV 1 hw (gV w1_210 w1_212 w0_11 w1_1 w1_213) rfl rfl rfl ⟨rfl, by decide, by decide, by decide +kernel⟩ ⟨Nat.le_of_ble_eq_true rfl, Nat.le_of_ble_eq_true rfl⟩) ⟨gE_blind, va_recv (q0 := 0) (ci := 0) hK hP rfl rfl, gE_at hP hK hD hE _⟩ rfl hl.1 rfl (Nat.le_of_ble_eq_true rfl) dX_low_2 ⟨Nat.le_refl _, Nat.le_refl _⟩ hno hlocks (fun st t t' h1 h2 h3 h4 h5 => ⟨txF hS h1 h2 h5.1, gW_mv h2 h4 h5.2⟩) (fun q h => h) hS.2.2

set_option maxHeartbeats 4000000 in
set_option maxRecDepth 100000 in
theorem cX_high_n1 (l : Launch) (D : va_G) (A : Nat → Prop) (h a1 a2 a3 a4 : Nat) (cA : ClassId) (n us : Nat) (nb lo hi ho : Nat → Nat) (z1 : Int32) (hst : l.stackTraces = false) (hn : n ≤ 8) (hz9 : ∀ k, k < n → z1 ≠ nI k) : MetT l yX_high (Cond.code yX_high cX_high 2 (some FieldType.int) :: bw) (rmT 8) (va_Pc [.ref h, .int z1] (gE D vwCl A [(h, .inr (0, [.ref a1, .int (nI n), .ref a2, .ref a3, .ref a4, .int (nI us)])), (a1, .inl (cA, 8, .inl (fun j => nI (nb j)))), (a2, .inl (cA, 8, .inl (fun j => nI (lo j)))), (a3, .inl (cA, 8, .inl (fun j => nI (hi j)))), (a4, .inl (cA, 16, .inl (fun j => nI (ho j))))] [(cA, .int)])) cIOB (fun st t => va_F A st t ∧ (gW D vwCl A [(h, .inr (0, [.ref a1, .int (nI n), .ref a2, .ref a3, .ref a4, .int (nI us)])), (a1, .inl (cA, 8, .inl (fun j => nI (nb j)))), (a2, .inl (cA, 8, .inl (fun j => nI (lo j)))), (a3, .inl (cA, 8, .inl (fun j => nI (hi j)))), (a4, .inl (cA, 16, .inl (fun j => nI (ho j))))] [(cA, .int)]) t) 1 6 A := by
  refine tx_ofW (cc := cX_high) (maxL := 2) (ret := (some FieldType.int)) (by decide) rfl ?_
  intro p e s m args below meth c s₁ B9 hml hv9
  obtain ⟨rfl, ⟨hP, hK, hD⟩, hE⟩ := hv9
  have hx := B9.exec
  have hb := B9.bytes
  have hr := B9.returns
  have hts := atoms_spec (ws := (Cond.code yX_high cX_high 2 (some FieldType.int) :: bw)) B9.pre
  have hw : ∀ w ∈ bw, w.before _ s = true := fun w h => hts w (List.mem_cons_of_mem _ h)
  have hown : s.vm.findClass RX = some m.cls := findClass_of_methodNamed B9.named
  have hlocks := B9.notSynchronized
  have hl := lv_entry ([.ref h, .int z1]) (n := 2) (Nat.le_of_ble_eq_true rfl)
  rw [lg_entry_eq]
  generalize (lg_sl ([.ref h, .int z1]) ++ List.replicate (2 - (lg_sl ([.ref h, .int z1])).length) Slot.unset).toArray = ls at hl ⊢
  have hl : lv_has ls 2 [(0, .ref h), (1, .int z1)] := hl
  have hno := B9.noHandlers (hts _ List.mem_cons_self)
  have hS : va_S A s.heap s.heap [] := va_S.rf
  refine lv_aload_n hx hb dX_high_0 rfl (lv_at hl 0 rfl) ?_
  refine lv_iload_n hx hb dX_high_1 rfl (lv_at hl 1 rfl) ?_
  exact tx_pass (C := RX) (As := [.int z1]) (rest := []) ⟨hx, hb, hml, hown, hw⟩ (cX_checkVertex_n l D A h a1 a2 a3 a4 cA n us nb lo hi ho z1 hst hn hz9) (cwV 1 hw (gV w1_210 w1_212 w0_11 w1_1 w1_213) rfl rfl rfl ⟨rfl, by decide, by decide, by decide +kernel⟩ ⟨Nat.le_of_ble_eq_true rfl, Nat.le_of_ble_eq_true rfl⟩) ⟨gE_blind, va_recv (q0 := 0) (ci := 0) hK hP rfl rfl, gE_at hP hK hD hE _⟩ rfl hl.1 rfl (Nat.le_of_ble_eq_true rfl) dX_high_2 ⟨Nat.le_refl _, Nat.le_refl _⟩ hno hlocks (fun st t t' h1 h2 h3 h4 h5 => ⟨txF hS h1 h2 h5.1, gW_mv h2 h4 h5.2⟩) (fun q h => h) hS.2.2
