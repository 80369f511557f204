/-! The law's helpers: each calls one method, and answers which exception came. -/
abbrev hU : Type := ((Nat → Nat) × (Nat → Nat) × (Nat → Nat) × Nat) × (Nat → Int64)
abbrev hW9 (h a1 a2 a3 a4 o : Nat) (cA cL : ClassId) (n : Nat) (nb : Nat → Nat) (u : hU) : va_W := [(h, .inr (0, [.ref a1, .int (nI n), .ref a2, .ref a3, .ref a4, .int (nI u.1.2.2.2)])), (a1, .inl (cA, 8, .inl (fun j => nI (nb j)))), (a2, .inl (cA, 8, .inl (fun j => nI (u.1.1 j)))), (a3, .inl (cA, 8, .inl (fun j => nI (u.1.2.1 j)))), (a4, .inl (cA, 16, .inl (fun j => nI (u.1.2.2.1 j)))), (o, .inl (cL, 1, .inr (.inl u.2)))]
section HX
variable {D : va_G} {A : Nat → Prop} {h a1 a2 a3 a4 o : Nat} {cA cL : ClassId} {n : Nat} {nb : Nat → Nat} {u : hU} {H : Heap}
theorem hx_nd (hD : va_D A (hW9 h a1 a2 a3 a4 o cA cL n nb u)) : [h, a1, a2, a3, a4, o].Nodup := nd_of hD
theorem hx_A (hD : va_D A (hW9 h a1 a2 a3 a4 o cA cL n nb u)) : ∀ q, xA h a1 a2 a3 a4 q → A q := by
  intro q hq
  rcases hq with rfl | rfl | rfl | rfl | rfl
  · exact hD.2 0 _ rfl
  · exact hD.2 1 _ rfl
  · exact hD.2 2 _ rfl
  · exact hD.2 3 _ rfl
  · exact hD.2 4 _ rfl
theorem hx_o (hD : va_D A (hW9 h a1 a2 a3 a4 o cA cL n nb u)) : ¬ xA h a1 a2 a3 a4 o := by
  intro hq
  rcases hq with hq | hq | hq | hq | hq
  · exact absurd (hD.1 5 0 _ _ rfl rfl hq) (by decide)
  · exact absurd (hD.1 5 1 _ _ rfl rfl hq) (by decide)
  · exact absurd (hD.1 5 2 _ _ rfl rfl hq) (by decide)
  · exact absurd (hD.1 5 3 _ _ rfl rfl hq) (by decide)
  · exact absurd (hD.1 5 4 _ _ rfl rfl hq) (by decide)
theorem hx_Dx (hD : va_D A (hW9 h a1 a2 a3 a4 o cA cL n nb u)) (n' : Nat) (nb' : Nat → Nat) (u' : (Nat → Nat) × (Nat → Nat) × (Nat → Nat) × Nat) : va_D (xA h a1 a2 a3 a4) (xW9 h a1 a2 a3 a4 cA n' nb' u') := by
  refine vd_of ?_ ?_
  · have h1 : ([h, a1, a2, a3, a4] ++ [o]).Nodup := hx_nd hD
    exact (List.nodup_append.mp h1).1
  · intro a ha
    have ha : a ∈ [h, a1, a2, a3, a4] := ha
    simp only [List.mem_cons, List.not_mem_nil, or_false] at ha
    exact ha
theorem hx_D (hD : va_D A (hW9 h a1 a2 a3 a4 o cA cL n nb u)) (n' : Nat) (nb' : Nat → Nat) (u' : hU) : va_D A (hW9 h a1 a2 a3 a4 o cA cL n' nb' u') := by
  refine vd_of (hx_nd hD) fun a ha => ?_
  have ha : a ∈ (hW9 h a1 a2 a3 a4 o cA cL n nb u).map (fun q => q.1) := ha
  obtain ⟨q, hq, rfl⟩ := List.mem_map.mp ha
  obtain ⟨k, hk⟩ := List.getElem?_of_mem hq
  exact hD.2 k q hk
theorem hx_P (hP : va_P D vwCl (hW9 h a1 a2 a3 a4 o cA cL n nb u) H) : va_P D vwCl (xW9 h a1 a2 a3 a4 cA n nb u.1) H := hP.sub [0, 1, 2, 3, 4] rfl
theorem hx_J {H1 : Heap} {n' : Nat} {nb' : Nat → Nat} {u' : (Nat → Nat) × (Nat → Nat) × (Nat → Nat) × Nat} (hP : va_P D vwCl (hW9 h a1 a2 a3 a4 o cA cL n nb u) H) (hD : va_D A (hW9 h a1 a2 a3 a4 o cA cL n nb u)) (hk : ∀ q : Nat, q < H.size → ¬ xA h a1 a2 a3 a4 q → H1[q]? = H[q]?) (hP1 : va_P D vwCl (xW9 h a1 a2 a3 a4 cA n' nb' u') H1) : va_P D vwCl (hW9 h a1 a2 a3 a4 o cA cL n' nb' (u', u.2)) H1 := by
  have h2 : va_P D vwCl [(o, .inl (cL, 1, .inr (.inl u.2)))] H1 := vp_kept (hP.sub [5] rfl) hk fun a ha => by
    have ha : a ∈ [o] := ha
    simp only [List.mem_cons, List.not_mem_nil, or_false] at ha
    rw [ha]
    exact hx_o hD
  exact va_P.app hP1 h2
theorem updL_0 {f : Nat → Int64} {x : Int64} : vp_updL f 0 x 0 = x := if_pos rfl
theorem cast_ISE {s : State} {args : Array Value} (h : ∀ w ∈ tn, va_Nw w s) : (Cond.castable cISE cISE).before args s = true := va_Nw.use rfl (h _ (by simp [tn]))
theorem cast_IOB {s : State} {args : Array Value} (h : ∀ w ∈ tn, va_Nw w s) : (Cond.castable cIOB cIOB).before args s = true := va_Nw.use rfl (h _ (by simp [tn]))
theorem cast_IAE {s : State} {args : Array Value} (h : ∀ w ∈ tn, va_Nw w s) : (Cond.castable cIAE cIAE).before args s = true := va_Nw.use rfl (h _ (by simp [tn]))
theorem lif_f {b : Bool} (h : b = false) : (0 : Int64) = if b = true then 1 else 0 := by subst h; rfl
theorem lif_t {b : Bool} (h : b = true) : (1 : Int64) = if b = true then 1 else 0 := by subst h; rfl
end HX

set_option maxHeartbeats 4000000 in
set_option maxRecDepth 100000 in
theorem hL_grow_y (l : Launch) (D : va_G) (A : Nat → Prop) (h a1 a2 a3 a4 o : Nat) (cA cL : ClassId) (n : Nat) (nb : Nat → Nat) (u : hU)   (hn : n < 8) : Met l yL_grow (Cond.codeWith yL_grow cL_grow 3 (some FieldType.int) [(0, 8, 11, 13)] :: bw) (rmT 20) (va_Pc [.ref h, .ref o] (gL D vwCl A (xA h a1 a2 a3 a4) (hW9 h a1 a2 a3 a4 o cA cL n nb u) [(cA, .int), (cL, .long)])) (va_Qi (fun r (w : hU) => r = nI 0 ∧ w.2 0 = (nI n : Int32).toInt64) (fun w => gW D vwCl A (hW9 h a1 a2 a3 a4 o cA cL (n + 1) (upN nb n 0) w) [(cA, .int), (cL, .long)]) A) 1 6 A := by
  refine va_MetW (cc := cL_grow) (maxL := 3) (ret := (some FieldType.int)) (hh := [(0, 8, 11, 13)]) (by decide) rfl ?_
  intro p e s m args below meth c s₁ B9 hml hv9
  obtain ⟨rfl, ⟨hP, hK, hD⟩, hE, hN1, hN2⟩ := hv9
  have hx := B9.exec
  have hb := B9.bytes
  have hr := B9.returns
  have hts := atoms_spec (ws := (Cond.codeWith yL_grow cL_grow 3 (some FieldType.int) [(0, 8, 11, 13)] :: bw)) B9.pre
  have hw : ∀ w ∈ bw, w.before _ s = true := fun w h => hts w (List.mem_cons_of_mem _ h)
  have hown : s.vm.findClass RL = some m.cls := findClass_of_methodNamed B9.named
  have hlocks := B9.notSynchronized
  have hl := lv_entry ([.ref h, .ref o]) (n := 3) (Nat.le_of_ble_eq_true rfl)
  rw [lg_entry_eq]
  generalize (lg_sl ([.ref h, .ref o]) ++ List.replicate (3 - (lg_sl ([.ref h, .ref o])).length) Slot.unset).toArray = ls at hl ⊢
  have hl : lv_has ls 3 [(0, .ref h), (1, .ref o)] := hl
  have htab := tab_of B9 (hts _ List.mem_cons_self)
  have hS : va_S A s.heap s.heap [] := va_S.rf
  have hAx := hx_A hD
  have hPx := hx_P hP
  have hKx := hK.sub [0] (tys' := [(cA, .int)]) rfl
  have hDx := hx_Dx hD n nb u.1
  refine lv_aload_n hx hb dL_grow_0 rfl (lv_at hl 1 rfl) ?_
  refine lv_iconst (v := nI 0) hx hb dL_grow_1 (by decide) ?_
  refine lv_aload_n hx hb dL_grow_2 rfl (lv_at hl 0 rfl) ?_
  refine va_calli (va_runV (C := RX) (As := []) (rest := [.int (nI 0), .ref o]) ⟨hx, hb, hml, hown, hw⟩ (cX_grow_c l D (xA h a1 a2 a3 a4) h a1 a2 a3 a4 cA n u.1.2.2.2 nb u.1.1 u.1.2.1 u.1.2.2.1 hn) (cwV 0 hw (gV w1_117 w1_118 w1_119 w1_1 w1_120) rfl rfl rfl ⟨rfl, by decide, by decide, by decide +kernel⟩ ⟨Nat.le_of_ble_eq_true rfl, Nat.le_of_ble_eq_true rfl⟩) ⟨gW_blind, va_recv (q0 := 0) (ci := 0) hKx hPx rfl rfl, gW_at hPx hKx hDx _⟩ rfl rfl hl.1 rfl (lv_room (Nat.le_of_ble_eq_true rfl)) dL_grow_3 ⟨Nat.zero_le _, Nat.zero_le _⟩) hS (fun q _ h => hAx q h) (fun q h => hAx q h) (fun r9 u5 t9 H locs ht9 hvm9 hpost9 hB9 hz9 hk9 hS => ?_)
  obtain ⟨hPy, -, -⟩ := hB9
  have hPy : va_P D vwCl (xW9 h a1 a2 a3 a4 cA (n + 1) (upN nb n 0) u.1) t9.heap := hPy
  rw [ht9] at hPy
  have hP : va_P D vwCl (hW9 h a1 a2 a3 a4 o cA cL (n + 1) (upN nb n 0) (u.1, u.2)) H := hx_J hP hD hk9 hPy
  have hD := hx_D hD (n + 1) (upN nb n 0) (u.1, u.2)
  subst hpost9
  refine lv_i2l (v := (nI n : Int32).toInt64) hx hb dL_grow_6 rfl ?_
  refine nv_last (f := u.2) (x := (nI n : Int32).toInt64) hx hb hK hP hD hS 5 1 rfl rfl dL_grow_7 (fun H locs hP hD hS => ?_)
  have hP : va_P D vwCl (hW9 h a1 a2 a3 a4 o cA cL (n + 1) (upN nb n 0) (u.1, vp_updL u.2 0 ((nI n : Int32).toInt64))) H := hP
  have hD : va_D A (hW9 h a1 a2 a3 a4 o cA cL (n + 1) (upN nb n 0) (u.1, vp_updL u.2 0 ((nI n : Int32).toInt64))) := hD
  refine lv_goto (tgt := 14) hx hb dL_grow_8 rfl ?_
  refine lv_iconst (v := nI 0) hx hb dL_grow_14 (by decide) ?_
  refine W.widen (k := 1) (n := 6) (Nat.le_of_ble_eq_true rfl) (Nat.le_of_ble_eq_true rfl) ?_
  exact W.iret (v := nI 0) hx hb hr (fun t ht hW => ⟨⟨_, (u.1, vp_updL u.2 0 ((nI n : Int32).toInt64)), rfl, ⟨rfl, updL_0 (f := u.2) (x := (nI n : Int32).toInt64)⟩, by rw [ht]; exact hP, va_K.moved hW.alike hK, hD⟩, hS.F ht⟩) hS.2.2 dL_grow_15

set_option maxHeartbeats 4000000 in
set_option maxRecDepth 100000 in
theorem hL_grow_n (l : Launch) (D : va_G) (A : Nat → Prop) (h a1 a2 a3 a4 o : Nat) (cA cL : ClassId) (n : Nat) (nb : Nat → Nat) (u : hU)  (hst : l.stackTraces = false) (hn : n = 8) : Met l yL_grow (Cond.codeWith yL_grow cL_grow 3 (some FieldType.int) [(0, 8, 11, 13)] :: bw) (rmT 20) (va_Pc [.ref h, .ref o] (gL D vwCl A (xA h a1 a2 a3 a4) (hW9 h a1 a2 a3 a4 o cA cL n nb u) [(cA, .int), (cL, .long)])) (va_Qi (fun r (w : hU) => r = nI 1 ∧ True) (fun w => gW D vwCl A (hW9 h a1 a2 a3 a4 o cA cL n nb w) [(cA, .int), (cL, .long)]) A) 1 6 A := by
  refine va_MetW (cc := cL_grow) (maxL := 3) (ret := (some FieldType.int)) (hh := [(0, 8, 11, 13)]) (by decide) rfl ?_
  intro p e s m args below meth c s₁ B9 hml hv9
  obtain ⟨rfl, ⟨hP, hK, hD⟩, hE, hN1, hN2⟩ := hv9
  have hx := B9.exec
  have hb := B9.bytes
  have hr := B9.returns
  have hts := atoms_spec (ws := (Cond.codeWith yL_grow cL_grow 3 (some FieldType.int) [(0, 8, 11, 13)] :: bw)) B9.pre
  have hw : ∀ w ∈ bw, w.before _ s = true := fun w h => hts w (List.mem_cons_of_mem _ h)
  have hown : s.vm.findClass RL = some m.cls := findClass_of_methodNamed B9.named
  have hlocks := B9.notSynchronized
  have hl := lv_entry ([.ref h, .ref o]) (n := 3) (Nat.le_of_ble_eq_true rfl)
  rw [lg_entry_eq]
  generalize (lg_sl ([.ref h, .ref o]) ++ List.replicate (3 - (lg_sl ([.ref h, .ref o])).length) Slot.unset).toArray = ls at hl ⊢
  have hl : lv_has ls 3 [(0, .ref h), (1, .ref o)] := hl
  have htab := tab_of B9 (hts _ List.mem_cons_self)
  have hS : va_S A s.heap s.heap [] := va_S.rf
  have hAx := hx_A hD
  have hPx := hx_P hP
  have hKx := hK.sub [0] (tys' := [(cA, .int)]) rfl
  have hDx := hx_Dx hD n nb u.1
  refine lv_aload_n hx hb dL_grow_0 rfl (lv_at hl 1 rfl) ?_
  refine lv_iconst (v := nI 0) hx hb dL_grow_1 (by decide) ?_
  refine lv_aload_n hx hb dL_grow_2 rfl (lv_at hl 0 rfl) ?_
  refine tx_catch1 (name := "java/lang/IllegalStateException") (C := RX) (As := []) (rest := [.int (nI 0), .ref o]) ⟨hx, hb, hml, hown, hw⟩ (cX_grow_n l D (xA h a1 a2 a3 a4) h a1 a2 a3 a4 cA n u.1.2.2.2 nb u.1.1 u.1.2.1 u.1.2.2.1 hst hn) (cwV 0 hw (gV w1_117 w1_118 w1_119 w1_1 w1_120) rfl rfl rfl ⟨rfl, by decide, by decide, by decide +kernel⟩ ⟨Nat.le_of_ble_eq_true rfl, Nat.le_of_ble_eq_true rfl⟩) ⟨gE_blind, va_recv (q0 := 0) (ci := 0) hKx hPx rfl rfl, gE_at hPx hKx hDx hE _⟩ rfl hl.1 rfl (Nat.le_of_ble_eq_true rfl) dL_grow_3 ⟨Nat.le_refl _, Nat.le_refl _⟩ htab (by decide) (by decide) (hw _ w1_116) (cast_ISE hE.1) (fun q9 st9 t9 H locs h1 h2 h3 h4 h5 => ?_)
  have hS := tx_S hS hAx h1 h2 h4.1 h5
  have hk9 := tx_K h1 h2 h4.1
  obtain ⟨hPy, -, -⟩ := h4.2
  have hPy : va_P D vwCl (xW9 h a1 a2 a3 a4 cA n nb u.1) t9.heap := hPy
  rw [h2] at hPy
  have hP : va_P D vwCl (hW9 h a1 a2 a3 a4 o cA cL n nb (u.1, u.2)) H := hx_J hP hD hk9 hPy
  refine lv_astore_n hx hb dL_grow_11 rfl hl (by decide) (lv' := [(2, .ref q9), (0, .ref h), (1, .ref o)]) rfl (fun ls hl => ?_)
  refine lv_iconst (v := nI 1) hx hb dL_grow_12 (by decide) ?_
  refine W.widen (k := 1) (n := 6) (Nat.le_of_ble_eq_true rfl) (Nat.le_of_ble_eq_true rfl) ?_
  exact W.iret (v := nI 1) hx hb hr (fun t ht hW => ⟨⟨_, (u.1, u.2), rfl, ⟨rfl, trivial⟩, by rw [ht]; exact hP, va_K.moved hW.alike hK, hx_D hD _ _ _⟩, hS.F ht⟩) hS.2.2 dL_grow_13

set_option maxHeartbeats 4000000 in
set_option maxRecDepth 100000 in
theorem hL_shrink_y (l : Launch) (D : va_G) (A : Nat → Prop) (h a1 a2 a3 a4 o : Nat) (cA cL : ClassId) (n : Nat) (nb : Nat → Nat) (u : hU)   (hn : n < 8) : Met l yL_shrink (Cond.codeWith yL_shrink cL_shrink 2 (some FieldType.int) [(0, 4, 7, 13)] :: bw) (rmT 20) (va_Pc [.ref h] (gL D vwCl A (xA h a1 a2 a3 a4) (hW9 h a1 a2 a3 a4 o cA cL (n + 1) nb u) [(cA, .int), (cL, .long)])) (va_Qi (fun r (w : hU) => r = nI 0 ∧ True) (fun w => gW D vwCl A (hW9 h a1 a2 a3 a4 o cA cL n (jSh nb n n) w) [(cA, .int), (cL, .long)]) A) 1 6 A := by
  refine va_MetW (cc := cL_shrink) (maxL := 2) (ret := (some FieldType.int)) (hh := [(0, 4, 7, 13)]) (by decide) rfl ?_
  intro p e s m args below meth c s₁ B9 hml hv9
  obtain ⟨rfl, ⟨hP, hK, hD⟩, hE, hN1, hN2⟩ := hv9
  have hx := B9.exec
  have hb := B9.bytes
  have hr := B9.returns
  have hts := atoms_spec (ws := (Cond.codeWith yL_shrink cL_shrink 2 (some FieldType.int) [(0, 4, 7, 13)] :: bw)) B9.pre
  have hw : ∀ w ∈ bw, w.before _ s = true := fun w h => hts w (List.mem_cons_of_mem _ h)
  have hown : s.vm.findClass RL = some m.cls := findClass_of_methodNamed B9.named
  have hlocks := B9.notSynchronized
  have hl := lv_entry ([.ref h]) (n := 2) (Nat.le_of_ble_eq_true rfl)
  rw [lg_entry_eq]
  generalize (lg_sl ([.ref h]) ++ List.replicate (2 - (lg_sl ([.ref h])).length) Slot.unset).toArray = ls at hl ⊢
  have hl : lv_has ls 2 [(0, .ref h)] := hl
  have htab := tab_of B9 (hts _ List.mem_cons_self)
  have hS : va_S A s.heap s.heap [] := va_S.rf
  have hAx := hx_A hD
  have hPx := hx_P hP
  have hKx := hK.sub [0] (tys' := [(cA, .int)]) rfl
  have hDx := hx_Dx hD (n + 1) nb u.1
  refine lv_aload_n hx hb dL_shrink_0 rfl (lv_at hl 0 rfl) ?_
  refine va_callv (va_runV (C := RX) (As := []) (rest := []) ⟨hx, hb, hml, hown, hw⟩ (cX_shrink_c l D (xA h a1 a2 a3 a4) h a1 a2 a3 a4 cA n u.1.2.2.2 nb u.1.1 u.1.2.1 u.1.2.2.1 hn) (cwV 0 hw (gV w1_192 w1_193 w1_194 w1_1 w1_195) rfl rfl rfl ⟨rfl, by decide, by decide, by decide +kernel⟩ ⟨Nat.le_of_ble_eq_true rfl, Nat.le_of_ble_eq_true rfl⟩) ⟨gW_blind, va_recv (q0 := 0) (ci := 0) hKx hPx rfl rfl, gW_at hPx hKx hDx _⟩ rfl rfl hl.1 rfl (lv_room (Nat.le_of_ble_eq_true rfl)) dL_shrink_1 ⟨Nat.zero_le _, Nat.zero_le _⟩) hS (fun q _ h => hAx q h) (fun q h => hAx q h) (fun u5 t9 H locs ht9 hvm9 hpost9 hB9 hz9 hk9 hS => ?_)
  obtain ⟨hPy, -, -⟩ := hB9
  have hPy : va_P D vwCl (xW9 h a1 a2 a3 a4 cA n (jSh nb n n) u.1) t9.heap := hPy
  rw [ht9] at hPy
  have hP : va_P D vwCl (hW9 h a1 a2 a3 a4 o cA cL n (jSh nb n n) (u.1, u.2)) H := hx_J hP hD hk9 hPy
  have hD := hx_D hD n (jSh nb n n) (u.1, u.2)
  refine lv_goto (tgt := 10) hx hb dL_shrink_4 rfl ?_
  refine lv_iconst (v := nI 0) hx hb dL_shrink_10 (by decide) ?_
  refine W.widen (k := 1) (n := 6) (Nat.le_of_ble_eq_true rfl) (Nat.le_of_ble_eq_true rfl) ?_
  exact W.iret (v := nI 0) hx hb hr (fun t ht hW => ⟨⟨_, (u.1, u.2), rfl, ⟨rfl, trivial⟩, by rw [ht]; exact hP, va_K.moved hW.alike hK, hD⟩, hS.F ht⟩) hS.2.2 dL_shrink_11

set_option maxHeartbeats 4000000 in
set_option maxRecDepth 100000 in
theorem hL_shrink_n (l : Launch) (D : va_G) (A : Nat → Prop) (h a1 a2 a3 a4 o : Nat) (cA cL : ClassId) (n : Nat) (nb : Nat → Nat) (u : hU)  (hst : l.stackTraces = false) (hn : n = 0) : Met l yL_shrink (Cond.codeWith yL_shrink cL_shrink 2 (some FieldType.int) [(0, 4, 7, 13)] :: bw) (rmT 20) (va_Pc [.ref h] (gL D vwCl A (xA h a1 a2 a3 a4) (hW9 h a1 a2 a3 a4 o cA cL n nb u) [(cA, .int), (cL, .long)])) (va_Qi (fun r (w : hU) => r = nI 1 ∧ True) (fun w => gW D vwCl A (hW9 h a1 a2 a3 a4 o cA cL n nb w) [(cA, .int), (cL, .long)]) A) 1 6 A := by
  refine va_MetW (cc := cL_shrink) (maxL := 2) (ret := (some FieldType.int)) (hh := [(0, 4, 7, 13)]) (by decide) rfl ?_
  intro p e s m args below meth c s₁ B9 hml hv9
  obtain ⟨rfl, ⟨hP, hK, hD⟩, hE, hN1, hN2⟩ := hv9
  have hx := B9.exec
  have hb := B9.bytes
  have hr := B9.returns
  have hts := atoms_spec (ws := (Cond.codeWith yL_shrink cL_shrink 2 (some FieldType.int) [(0, 4, 7, 13)] :: bw)) B9.pre
  have hw : ∀ w ∈ bw, w.before _ s = true := fun w h => hts w (List.mem_cons_of_mem _ h)
  have hown : s.vm.findClass RL = some m.cls := findClass_of_methodNamed B9.named
  have hlocks := B9.notSynchronized
  have hl := lv_entry ([.ref h]) (n := 2) (Nat.le_of_ble_eq_true rfl)
  rw [lg_entry_eq]
  generalize (lg_sl ([.ref h]) ++ List.replicate (2 - (lg_sl ([.ref h])).length) Slot.unset).toArray = ls at hl ⊢
  have hl : lv_has ls 2 [(0, .ref h)] := hl
  have htab := tab_of B9 (hts _ List.mem_cons_self)
  have hS : va_S A s.heap s.heap [] := va_S.rf
  have hAx := hx_A hD
  have hPx := hx_P hP
  have hKx := hK.sub [0] (tys' := [(cA, .int)]) rfl
  have hDx := hx_Dx hD n nb u.1
  refine lv_aload_n hx hb dL_shrink_0 rfl (lv_at hl 0 rfl) ?_
  refine tx_catch1 (name := "java/lang/IllegalStateException") (C := RX) (As := []) (rest := []) ⟨hx, hb, hml, hown, hw⟩ (cX_shrink_n l D (xA h a1 a2 a3 a4) h a1 a2 a3 a4 cA n u.1.2.2.2 nb u.1.1 u.1.2.1 u.1.2.2.1 hst hn) (cwV 0 hw (gV w1_192 w1_193 w1_194 w1_1 w1_195) rfl rfl rfl ⟨rfl, by decide, by decide, by decide +kernel⟩ ⟨Nat.le_of_ble_eq_true rfl, Nat.le_of_ble_eq_true rfl⟩) ⟨gE_blind, va_recv (q0 := 0) (ci := 0) hKx hPx rfl rfl, gE_at hPx hKx hDx hE _⟩ rfl hl.1 rfl (Nat.le_of_ble_eq_true rfl) dL_shrink_1 ⟨Nat.le_refl _, Nat.le_refl _⟩ htab (by decide) (by decide) (hw _ w1_116) (cast_ISE hE.1) (fun q9 st9 t9 H locs h1 h2 h3 h4 h5 => ?_)
  have hS := tx_S hS hAx h1 h2 h4.1 h5
  have hk9 := tx_K h1 h2 h4.1
  obtain ⟨hPy, -, -⟩ := h4.2
  have hPy : va_P D vwCl (xW9 h a1 a2 a3 a4 cA n nb u.1) t9.heap := hPy
  rw [h2] at hPy
  have hP : va_P D vwCl (hW9 h a1 a2 a3 a4 o cA cL n nb (u.1, u.2)) H := hx_J hP hD hk9 hPy
  refine lv_astore_n hx hb dL_shrink_7 rfl hl (by decide) (lv' := [(1, .ref q9), (0, .ref h)]) rfl (fun ls hl => ?_)
  refine lv_iconst (v := nI 1) hx hb dL_shrink_8 (by decide) ?_
  refine W.widen (k := 1) (n := 6) (Nat.le_of_ble_eq_true rfl) (Nat.le_of_ble_eq_true rfl) ?_
  exact W.iret (v := nI 1) hx hb hr (fun t ht hW => ⟨⟨_, (u.1, u.2), rfl, ⟨rfl, trivial⟩, by rw [ht]; exact hP, va_K.moved hW.alike hK, hx_D hD _ _ _⟩, hS.F ht⟩) hS.2.2 dL_shrink_9

set_option maxHeartbeats 4000000 in
set_option maxRecDepth 100000 in
theorem hL_join_y (l : Launch) (D : va_G) (A : Nat → Prop) (h a1 a2 a3 a4 o : Nat) (cA cL : ClassId) (n : Nat) (nb : Nat → Nat) (u : hU) (v1 v2 : Nat)  (hn : n ≤ 8) (hnb : ∀ v, v < n → nb v < 256) (hu : v1 < n) (hv : v2 < n) (huv : v1 ≠ v2) : Met l yL_join (Cond.codeWith yL_join cL_join 5 (some FieldType.int) [(0, 17, 20, 22), (0, 17, 24, 24)] :: bw) (rmT 20) (va_Pc [.ref h, .int (nI v1), .int (nI v2), .ref o] (gL D vwCl A (xA h a1 a2 a3 a4) (hW9 h a1 a2 a3 a4 o cA cL n nb u) [(cA, .int), (cL, .long)])) (va_Qi (fun r (w : hU) => r = nI 0 ∧ w.2 0 = if (!(nb v1).testBit v2) = true then 1 else 0) (fun w => gW D vwCl A (hW9 h a1 a2 a3 a4 o cA cL n (jJo nb v1 v2) w) [(cA, .int), (cL, .long)]) A) 1 6 A := by
  refine va_MetW (cc := cL_join) (maxL := 5) (ret := (some FieldType.int)) (hh := [(0, 17, 20, 22), (0, 17, 24, 24)]) (by decide) rfl ?_
  intro p e s m args below meth c s₁ B9 hml hv9
  obtain ⟨rfl, ⟨hP, hK, hD⟩, hE, hN1, hN2⟩ := hv9
  have hx := B9.exec
  have hb := B9.bytes
  have hr := B9.returns
  have hts := atoms_spec (ws := (Cond.codeWith yL_join cL_join 5 (some FieldType.int) [(0, 17, 20, 22), (0, 17, 24, 24)] :: bw)) B9.pre
  have hw : ∀ w ∈ bw, w.before _ s = true := fun w h => hts w (List.mem_cons_of_mem _ h)
  have hown : s.vm.findClass RL = some m.cls := findClass_of_methodNamed B9.named
  have hlocks := B9.notSynchronized
  have hl := lv_entry ([.ref h, .int (nI v1), .int (nI v2), .ref o]) (n := 5) (Nat.le_of_ble_eq_true rfl)
  rw [lg_entry_eq]
  generalize (lg_sl ([.ref h, .int (nI v1), .int (nI v2), .ref o]) ++ List.replicate (5 - (lg_sl ([.ref h, .int (nI v1), .int (nI v2), .ref o])).length) Slot.unset).toArray = ls at hl ⊢
  have hl : lv_has ls 5 [(0, .ref h), (1, .int (nI v1)), (2, .int (nI v2)), (3, .ref o)] := hl
  have htab := tab_of B9 (hts _ List.mem_cons_self)
  have hS : va_S A s.heap s.heap [] := va_S.rf
  have hAx := hx_A hD
  have hPx := hx_P hP
  have hKx := hK.sub [0] (tys' := [(cA, .int)]) rfl
  have hDx := hx_Dx hD n nb u.1
  refine lv_aload_n hx hb dL_join_0 rfl (lv_at hl 3 rfl) ?_
  refine lv_iconst (v := nI 0) hx hb dL_join_1 (by decide) ?_
  refine lv_aload_n hx hb dL_join_2 rfl (lv_at hl 0 rfl) ?_
  refine lv_iload_n hx hb dL_join_3 rfl (lv_at hl 1 rfl) ?_
  refine lv_iload_n hx hb dL_join_4 rfl (lv_at hl 2 rfl) ?_
  refine va_calli (va_runV (C := RX) (As := [.int (nI v1), .int (nI v2)]) (rest := [.int (nI 0), .ref o]) ⟨hx, hb, hml, hown, hw⟩ (cX_join_c l D (xA h a1 a2 a3 a4) h a1 a2 a3 a4 cA n u.1.2.2.2 nb u.1.1 u.1.2.1 u.1.2.2.1 v1 v2 hn hnb hu hv huv) (cwV 2 hw (gV w1_202 w1_203 w1_204 w1_1 w1_205) rfl rfl rfl ⟨rfl, by decide, by decide, by decide +kernel⟩ ⟨Nat.le_of_ble_eq_true rfl, Nat.le_of_ble_eq_true rfl⟩) ⟨gW_blind, va_recv (q0 := 0) (ci := 0) hKx hPx rfl rfl, gW_at hPx hKx hDx _⟩ rfl rfl hl.1 rfl (lv_room (Nat.le_of_ble_eq_true rfl)) dL_join_5 ⟨Nat.zero_le _, Nat.zero_le _⟩) hS (fun q _ h => hAx q h) (fun q h => hAx q h) (fun r9 u5 t9 H locs ht9 hvm9 hpost9 hB9 hz9 hk9 hS => ?_)
  obtain ⟨hPy, -, -⟩ := hB9
  have hPy : va_P D vwCl (xW9 h a1 a2 a3 a4 cA n (jJo nb v1 v2) u.1) t9.heap := hPy
  rw [ht9] at hPy
  have hP : va_P D vwCl (hW9 h a1 a2 a3 a4 o cA cL n (jJo nb v1 v2) (u.1, u.2)) H := hx_J hP hD hk9 hPy
  have hD := hx_D hD n (jJo nb v1 v2) (u.1, u.2)
  subst hpost9
  refine nv_b_eq (x := !(nb v1).testBit v2) (tgt := 15) hx hb dL_join_8 rfl (fun hc => ?_) (fun hc => ?_)
  · refine lv_lconst (v := 0) hx hb dL_join_15 rfl ?_
    refine nv_last (f := u.2) (x := 0) hx hb hK hP hD hS 5 1 rfl rfl dL_join_16 (fun H locs hP hD hS => ?_)
    have hP : va_P D vwCl (hW9 h a1 a2 a3 a4 o cA cL n (jJo nb v1 v2) (u.1, vp_updL u.2 0 0)) H := hP
    have hD : va_D A (hW9 h a1 a2 a3 a4 o cA cL n (jJo nb v1 v2) (u.1, vp_updL u.2 0 0)) := hD
    refine lv_goto (tgt := 28) hx hb dL_join_17 rfl ?_
    refine lv_iconst (v := nI 0) hx hb dL_join_28 (by decide) ?_
    refine W.widen (k := 1) (n := 6) (Nat.le_of_ble_eq_true rfl) (Nat.le_of_ble_eq_true rfl) ?_
    exact W.iret (v := nI 0) hx hb hr (fun t ht hW => ⟨⟨_, (u.1, vp_updL u.2 0 0), rfl, ⟨rfl, (updL_0 (f := u.2) (x := 0)).trans (lif_f hc)⟩, by rw [ht]; exact hP, va_K.moved hW.alike hK, hD⟩, hS.F ht⟩) hS.2.2 dL_join_29
  · refine lv_lconst (v := 1) hx hb dL_join_11 rfl ?_
    refine lv_goto (tgt := 16) hx hb dL_join_12 rfl ?_
    refine nv_last (f := u.2) (x := 1) hx hb hK hP hD hS 5 1 rfl rfl dL_join_16 (fun H locs hP hD hS => ?_)
    have hP : va_P D vwCl (hW9 h a1 a2 a3 a4 o cA cL n (jJo nb v1 v2) (u.1, vp_updL u.2 0 1)) H := hP
    have hD : va_D A (hW9 h a1 a2 a3 a4 o cA cL n (jJo nb v1 v2) (u.1, vp_updL u.2 0 1)) := hD
    refine lv_goto (tgt := 28) hx hb dL_join_17 rfl ?_
    refine lv_iconst (v := nI 0) hx hb dL_join_28 (by decide) ?_
    refine W.widen (k := 1) (n := 6) (Nat.le_of_ble_eq_true rfl) (Nat.le_of_ble_eq_true rfl) ?_
    exact W.iret (v := nI 0) hx hb hr (fun t ht hW => ⟨⟨_, (u.1, vp_updL u.2 0 1), rfl, ⟨rfl, (updL_0 (f := u.2) (x := 1)).trans (lif_t hc)⟩, by rw [ht]; exact hP, va_K.moved hW.alike hK, hD⟩, hS.F ht⟩) hS.2.2 dL_join_29

set_option maxHeartbeats 4000000 in
set_option maxRecDepth 100000 in
theorem hL_join_n1 (l : Launch) (D : va_G) (A : Nat → Prop) (h a1 a2 a3 a4 o : Nat) (cA cL : ClassId) (n : Nat) (nb : Nat → Nat) (u : hU) (z1 z2 : Int32) (hst : l.stackTraces = false) (hn : n ≤ 8) (hz9 : ∀ k, k < n → z1 ≠ nI k) : Met l yL_join (Cond.codeWith yL_join cL_join 5 (some FieldType.int) [(0, 17, 20, 22), (0, 17, 24, 24)] :: bw) (rmT 20) (va_Pc [.ref h, .int z1, .int z2, .ref o] (gL D vwCl A (xA h a1 a2 a3 a4) (hW9 h a1 a2 a3 a4 o cA cL n nb u) [(cA, .int), (cL, .long)])) (va_Qi (fun r (w : hU) => r = nI 1 ∧ True) (fun w => gW D vwCl A (hW9 h a1 a2 a3 a4 o cA cL n nb w) [(cA, .int), (cL, .long)]) A) 1 6 A := by
  refine va_MetW (cc := cL_join) (maxL := 5) (ret := (some FieldType.int)) (hh := [(0, 17, 20, 22), (0, 17, 24, 24)]) (by decide) rfl ?_
  intro p e s m args below meth c s₁ B9 hml hv9
  obtain ⟨rfl, ⟨hP, hK, hD⟩, hE, hN1, hN2⟩ := hv9
  have hx := B9.exec
  have hb := B9.bytes
  have hr := B9.returns
  have hts := atoms_spec (ws := (Cond.codeWith yL_join cL_join 5 (some FieldType.int) [(0, 17, 20, 22), (0, 17, 24, 24)] :: bw)) B9.pre
  have hw : ∀ w ∈ bw, w.before _ s = true := fun w h => hts w (List.mem_cons_of_mem _ h)
  have hown : s.vm.findClass RL = some m.cls := findClass_of_methodNamed B9.named
  have hlocks := B9.notSynchronized
  have hl := lv_entry ([.ref h, .int z1, .int z2, .ref o]) (n := 5) (Nat.le_of_ble_eq_true rfl)
  rw [lg_entry_eq]
  generalize (lg_sl ([.ref h, .int z1, .int z2, .ref o]) ++ List.replicate (5 - (lg_sl ([.ref h, .int z1, .int z2, .ref o])).length) Slot.unset).toArray = ls at hl ⊢
  have hl : lv_has ls 5 [(0, .ref h), (1, .int z1), (2, .int z2), (3, .ref o)] := hl
  have htab := tab_of B9 (hts _ List.mem_cons_self)
  have hS : va_S A s.heap s.heap [] := va_S.rf
  have hAx := hx_A hD
  have hPx := hx_P hP
  have hKx := hK.sub [0] (tys' := [(cA, .int)]) rfl
  have hDx := hx_Dx hD n nb u.1
  refine lv_aload_n hx hb dL_join_0 rfl (lv_at hl 3 rfl) ?_
  refine lv_iconst (v := nI 0) hx hb dL_join_1 (by decide) ?_
  refine lv_aload_n hx hb dL_join_2 rfl (lv_at hl 0 rfl) ?_
  refine lv_iload_n hx hb dL_join_3 rfl (lv_at hl 1 rfl) ?_
  refine lv_iload_n hx hb dL_join_4 rfl (lv_at hl 2 rfl) ?_
  refine tx_catch1 (name := "java/lang/IndexOutOfBoundsException") (C := RX) (As := [.int z1, .int z2]) (rest := [.int (nI 0), .ref o]) ⟨hx, hb, hml, hown, hw⟩ (cX_join_n1 l D (xA h a1 a2 a3 a4) h a1 a2 a3 a4 cA n u.1.2.2.2 nb u.1.1 u.1.2.1 u.1.2.2.1 z1 z2 hst hn hz9) (cwV 2 hw (gV w1_202 w1_203 w1_204 w1_1 w1_205) rfl rfl rfl ⟨rfl, by decide, by decide, by decide +kernel⟩ ⟨Nat.le_of_ble_eq_true rfl, Nat.le_of_ble_eq_true rfl⟩) ⟨gE_blind, va_recv (q0 := 0) (ci := 0) hKx hPx rfl rfl, gE_at hPx hKx hDx hE _⟩ rfl hl.1 rfl (Nat.le_of_ble_eq_true rfl) dL_join_5 ⟨Nat.le_refl _, Nat.le_refl _⟩ htab (by decide) (by decide) (hw _ w1_200) (cast_IOB hE.1) (fun q9 st9 t9 H locs h1 h2 h3 h4 h5 => ?_)
  have hS := tx_S hS hAx h1 h2 h4.1 h5
  have hk9 := tx_K h1 h2 h4.1
  obtain ⟨hPy, -, -⟩ := h4.2
  have hPy : va_P D vwCl (xW9 h a1 a2 a3 a4 cA n nb u.1) t9.heap := hPy
  rw [h2] at hPy
  have hP : va_P D vwCl (hW9 h a1 a2 a3 a4 o cA cL n nb (u.1, u.2)) H := hx_J hP hD hk9 hPy
  refine lv_astore hx hb dL_join_20 hl (by decide) (lv' := [(4, .ref q9), (0, .ref h), (1, .int z1), (2, .int z2), (3, .ref o)]) rfl (fun ls hl => ?_)
  refine lv_iconst (v := nI 1) hx hb dL_join_22 (by decide) ?_
  refine W.widen (k := 1) (n := 6) (Nat.le_of_ble_eq_true rfl) (Nat.le_of_ble_eq_true rfl) ?_
  exact W.iret (v := nI 1) hx hb hr (fun t ht hW => ⟨⟨_, (u.1, u.2), rfl, ⟨rfl, trivial⟩, by rw [ht]; exact hP, va_K.moved hW.alike hK, hx_D hD _ _ _⟩, hS.F ht⟩) hS.2.2 dL_join_23

set_option maxHeartbeats 4000000 in
set_option maxRecDepth 100000 in
theorem hL_join_n2 (l : Launch) (D : va_G) (A : Nat → Prop) (h a1 a2 a3 a4 o : Nat) (cA cL : ClassId) (n : Nat) (nb : Nat → Nat) (u : hU) (v1 : Nat) (z2 : Int32) (hst : l.stackTraces = false) (hn : n ≤ 8) (hu : v1 < n) (hz9 : ∀ k, k < n → z2 ≠ nI k) : Met l yL_join (Cond.codeWith yL_join cL_join 5 (some FieldType.int) [(0, 17, 20, 22), (0, 17, 24, 24)] :: bw) (rmT 20) (va_Pc [.ref h, .int (nI v1), .int z2, .ref o] (gL D vwCl A (xA h a1 a2 a3 a4) (hW9 h a1 a2 a3 a4 o cA cL n nb u) [(cA, .int), (cL, .long)])) (va_Qi (fun r (w : hU) => r = nI 1 ∧ True) (fun w => gW D vwCl A (hW9 h a1 a2 a3 a4 o cA cL n nb w) [(cA, .int), (cL, .long)]) A) 1 6 A := by
  refine va_MetW (cc := cL_join) (maxL := 5) (ret := (some FieldType.int)) (hh := [(0, 17, 20, 22), (0, 17, 24, 24)]) (by decide) rfl ?_
  intro p e s m args below meth c s₁ B9 hml hv9
  obtain ⟨rfl, ⟨hP, hK, hD⟩, hE, hN1, hN2⟩ := hv9
  have hx := B9.exec
  have hb := B9.bytes
  have hr := B9.returns
  have hts := atoms_spec (ws := (Cond.codeWith yL_join cL_join 5 (some FieldType.int) [(0, 17, 20, 22), (0, 17, 24, 24)] :: bw)) B9.pre
  have hw : ∀ w ∈ bw, w.before _ s = true := fun w h => hts w (List.mem_cons_of_mem _ h)
  have hown : s.vm.findClass RL = some m.cls := findClass_of_methodNamed B9.named
  have hlocks := B9.notSynchronized
  have hl := lv_entry ([.ref h, .int (nI v1), .int z2, .ref o]) (n := 5) (Nat.le_of_ble_eq_true rfl)
  rw [lg_entry_eq]
  generalize (lg_sl ([.ref h, .int (nI v1), .int z2, .ref o]) ++ List.replicate (5 - (lg_sl ([.ref h, .int (nI v1), .int z2, .ref o])).length) Slot.unset).toArray = ls at hl ⊢
  have hl : lv_has ls 5 [(0, .ref h), (1, .int (nI v1)), (2, .int z2), (3, .ref o)] := hl
  have htab := tab_of B9 (hts _ List.mem_cons_self)
  have hS : va_S A s.heap s.heap [] := va_S.rf
  have hAx := hx_A hD
  have hPx := hx_P hP
  have hKx := hK.sub [0] (tys' := [(cA, .int)]) rfl
  have hDx := hx_Dx hD n nb u.1
  refine lv_aload_n hx hb dL_join_0 rfl (lv_at hl 3 rfl) ?_
  refine lv_iconst (v := nI 0) hx hb dL_join_1 (by decide) ?_
  refine lv_aload_n hx hb dL_join_2 rfl (lv_at hl 0 rfl) ?_
  refine lv_iload_n hx hb dL_join_3 rfl (lv_at hl 1 rfl) ?_
  refine lv_iload_n hx hb dL_join_4 rfl (lv_at hl 2 rfl) ?_
  refine tx_catch1 (name := "java/lang/IndexOutOfBoundsException") (C := RX) (As := [.int (nI v1), .int z2]) (rest := [.int (nI 0), .ref o]) ⟨hx, hb, hml, hown, hw⟩ (cX_join_n2 l D (xA h a1 a2 a3 a4) h a1 a2 a3 a4 cA n u.1.2.2.2 nb u.1.1 u.1.2.1 u.1.2.2.1 v1 z2 hst hn hu hz9) (cwV 2 hw (gV w1_202 w1_203 w1_204 w1_1 w1_205) rfl rfl rfl ⟨rfl, by decide, by decide, by decide +kernel⟩ ⟨Nat.le_of_ble_eq_true rfl, Nat.le_of_ble_eq_true rfl⟩) ⟨gE_blind, va_recv (q0 := 0) (ci := 0) hKx hPx rfl rfl, gE_at hPx hKx hDx hE _⟩ rfl hl.1 rfl (Nat.le_of_ble_eq_true rfl) dL_join_5 ⟨Nat.le_refl _, Nat.le_refl _⟩ htab (by decide) (by decide) (hw _ w1_200) (cast_IOB hE.1) (fun q9 st9 t9 H locs h1 h2 h3 h4 h5 => ?_)
  have hS := tx_S hS hAx h1 h2 h4.1 h5
  have hk9 := tx_K h1 h2 h4.1
  obtain ⟨hPy, -, -⟩ := h4.2
  have hPy : va_P D vwCl (xW9 h a1 a2 a3 a4 cA n nb u.1) t9.heap := hPy
  rw [h2] at hPy
  have hP : va_P D vwCl (hW9 h a1 a2 a3 a4 o cA cL n nb (u.1, u.2)) H := hx_J hP hD hk9 hPy
  refine lv_astore hx hb dL_join_20 hl (by decide) (lv' := [(4, .ref q9), (0, .ref h), (1, .int (nI v1)), (2, .int z2), (3, .ref o)]) rfl (fun ls hl => ?_)
  refine lv_iconst (v := nI 1) hx hb dL_join_22 (by decide) ?_
  refine W.widen (k := 1) (n := 6) (Nat.le_of_ble_eq_true rfl) (Nat.le_of_ble_eq_true rfl) ?_
  exact W.iret (v := nI 1) hx hb hr (fun t ht hW => ⟨⟨_, (u.1, u.2), rfl, ⟨rfl, trivial⟩, by rw [ht]; exact hP, va_K.moved hW.alike hK, hx_D hD _ _ _⟩, hS.F ht⟩) hS.2.2 dL_join_23

set_option maxHeartbeats 4000000 in
set_option maxRecDepth 100000 in
theorem hL_join_n3 (l : Launch) (D : va_G) (A : Nat → Prop) (h a1 a2 a3 a4 o : Nat) (cA cL : ClassId) (n : Nat) (nb : Nat → Nat) (u : hU) (v1 : Nat) (hst : l.stackTraces = false) (hn : n ≤ 8) (hu : v1 < n) : Met l yL_join (Cond.codeWith yL_join cL_join 5 (some FieldType.int) [(0, 17, 20, 22), (0, 17, 24, 24)] :: bw) (rmT 20) (va_Pc [.ref h, .int (nI v1), .int (nI v1), .ref o] (gL D vwCl A (xA h a1 a2 a3 a4) (hW9 h a1 a2 a3 a4 o cA cL n nb u) [(cA, .int), (cL, .long)])) (va_Qi (fun r (w : hU) => r = nI 2 ∧ True) (fun w => gW D vwCl A (hW9 h a1 a2 a3 a4 o cA cL n nb w) [(cA, .int), (cL, .long)]) A) 1 6 A := by
  refine va_MetW (cc := cL_join) (maxL := 5) (ret := (some FieldType.int)) (hh := [(0, 17, 20, 22), (0, 17, 24, 24)]) (by decide) rfl ?_
  intro p e s m args below meth c s₁ B9 hml hv9
  obtain ⟨rfl, ⟨hP, hK, hD⟩, hE, hN1, hN2⟩ := hv9
  have hx := B9.exec
  have hb := B9.bytes
  have hr := B9.returns
  have hts := atoms_spec (ws := (Cond.codeWith yL_join cL_join 5 (some FieldType.int) [(0, 17, 20, 22), (0, 17, 24, 24)] :: bw)) B9.pre
  have hw : ∀ w ∈ bw, w.before _ s = true := fun w h => hts w (List.mem_cons_of_mem _ h)
  have hown : s.vm.findClass RL = some m.cls := findClass_of_methodNamed B9.named
  have hlocks := B9.notSynchronized
  have hl := lv_entry ([.ref h, .int (nI v1), .int (nI v1), .ref o]) (n := 5) (Nat.le_of_ble_eq_true rfl)
  rw [lg_entry_eq]
  generalize (lg_sl ([.ref h, .int (nI v1), .int (nI v1), .ref o]) ++ List.replicate (5 - (lg_sl ([.ref h, .int (nI v1), .int (nI v1), .ref o])).length) Slot.unset).toArray = ls at hl ⊢
  have hl : lv_has ls 5 [(0, .ref h), (1, .int (nI v1)), (2, .int (nI v1)), (3, .ref o)] := hl
  have htab := tab_of B9 (hts _ List.mem_cons_self)
  have hS : va_S A s.heap s.heap [] := va_S.rf
  have hAx := hx_A hD
  have hPx := hx_P hP
  have hKx := hK.sub [0] (tys' := [(cA, .int)]) rfl
  have hDx := hx_Dx hD n nb u.1
  refine lv_aload_n hx hb dL_join_0 rfl (lv_at hl 3 rfl) ?_
  refine lv_iconst (v := nI 0) hx hb dL_join_1 (by decide) ?_
  refine lv_aload_n hx hb dL_join_2 rfl (lv_at hl 0 rfl) ?_
  refine lv_iload_n hx hb dL_join_3 rfl (lv_at hl 1 rfl) ?_
  refine lv_iload_n hx hb dL_join_4 rfl (lv_at hl 2 rfl) ?_
  refine tx_catch2 (nam1 := "java/lang/IndexOutOfBoundsException") (name := "java/lang/IllegalArgumentException") (C := RX) (As := [.int (nI v1), .int (nI v1)]) (rest := [.int (nI 0), .ref o]) ⟨hx, hb, hml, hown, hw⟩ (cX_join_n3 l D (xA h a1 a2 a3 a4) h a1 a2 a3 a4 cA n u.1.2.2.2 nb u.1.1 u.1.2.1 u.1.2.2.1 v1 hst hn hu) (cwV 2 hw (gV w1_202 w1_203 w1_204 w1_1 w1_205) rfl rfl rfl ⟨rfl, by decide, by decide, by decide +kernel⟩ ⟨Nat.le_of_ble_eq_true rfl, Nat.le_of_ble_eq_true rfl⟩) ⟨gE_blind, va_recv (q0 := 0) (ci := 0) hKx hPx rfl rfl, gE_at hPx hKx hDx hE _⟩ rfl hl.1 rfl (Nat.le_of_ble_eq_true rfl) dL_join_5 ⟨Nat.le_refl _, Nat.le_refl _⟩ htab (by decide) (by decide) (hw _ w1_200) hN1 (by decide) (by decide) (hw _ w1_201) (cast_IAE hE.1) (fun q9 st9 t9 H locs h1 h2 h3 h4 h5 => ?_)
  have hS := tx_S hS hAx h1 h2 h4.1 h5
  have hk9 := tx_K h1 h2 h4.1
  obtain ⟨hPy, -, -⟩ := h4.2
  have hPy : va_P D vwCl (xW9 h a1 a2 a3 a4 cA n nb u.1) t9.heap := hPy
  rw [h2] at hPy
  have hP : va_P D vwCl (hW9 h a1 a2 a3 a4 o cA cL n nb (u.1, u.2)) H := hx_J hP hD hk9 hPy
  refine lv_astore hx hb dL_join_24 hl (by decide) (lv' := [(4, .ref q9), (0, .ref h), (1, .int (nI v1)), (2, .int (nI v1)), (3, .ref o)]) rfl (fun ls hl => ?_)
  refine lv_iconst (v := nI 2) hx hb dL_join_26 (by decide) ?_
  refine W.widen (k := 1) (n := 6) (Nat.le_of_ble_eq_true rfl) (Nat.le_of_ble_eq_true rfl) ?_
  exact W.iret (v := nI 2) hx hb hr (fun t ht hW => ⟨⟨_, (u.1, u.2), rfl, ⟨rfl, trivial⟩, by rw [ht]; exact hP, va_K.moved hW.alike hK, hx_D hD _ _ _⟩, hS.F ht⟩) hS.2.2 dL_join_27

set_option maxHeartbeats 4000000 in
set_option maxRecDepth 100000 in
theorem hL_part_y (l : Launch) (D : va_G) (A : Nat → Prop) (h a1 a2 a3 a4 o : Nat) (cA cL : ClassId) (n : Nat) (nb : Nat → Nat) (u : hU) (v1 v2 : Nat)  (hn : n ≤ 8) (hnb : ∀ v, v < n → nb v < 256) (hu : v1 < n) (hv : v2 < n) (huv : v1 ≠ v2) : Met l yL_part (Cond.codeWith yL_part cL_part 5 (some FieldType.int) [(0, 17, 20, 22), (0, 17, 24, 24)] :: bw) (rmT 20) (va_Pc [.ref h, .int (nI v1), .int (nI v2), .ref o] (gL D vwCl A (xA h a1 a2 a3 a4) (hW9 h a1 a2 a3 a4 o cA cL n nb u) [(cA, .int), (cL, .long)])) (va_Qi (fun r (w : hU) => r = nI 0 ∧ w.2 0 = if ((nb v1).testBit v2) = true then 1 else 0) (fun w => gW D vwCl A (hW9 h a1 a2 a3 a4 o cA cL n (jPt nb v1 v2) w) [(cA, .int), (cL, .long)]) A) 1 6 A := by
  refine va_MetW (cc := cL_part) (maxL := 5) (ret := (some FieldType.int)) (hh := [(0, 17, 20, 22), (0, 17, 24, 24)]) (by decide) rfl ?_
  intro p e s m args below meth c s₁ B9 hml hv9
  obtain ⟨rfl, ⟨hP, hK, hD⟩, hE, hN1, hN2⟩ := hv9
  have hx := B9.exec
  have hb := B9.bytes
  have hr := B9.returns
  have hts := atoms_spec (ws := (Cond.codeWith yL_part cL_part 5 (some FieldType.int) [(0, 17, 20, 22), (0, 17, 24, 24)] :: bw)) B9.pre
  have hw : ∀ w ∈ bw, w.before _ s = true := fun w h => hts w (List.mem_cons_of_mem _ h)
  have hown : s.vm.findClass RL = some m.cls := findClass_of_methodNamed B9.named
  have hlocks := B9.notSynchronized
  have hl := lv_entry ([.ref h, .int (nI v1), .int (nI v2), .ref o]) (n := 5) (Nat.le_of_ble_eq_true rfl)
  rw [lg_entry_eq]
  generalize (lg_sl ([.ref h, .int (nI v1), .int (nI v2), .ref o]) ++ List.replicate (5 - (lg_sl ([.ref h, .int (nI v1), .int (nI v2), .ref o])).length) Slot.unset).toArray = ls at hl ⊢
  have hl : lv_has ls 5 [(0, .ref h), (1, .int (nI v1)), (2, .int (nI v2)), (3, .ref o)] := hl
  have htab := tab_of B9 (hts _ List.mem_cons_self)
  have hS : va_S A s.heap s.heap [] := va_S.rf
  have hAx := hx_A hD
  have hPx := hx_P hP
  have hKx := hK.sub [0] (tys' := [(cA, .int)]) rfl
  have hDx := hx_Dx hD n nb u.1
  refine lv_aload_n hx hb dL_part_0 rfl (lv_at hl 3 rfl) ?_
  refine lv_iconst (v := nI 0) hx hb dL_part_1 (by decide) ?_
  refine lv_aload_n hx hb dL_part_2 rfl (lv_at hl 0 rfl) ?_
  refine lv_iload_n hx hb dL_part_3 rfl (lv_at hl 1 rfl) ?_
  refine lv_iload_n hx hb dL_part_4 rfl (lv_at hl 2 rfl) ?_
  refine va_calli (va_runV (C := RX) (As := [.int (nI v1), .int (nI v2)]) (rest := [.int (nI 0), .ref o]) ⟨hx, hb, hml, hown, hw⟩ (cX_part_c l D (xA h a1 a2 a3 a4) h a1 a2 a3 a4 cA n u.1.2.2.2 nb u.1.1 u.1.2.1 u.1.2.2.1 v1 v2 hn hnb hu hv huv) (cwV 2 hw (gV w2_9 w2_10 w2_11 w1_1 w2_12) rfl rfl rfl ⟨rfl, by decide, by decide, by decide +kernel⟩ ⟨Nat.le_of_ble_eq_true rfl, Nat.le_of_ble_eq_true rfl⟩) ⟨gW_blind, va_recv (q0 := 0) (ci := 0) hKx hPx rfl rfl, gW_at hPx hKx hDx _⟩ rfl rfl hl.1 rfl (lv_room (Nat.le_of_ble_eq_true rfl)) dL_part_5 ⟨Nat.zero_le _, Nat.zero_le _⟩) hS (fun q _ h => hAx q h) (fun q h => hAx q h) (fun r9 u5 t9 H locs ht9 hvm9 hpost9 hB9 hz9 hk9 hS => ?_)
  obtain ⟨hPy, -, -⟩ := hB9
  have hPy : va_P D vwCl (xW9 h a1 a2 a3 a4 cA n (jPt nb v1 v2) u.1) t9.heap := hPy
  rw [ht9] at hPy
  have hP : va_P D vwCl (hW9 h a1 a2 a3 a4 o cA cL n (jPt nb v1 v2) (u.1, u.2)) H := hx_J hP hD hk9 hPy
  have hD := hx_D hD n (jPt nb v1 v2) (u.1, u.2)
  subst hpost9
  refine nv_b_eq (x := (nb v1).testBit v2) (tgt := 15) hx hb dL_part_8 rfl (fun hc => ?_) (fun hc => ?_)
  · refine lv_lconst (v := 0) hx hb dL_part_15 rfl ?_
    refine nv_last (f := u.2) (x := 0) hx hb hK hP hD hS 5 1 rfl rfl dL_part_16 (fun H locs hP hD hS => ?_)
    have hP : va_P D vwCl (hW9 h a1 a2 a3 a4 o cA cL n (jPt nb v1 v2) (u.1, vp_updL u.2 0 0)) H := hP
    have hD : va_D A (hW9 h a1 a2 a3 a4 o cA cL n (jPt nb v1 v2) (u.1, vp_updL u.2 0 0)) := hD
    refine lv_goto (tgt := 28) hx hb dL_part_17 rfl ?_
    refine lv_iconst (v := nI 0) hx hb dL_part_28 (by decide) ?_
    refine W.widen (k := 1) (n := 6) (Nat.le_of_ble_eq_true rfl) (Nat.le_of_ble_eq_true rfl) ?_
    exact W.iret (v := nI 0) hx hb hr (fun t ht hW => ⟨⟨_, (u.1, vp_updL u.2 0 0), rfl, ⟨rfl, (updL_0 (f := u.2) (x := 0)).trans (lif_f hc)⟩, by rw [ht]; exact hP, va_K.moved hW.alike hK, hD⟩, hS.F ht⟩) hS.2.2 dL_part_29
  · refine lv_lconst (v := 1) hx hb dL_part_11 rfl ?_
    refine lv_goto (tgt := 16) hx hb dL_part_12 rfl ?_
    refine nv_last (f := u.2) (x := 1) hx hb hK hP hD hS 5 1 rfl rfl dL_part_16 (fun H locs hP hD hS => ?_)
    have hP : va_P D vwCl (hW9 h a1 a2 a3 a4 o cA cL n (jPt nb v1 v2) (u.1, vp_updL u.2 0 1)) H := hP
    have hD : va_D A (hW9 h a1 a2 a3 a4 o cA cL n (jPt nb v1 v2) (u.1, vp_updL u.2 0 1)) := hD
    refine lv_goto (tgt := 28) hx hb dL_part_17 rfl ?_
    refine lv_iconst (v := nI 0) hx hb dL_part_28 (by decide) ?_
    refine W.widen (k := 1) (n := 6) (Nat.le_of_ble_eq_true rfl) (Nat.le_of_ble_eq_true rfl) ?_
    exact W.iret (v := nI 0) hx hb hr (fun t ht hW => ⟨⟨_, (u.1, vp_updL u.2 0 1), rfl, ⟨rfl, (updL_0 (f := u.2) (x := 1)).trans (lif_t hc)⟩, by rw [ht]; exact hP, va_K.moved hW.alike hK, hD⟩, hS.F ht⟩) hS.2.2 dL_part_29

set_option maxHeartbeats 4000000 in
set_option maxRecDepth 100000 in
theorem hL_part_n1 (l : Launch) (D : va_G) (A : Nat → Prop) (h a1 a2 a3 a4 o : Nat) (cA cL : ClassId) (n : Nat) (nb : Nat → Nat) (u : hU) (z1 z2 : Int32) (hst : l.stackTraces = false) (hn : n ≤ 8) (hz9 : ∀ k, k < n → z1 ≠ nI k) : Met l yL_part (Cond.codeWith yL_part cL_part 5 (some FieldType.int) [(0, 17, 20, 22), (0, 17, 24, 24)] :: bw) (rmT 20) (va_Pc [.ref h, .int z1, .int z2, .ref o] (gL D vwCl A (xA h a1 a2 a3 a4) (hW9 h a1 a2 a3 a4 o cA cL n nb u) [(cA, .int), (cL, .long)])) (va_Qi (fun r (w : hU) => r = nI 1 ∧ True) (fun w => gW D vwCl A (hW9 h a1 a2 a3 a4 o cA cL n nb w) [(cA, .int), (cL, .long)]) A) 1 6 A := by
  refine va_MetW (cc := cL_part) (maxL := 5) (ret := (some FieldType.int)) (hh := [(0, 17, 20, 22), (0, 17, 24, 24)]) (by decide) rfl ?_
  intro p e s m args below meth c s₁ B9 hml hv9
  obtain ⟨rfl, ⟨hP, hK, hD⟩, hE, hN1, hN2⟩ := hv9
  have hx := B9.exec
  have hb := B9.bytes
  have hr := B9.returns
  have hts := atoms_spec (ws := (Cond.codeWith yL_part cL_part 5 (some FieldType.int) [(0, 17, 20, 22), (0, 17, 24, 24)] :: bw)) B9.pre
  have hw : ∀ w ∈ bw, w.before _ s = true := fun w h => hts w (List.mem_cons_of_mem _ h)
  have hown : s.vm.findClass RL = some m.cls := findClass_of_methodNamed B9.named
  have hlocks := B9.notSynchronized
  have hl := lv_entry ([.ref h, .int z1, .int z2, .ref o]) (n := 5) (Nat.le_of_ble_eq_true rfl)
  rw [lg_entry_eq]
  generalize (lg_sl ([.ref h, .int z1, .int z2, .ref o]) ++ List.replicate (5 - (lg_sl ([.ref h, .int z1, .int z2, .ref o])).length) Slot.unset).toArray = ls at hl ⊢
  have hl : lv_has ls 5 [(0, .ref h), (1, .int z1), (2, .int z2), (3, .ref o)] := hl
  have htab := tab_of B9 (hts _ List.mem_cons_self)
  have hS : va_S A s.heap s.heap [] := va_S.rf
  have hAx := hx_A hD
  have hPx := hx_P hP
  have hKx := hK.sub [0] (tys' := [(cA, .int)]) rfl
  have hDx := hx_Dx hD n nb u.1
  refine lv_aload_n hx hb dL_part_0 rfl (lv_at hl 3 rfl) ?_
  refine lv_iconst (v := nI 0) hx hb dL_part_1 (by decide) ?_
  refine lv_aload_n hx hb dL_part_2 rfl (lv_at hl 0 rfl) ?_
  refine lv_iload_n hx hb dL_part_3 rfl (lv_at hl 1 rfl) ?_
  refine lv_iload_n hx hb dL_part_4 rfl (lv_at hl 2 rfl) ?_
  refine tx_catch1 (name := "java/lang/IndexOutOfBoundsException") (C := RX) (As := [.int z1, .int z2]) (rest := [.int (nI 0), .ref o]) ⟨hx, hb, hml, hown, hw⟩ (cX_part_n1 l D (xA h a1 a2 a3 a4) h a1 a2 a3 a4 cA n u.1.2.2.2 nb u.1.1 u.1.2.1 u.1.2.2.1 z1 z2 hst hn hz9) (cwV 2 hw (gV w2_9 w2_10 w2_11 w1_1 w2_12) rfl rfl rfl ⟨rfl, by decide, by decide, by decide +kernel⟩ ⟨Nat.le_of_ble_eq_true rfl, Nat.le_of_ble_eq_true rfl⟩) ⟨gE_blind, va_recv (q0 := 0) (ci := 0) hKx hPx rfl rfl, gE_at hPx hKx hDx hE _⟩ rfl hl.1 rfl (Nat.le_of_ble_eq_true rfl) dL_part_5 ⟨Nat.le_refl _, Nat.le_refl _⟩ htab (by decide) (by decide) (hw _ w1_200) (cast_IOB hE.1) (fun q9 st9 t9 H locs h1 h2 h3 h4 h5 => ?_)
  have hS := tx_S hS hAx h1 h2 h4.1 h5
  have hk9 := tx_K h1 h2 h4.1
  obtain ⟨hPy, -, -⟩ := h4.2
  have hPy : va_P D vwCl (xW9 h a1 a2 a3 a4 cA n nb u.1) t9.heap := hPy
  rw [h2] at hPy
  have hP : va_P D vwCl (hW9 h a1 a2 a3 a4 o cA cL n nb (u.1, u.2)) H := hx_J hP hD hk9 hPy
  refine lv_astore hx hb dL_part_20 hl (by decide) (lv' := [(4, .ref q9), (0, .ref h), (1, .int z1), (2, .int z2), (3, .ref o)]) rfl (fun ls hl => ?_)
  refine lv_iconst (v := nI 1) hx hb dL_part_22 (by decide) ?_
  refine W.widen (k := 1) (n := 6) (Nat.le_of_ble_eq_true rfl) (Nat.le_of_ble_eq_true rfl) ?_
  exact W.iret (v := nI 1) hx hb hr (fun t ht hW => ⟨⟨_, (u.1, u.2), rfl, ⟨rfl, trivial⟩, by rw [ht]; exact hP, va_K.moved hW.alike hK, hx_D hD _ _ _⟩, hS.F ht⟩) hS.2.2 dL_part_23

set_option maxHeartbeats 4000000 in
set_option maxRecDepth 100000 in
theorem hL_part_n2 (l : Launch) (D : va_G) (A : Nat → Prop) (h a1 a2 a3 a4 o : Nat) (cA cL : ClassId) (n : Nat) (nb : Nat → Nat) (u : hU) (v1 : Nat) (z2 : Int32) (hst : l.stackTraces = false) (hn : n ≤ 8) (hu : v1 < n) (hz9 : ∀ k, k < n → z2 ≠ nI k) : Met l yL_part (Cond.codeWith yL_part cL_part 5 (some FieldType.int) [(0, 17, 20, 22), (0, 17, 24, 24)] :: bw) (rmT 20) (va_Pc [.ref h, .int (nI v1), .int z2, .ref o] (gL D vwCl A (xA h a1 a2 a3 a4) (hW9 h a1 a2 a3 a4 o cA cL n nb u) [(cA, .int), (cL, .long)])) (va_Qi (fun r (w : hU) => r = nI 1 ∧ True) (fun w => gW D vwCl A (hW9 h a1 a2 a3 a4 o cA cL n nb w) [(cA, .int), (cL, .long)]) A) 1 6 A := by
  refine va_MetW (cc := cL_part) (maxL := 5) (ret := (some FieldType.int)) (hh := [(0, 17, 20, 22), (0, 17, 24, 24)]) (by decide) rfl ?_
  intro p e s m args below meth c s₁ B9 hml hv9
  obtain ⟨rfl, ⟨hP, hK, hD⟩, hE, hN1, hN2⟩ := hv9
  have hx := B9.exec
  have hb := B9.bytes
  have hr := B9.returns
  have hts := atoms_spec (ws := (Cond.codeWith yL_part cL_part 5 (some FieldType.int) [(0, 17, 20, 22), (0, 17, 24, 24)] :: bw)) B9.pre
  have hw : ∀ w ∈ bw, w.before _ s = true := fun w h => hts w (List.mem_cons_of_mem _ h)
  have hown : s.vm.findClass RL = some m.cls := findClass_of_methodNamed B9.named
  have hlocks := B9.notSynchronized
  have hl := lv_entry ([.ref h, .int (nI v1), .int z2, .ref o]) (n := 5) (Nat.le_of_ble_eq_true rfl)
  rw [lg_entry_eq]
  generalize (lg_sl ([.ref h, .int (nI v1), .int z2, .ref o]) ++ List.replicate (5 - (lg_sl ([.ref h, .int (nI v1), .int z2, .ref o])).length) Slot.unset).toArray = ls at hl ⊢
  have hl : lv_has ls 5 [(0, .ref h), (1, .int (nI v1)), (2, .int z2), (3, .ref o)] := hl
  have htab := tab_of B9 (hts _ List.mem_cons_self)
  have hS : va_S A s.heap s.heap [] := va_S.rf
  have hAx := hx_A hD
  have hPx := hx_P hP
  have hKx := hK.sub [0] (tys' := [(cA, .int)]) rfl
  have hDx := hx_Dx hD n nb u.1
  refine lv_aload_n hx hb dL_part_0 rfl (lv_at hl 3 rfl) ?_
  refine lv_iconst (v := nI 0) hx hb dL_part_1 (by decide) ?_
  refine lv_aload_n hx hb dL_part_2 rfl (lv_at hl 0 rfl) ?_
  refine lv_iload_n hx hb dL_part_3 rfl (lv_at hl 1 rfl) ?_
  refine lv_iload_n hx hb dL_part_4 rfl (lv_at hl 2 rfl) ?_
  refine tx_catch1 (name := "java/lang/IndexOutOfBoundsException") (C := RX) (As := [.int (nI v1), .int z2]) (rest := [.int (nI 0), .ref o]) ⟨hx, hb, hml, hown, hw⟩ (cX_part_n2 l D (xA h a1 a2 a3 a4) h a1 a2 a3 a4 cA n u.1.2.2.2 nb u.1.1 u.1.2.1 u.1.2.2.1 v1 z2 hst hn hu hz9) (cwV 2 hw (gV w2_9 w2_10 w2_11 w1_1 w2_12) rfl rfl rfl ⟨rfl, by decide, by decide, by decide +kernel⟩ ⟨Nat.le_of_ble_eq_true rfl, Nat.le_of_ble_eq_true rfl⟩) ⟨gE_blind, va_recv (q0 := 0) (ci := 0) hKx hPx rfl rfl, gE_at hPx hKx hDx hE _⟩ rfl hl.1 rfl (Nat.le_of_ble_eq_true rfl) dL_part_5 ⟨Nat.le_refl _, Nat.le_refl _⟩ htab (by decide) (by decide) (hw _ w1_200) (cast_IOB hE.1) (fun q9 st9 t9 H locs h1 h2 h3 h4 h5 => ?_)
  have hS := tx_S hS hAx h1 h2 h4.1 h5
  have hk9 := tx_K h1 h2 h4.1
  obtain ⟨hPy, -, -⟩ := h4.2
  have hPy : va_P D vwCl (xW9 h a1 a2 a3 a4 cA n nb u.1) t9.heap := hPy
  rw [h2] at hPy
  have hP : va_P D vwCl (hW9 h a1 a2 a3 a4 o cA cL n nb (u.1, u.2)) H := hx_J hP hD hk9 hPy
  refine lv_astore hx hb dL_part_20 hl (by decide) (lv' := [(4, .ref q9), (0, .ref h), (1, .int (nI v1)), (2, .int z2), (3, .ref o)]) rfl (fun ls hl => ?_)
  refine lv_iconst (v := nI 1) hx hb dL_part_22 (by decide) ?_
  refine W.widen (k := 1) (n := 6) (Nat.le_of_ble_eq_true rfl) (Nat.le_of_ble_eq_true rfl) ?_
  exact W.iret (v := nI 1) hx hb hr (fun t ht hW => ⟨⟨_, (u.1, u.2), rfl, ⟨rfl, trivial⟩, by rw [ht]; exact hP, va_K.moved hW.alike hK, hx_D hD _ _ _⟩, hS.F ht⟩) hS.2.2 dL_part_23

set_option maxHeartbeats 4000000 in
set_option maxRecDepth 100000 in
theorem hL_part_n3 (l : Launch) (D : va_G) (A : Nat → Prop) (h a1 a2 a3 a4 o : Nat) (cA cL : ClassId) (n : Nat) (nb : Nat → Nat) (u : hU) (v1 : Nat) (hst : l.stackTraces = false) (hn : n ≤ 8) (hu : v1 < n) : Met l yL_part (Cond.codeWith yL_part cL_part 5 (some FieldType.int) [(0, 17, 20, 22), (0, 17, 24, 24)] :: bw) (rmT 20) (va_Pc [.ref h, .int (nI v1), .int (nI v1), .ref o] (gL D vwCl A (xA h a1 a2 a3 a4) (hW9 h a1 a2 a3 a4 o cA cL n nb u) [(cA, .int), (cL, .long)])) (va_Qi (fun r (w : hU) => r = nI 2 ∧ True) (fun w => gW D vwCl A (hW9 h a1 a2 a3 a4 o cA cL n nb w) [(cA, .int), (cL, .long)]) A) 1 6 A := by
  refine va_MetW (cc := cL_part) (maxL := 5) (ret := (some FieldType.int)) (hh := [(0, 17, 20, 22), (0, 17, 24, 24)]) (by decide) rfl ?_
  intro p e s m args below meth c s₁ B9 hml hv9
  obtain ⟨rfl, ⟨hP, hK, hD⟩, hE, hN1, hN2⟩ := hv9
  have hx := B9.exec
  have hb := B9.bytes
  have hr := B9.returns
  have hts := atoms_spec (ws := (Cond.codeWith yL_part cL_part 5 (some FieldType.int) [(0, 17, 20, 22), (0, 17, 24, 24)] :: bw)) B9.pre
  have hw : ∀ w ∈ bw, w.before _ s = true := fun w h => hts w (List.mem_cons_of_mem _ h)
  have hown : s.vm.findClass RL = some m.cls := findClass_of_methodNamed B9.named
  have hlocks := B9.notSynchronized
  have hl := lv_entry ([.ref h, .int (nI v1), .int (nI v1), .ref o]) (n := 5) (Nat.le_of_ble_eq_true rfl)
  rw [lg_entry_eq]
  generalize (lg_sl ([.ref h, .int (nI v1), .int (nI v1), .ref o]) ++ List.replicate (5 - (lg_sl ([.ref h, .int (nI v1), .int (nI v1), .ref o])).length) Slot.unset).toArray = ls at hl ⊢
  have hl : lv_has ls 5 [(0, .ref h), (1, .int (nI v1)), (2, .int (nI v1)), (3, .ref o)] := hl
  have htab := tab_of B9 (hts _ List.mem_cons_self)
  have hS : va_S A s.heap s.heap [] := va_S.rf
  have hAx := hx_A hD
  have hPx := hx_P hP
  have hKx := hK.sub [0] (tys' := [(cA, .int)]) rfl
  have hDx := hx_Dx hD n nb u.1
  refine lv_aload_n hx hb dL_part_0 rfl (lv_at hl 3 rfl) ?_
  refine lv_iconst (v := nI 0) hx hb dL_part_1 (by decide) ?_
  refine lv_aload_n hx hb dL_part_2 rfl (lv_at hl 0 rfl) ?_
  refine lv_iload_n hx hb dL_part_3 rfl (lv_at hl 1 rfl) ?_
  refine lv_iload_n hx hb dL_part_4 rfl (lv_at hl 2 rfl) ?_
  refine tx_catch2 (nam1 := "java/lang/IndexOutOfBoundsException") (name := "java/lang/IllegalArgumentException") (C := RX) (As := [.int (nI v1), .int (nI v1)]) (rest := [.int (nI 0), .ref o]) ⟨hx, hb, hml, hown, hw⟩ (cX_part_n3 l D (xA h a1 a2 a3 a4) h a1 a2 a3 a4 cA n u.1.2.2.2 nb u.1.1 u.1.2.1 u.1.2.2.1 v1 hst hn hu) (cwV 2 hw (gV w2_9 w2_10 w2_11 w1_1 w2_12) rfl rfl rfl ⟨rfl, by decide, by decide, by decide +kernel⟩ ⟨Nat.le_of_ble_eq_true rfl, Nat.le_of_ble_eq_true rfl⟩) ⟨gE_blind, va_recv (q0 := 0) (ci := 0) hKx hPx rfl rfl, gE_at hPx hKx hDx hE _⟩ rfl hl.1 rfl (Nat.le_of_ble_eq_true rfl) dL_part_5 ⟨Nat.le_refl _, Nat.le_refl _⟩ htab (by decide) (by decide) (hw _ w1_200) hN1 (by decide) (by decide) (hw _ w1_201) (cast_IAE hE.1) (fun q9 st9 t9 H locs h1 h2 h3 h4 h5 => ?_)
  have hS := tx_S hS hAx h1 h2 h4.1 h5
  have hk9 := tx_K h1 h2 h4.1
  obtain ⟨hPy, -, -⟩ := h4.2
  have hPy : va_P D vwCl (xW9 h a1 a2 a3 a4 cA n nb u.1) t9.heap := hPy
  rw [h2] at hPy
  have hP : va_P D vwCl (hW9 h a1 a2 a3 a4 o cA cL n nb (u.1, u.2)) H := hx_J hP hD hk9 hPy
  refine lv_astore hx hb dL_part_24 hl (by decide) (lv' := [(4, .ref q9), (0, .ref h), (1, .int (nI v1)), (2, .int (nI v1)), (3, .ref o)]) rfl (fun ls hl => ?_)
  refine lv_iconst (v := nI 2) hx hb dL_part_26 (by decide) ?_
  refine W.widen (k := 1) (n := 6) (Nat.le_of_ble_eq_true rfl) (Nat.le_of_ble_eq_true rfl) ?_
  exact W.iret (v := nI 2) hx hb hr (fun t ht hW => ⟨⟨_, (u.1, u.2), rfl, ⟨rfl, trivial⟩, by rw [ht]; exact hP, va_K.moved hW.alike hK, hx_D hD _ _ _⟩, hS.F ht⟩) hS.2.2 dL_part_27

set_option maxHeartbeats 4000000 in
set_option maxRecDepth 100000 in
theorem hL_adjacent_y (l : Launch) (D : va_G) (A : Nat → Prop) (h a1 a2 a3 a4 o : Nat) (cA cL : ClassId) (n : Nat) (nb : Nat → Nat) (u : hU) (v1 v2 : Nat)  (hn : n ≤ 8) (hnb : ∀ v, v < n → nb v < 256) (hu : v1 < n) (hv : v2 < n) : Met l yL_adjacent (Cond.codeWith yL_adjacent cL_adjacent 5 (some FieldType.int) [(0, 17, 20, 22)] :: bw) (rmT 20) (va_Pc [.ref h, .int (nI v1), .int (nI v2), .ref o] (gL D vwCl A (xA h a1 a2 a3 a4) (hW9 h a1 a2 a3 a4 o cA cL n nb u) [(cA, .int), (cL, .long)])) (va_Qi (fun r (w : hU) => r = nI 0 ∧ w.2 0 = if ((nb v1).testBit v2) = true then 1 else 0) (fun w => gW D vwCl A (hW9 h a1 a2 a3 a4 o cA cL n nb w) [(cA, .int), (cL, .long)]) A) 1 6 A := by
  refine va_MetW (cc := cL_adjacent) (maxL := 5) (ret := (some FieldType.int)) (hh := [(0, 17, 20, 22)]) (by decide) rfl ?_
  intro p e s m args below meth c s₁ B9 hml hv9
  obtain ⟨rfl, ⟨hP, hK, hD⟩, hE, hN1, hN2⟩ := hv9
  have hx := B9.exec
  have hb := B9.bytes
  have hr := B9.returns
  have hts := atoms_spec (ws := (Cond.codeWith yL_adjacent cL_adjacent 5 (some FieldType.int) [(0, 17, 20, 22)] :: bw)) B9.pre
  have hw : ∀ w ∈ bw, w.before _ s = true := fun w h => hts w (List.mem_cons_of_mem _ h)
  have hown : s.vm.findClass RL = some m.cls := findClass_of_methodNamed B9.named
  have hlocks := B9.notSynchronized
  have hl := lv_entry ([.ref h, .int (nI v1), .int (nI v2), .ref o]) (n := 5) (Nat.le_of_ble_eq_true rfl)
  rw [lg_entry_eq]
  generalize (lg_sl ([.ref h, .int (nI v1), .int (nI v2), .ref o]) ++ List.replicate (5 - (lg_sl ([.ref h, .int (nI v1), .int (nI v2), .ref o])).length) Slot.unset).toArray = ls at hl ⊢
  have hl : lv_has ls 5 [(0, .ref h), (1, .int (nI v1)), (2, .int (nI v2)), (3, .ref o)] := hl
  have htab := tab_of B9 (hts _ List.mem_cons_self)
  have hS : va_S A s.heap s.heap [] := va_S.rf
  have hAx := hx_A hD
  have hPx := hx_P hP
  have hKx := hK.sub [0] (tys' := [(cA, .int)]) rfl
  have hDx := hx_Dx hD n nb u.1
  refine lv_aload_n hx hb dL_adjacent_0 rfl (lv_at hl 3 rfl) ?_
  refine lv_iconst (v := nI 0) hx hb dL_adjacent_1 (by decide) ?_
  refine lv_aload_n hx hb dL_adjacent_2 rfl (lv_at hl 0 rfl) ?_
  refine lv_iload_n hx hb dL_adjacent_3 rfl (lv_at hl 1 rfl) ?_
  refine lv_iload_n hx hb dL_adjacent_4 rfl (lv_at hl 2 rfl) ?_
  refine nr_V (b := h) (As := [.int (nI v1), .int (nI v2)]) (C := RX) (rest := [.int (nI 0), .ref o]) ⟨hx, hb, hml, hown, hw⟩ (cX_adjacent_c l D (xA h a1 a2 a3 a4) h a1 a2 a3 a4 cA n u.1.2.2.2 nb u.1.1 u.1.2.1 u.1.2.2.1 v1 v2 hn hnb hu hv) (cwV 2 hw (gV w2_16 w2_17 w2_18 w1_1 w2_19) rfl rfl rfl ⟨rfl, by decide, by decide, by decide +kernel⟩ ⟨Nat.le_of_ble_eq_true rfl, Nat.le_of_ble_eq_true rfl⟩) gB_blind (va_recv (q0 := 0) (ci := 0) hKx hPx rfl rfl) (gB_at hPx hKx _) rfl hl.1 rfl (Nat.le_of_ble_eq_true rfl) dL_adjacent_5 ⟨Nat.zero_le _, Nat.zero_le _⟩ ?_
  refine nv_b_eq (x := (nb v1).testBit v2) (tgt := 15) hx hb dL_adjacent_8 rfl (fun hc => ?_) (fun hc => ?_)
  · refine lv_lconst (v := 0) hx hb dL_adjacent_15 rfl ?_
    refine nv_last (f := u.2) (x := 0) hx hb hK hP hD hS 5 1 rfl rfl dL_adjacent_16 (fun H locs hP hD hS => ?_)
    have hP : va_P D vwCl (hW9 h a1 a2 a3 a4 o cA cL n nb (u.1, vp_updL u.2 0 0)) H := hP
    have hD : va_D A (hW9 h a1 a2 a3 a4 o cA cL n nb (u.1, vp_updL u.2 0 0)) := hD
    refine lv_goto (tgt := 24) hx hb dL_adjacent_17 rfl ?_
    refine lv_iconst (v := nI 0) hx hb dL_adjacent_24 (by decide) ?_
    refine W.widen (k := 1) (n := 6) (Nat.le_of_ble_eq_true rfl) (Nat.le_of_ble_eq_true rfl) ?_
    exact W.iret (v := nI 0) hx hb hr (fun t ht hW => ⟨⟨_, (u.1, vp_updL u.2 0 0), rfl, ⟨rfl, (updL_0 (f := u.2) (x := 0)).trans (lif_f hc)⟩, by rw [ht]; exact hP, va_K.moved hW.alike hK, hD⟩, hS.F ht⟩) hS.2.2 dL_adjacent_25
  · refine lv_lconst (v := 1) hx hb dL_adjacent_11 rfl ?_
    refine lv_goto (tgt := 16) hx hb dL_adjacent_12 rfl ?_
    refine nv_last (f := u.2) (x := 1) hx hb hK hP hD hS 5 1 rfl rfl dL_adjacent_16 (fun H locs hP hD hS => ?_)
    have hP : va_P D vwCl (hW9 h a1 a2 a3 a4 o cA cL n nb (u.1, vp_updL u.2 0 1)) H := hP
    have hD : va_D A (hW9 h a1 a2 a3 a4 o cA cL n nb (u.1, vp_updL u.2 0 1)) := hD
    refine lv_goto (tgt := 24) hx hb dL_adjacent_17 rfl ?_
    refine lv_iconst (v := nI 0) hx hb dL_adjacent_24 (by decide) ?_
    refine W.widen (k := 1) (n := 6) (Nat.le_of_ble_eq_true rfl) (Nat.le_of_ble_eq_true rfl) ?_
    exact W.iret (v := nI 0) hx hb hr (fun t ht hW => ⟨⟨_, (u.1, vp_updL u.2 0 1), rfl, ⟨rfl, (updL_0 (f := u.2) (x := 1)).trans (lif_t hc)⟩, by rw [ht]; exact hP, va_K.moved hW.alike hK, hD⟩, hS.F ht⟩) hS.2.2 dL_adjacent_25

set_option maxHeartbeats 4000000 in
set_option maxRecDepth 100000 in
theorem hL_adjacent_n1 (l : Launch) (D : va_G) (A : Nat → Prop) (h a1 a2 a3 a4 o : Nat) (cA cL : ClassId) (n : Nat) (nb : Nat → Nat) (u : hU) (z1 z2 : Int32) (hst : l.stackTraces = false) (hn : n ≤ 8) (hz9 : ∀ k, k < n → z1 ≠ nI k) : Met l yL_adjacent (Cond.codeWith yL_adjacent cL_adjacent 5 (some FieldType.int) [(0, 17, 20, 22)] :: bw) (rmT 20) (va_Pc [.ref h, .int z1, .int z2, .ref o] (gL D vwCl A (xA h a1 a2 a3 a4) (hW9 h a1 a2 a3 a4 o cA cL n nb u) [(cA, .int), (cL, .long)])) (va_Qi (fun r (w : hU) => r = nI 1 ∧ True) (fun w => gW D vwCl A (hW9 h a1 a2 a3 a4 o cA cL n nb w) [(cA, .int), (cL, .long)]) A) 1 6 A := by
  refine va_MetW (cc := cL_adjacent) (maxL := 5) (ret := (some FieldType.int)) (hh := [(0, 17, 20, 22)]) (by decide) rfl ?_
  intro p e s m args below meth c s₁ B9 hml hv9
  obtain ⟨rfl, ⟨hP, hK, hD⟩, hE, hN1, hN2⟩ := hv9
  have hx := B9.exec
  have hb := B9.bytes
  have hr := B9.returns
  have hts := atoms_spec (ws := (Cond.codeWith yL_adjacent cL_adjacent 5 (some FieldType.int) [(0, 17, 20, 22)] :: bw)) B9.pre
  have hw : ∀ w ∈ bw, w.before _ s = true := fun w h => hts w (List.mem_cons_of_mem _ h)
  have hown : s.vm.findClass RL = some m.cls := findClass_of_methodNamed B9.named
  have hlocks := B9.notSynchronized
  have hl := lv_entry ([.ref h, .int z1, .int z2, .ref o]) (n := 5) (Nat.le_of_ble_eq_true rfl)
  rw [lg_entry_eq]
  generalize (lg_sl ([.ref h, .int z1, .int z2, .ref o]) ++ List.replicate (5 - (lg_sl ([.ref h, .int z1, .int z2, .ref o])).length) Slot.unset).toArray = ls at hl ⊢
  have hl : lv_has ls 5 [(0, .ref h), (1, .int z1), (2, .int z2), (3, .ref o)] := hl
  have htab := tab_of B9 (hts _ List.mem_cons_self)
  have hS : va_S A s.heap s.heap [] := va_S.rf
  have hAx := hx_A hD
  have hPx := hx_P hP
  have hKx := hK.sub [0] (tys' := [(cA, .int)]) rfl
  have hDx := hx_Dx hD n nb u.1
  refine lv_aload_n hx hb dL_adjacent_0 rfl (lv_at hl 3 rfl) ?_
  refine lv_iconst (v := nI 0) hx hb dL_adjacent_1 (by decide) ?_
  refine lv_aload_n hx hb dL_adjacent_2 rfl (lv_at hl 0 rfl) ?_
  refine lv_iload_n hx hb dL_adjacent_3 rfl (lv_at hl 1 rfl) ?_
  refine lv_iload_n hx hb dL_adjacent_4 rfl (lv_at hl 2 rfl) ?_
  refine tx_catch1 (name := "java/lang/IndexOutOfBoundsException") (C := RX) (As := [.int z1, .int z2]) (rest := [.int (nI 0), .ref o]) ⟨hx, hb, hml, hown, hw⟩ (cX_adjacent_n1 l D (xA h a1 a2 a3 a4) h a1 a2 a3 a4 cA n u.1.2.2.2 nb u.1.1 u.1.2.1 u.1.2.2.1 z1 z2 hst hn hz9) (cwV 2 hw (gV w2_16 w2_17 w2_18 w1_1 w2_19) rfl rfl rfl ⟨rfl, by decide, by decide, by decide +kernel⟩ ⟨Nat.le_of_ble_eq_true rfl, Nat.le_of_ble_eq_true rfl⟩) ⟨gE_blind, va_recv (q0 := 0) (ci := 0) hKx hPx rfl rfl, gE_at hPx hKx hDx hE _⟩ rfl hl.1 rfl (Nat.le_of_ble_eq_true rfl) dL_adjacent_5 ⟨Nat.le_refl _, Nat.le_refl _⟩ htab (by decide) (by decide) (hw _ w1_200) (cast_IOB hE.1) (fun q9 st9 t9 H locs h1 h2 h3 h4 h5 => ?_)
  have hS := tx_S hS hAx h1 h2 h4.1 h5
  have hk9 := tx_K h1 h2 h4.1
  obtain ⟨hPy, -, -⟩ := h4.2
  have hPy : va_P D vwCl (xW9 h a1 a2 a3 a4 cA n nb u.1) t9.heap := hPy
  rw [h2] at hPy
  have hP : va_P D vwCl (hW9 h a1 a2 a3 a4 o cA cL n nb (u.1, u.2)) H := hx_J hP hD hk9 hPy
  refine lv_astore hx hb dL_adjacent_20 hl (by decide) (lv' := [(4, .ref q9), (0, .ref h), (1, .int z1), (2, .int z2), (3, .ref o)]) rfl (fun ls hl => ?_)
  refine lv_iconst (v := nI 1) hx hb dL_adjacent_22 (by decide) ?_
  refine W.widen (k := 1) (n := 6) (Nat.le_of_ble_eq_true rfl) (Nat.le_of_ble_eq_true rfl) ?_
  exact W.iret (v := nI 1) hx hb hr (fun t ht hW => ⟨⟨_, (u.1, u.2), rfl, ⟨rfl, trivial⟩, by rw [ht]; exact hP, va_K.moved hW.alike hK, hx_D hD _ _ _⟩, hS.F ht⟩) hS.2.2 dL_adjacent_23

set_option maxHeartbeats 4000000 in
set_option maxRecDepth 100000 in
theorem hL_adjacent_n2 (l : Launch) (D : va_G) (A : Nat → Prop) (h a1 a2 a3 a4 o : Nat) (cA cL : ClassId) (n : Nat) (nb : Nat → Nat) (u : hU) (v1 : Nat) (z2 : Int32) (hst : l.stackTraces = false) (hn : n ≤ 8) (hu : v1 < n) (hz9 : ∀ k, k < n → z2 ≠ nI k) : Met l yL_adjacent (Cond.codeWith yL_adjacent cL_adjacent 5 (some FieldType.int) [(0, 17, 20, 22)] :: bw) (rmT 20) (va_Pc [.ref h, .int (nI v1), .int z2, .ref o] (gL D vwCl A (xA h a1 a2 a3 a4) (hW9 h a1 a2 a3 a4 o cA cL n nb u) [(cA, .int), (cL, .long)])) (va_Qi (fun r (w : hU) => r = nI 1 ∧ True) (fun w => gW D vwCl A (hW9 h a1 a2 a3 a4 o cA cL n nb w) [(cA, .int), (cL, .long)]) A) 1 6 A := by
  refine va_MetW (cc := cL_adjacent) (maxL := 5) (ret := (some FieldType.int)) (hh := [(0, 17, 20, 22)]) (by decide) rfl ?_
  intro p e s m args below meth c s₁ B9 hml hv9
  obtain ⟨rfl, ⟨hP, hK, hD⟩, hE, hN1, hN2⟩ := hv9
  have hx := B9.exec
  have hb := B9.bytes
  have hr := B9.returns
  have hts := atoms_spec (ws := (Cond.codeWith yL_adjacent cL_adjacent 5 (some FieldType.int) [(0, 17, 20, 22)] :: bw)) B9.pre
  have hw : ∀ w ∈ bw, w.before _ s = true := fun w h => hts w (List.mem_cons_of_mem _ h)
  have hown : s.vm.findClass RL = some m.cls := findClass_of_methodNamed B9.named
  have hlocks := B9.notSynchronized
  have hl := lv_entry ([.ref h, .int (nI v1), .int z2, .ref o]) (n := 5) (Nat.le_of_ble_eq_true rfl)
  rw [lg_entry_eq]
  generalize (lg_sl ([.ref h, .int (nI v1), .int z2, .ref o]) ++ List.replicate (5 - (lg_sl ([.ref h, .int (nI v1), .int z2, .ref o])).length) Slot.unset).toArray = ls at hl ⊢
  have hl : lv_has ls 5 [(0, .ref h), (1, .int (nI v1)), (2, .int z2), (3, .ref o)] := hl
  have htab := tab_of B9 (hts _ List.mem_cons_self)
  have hS : va_S A s.heap s.heap [] := va_S.rf
  have hAx := hx_A hD
  have hPx := hx_P hP
  have hKx := hK.sub [0] (tys' := [(cA, .int)]) rfl
  have hDx := hx_Dx hD n nb u.1
  refine lv_aload_n hx hb dL_adjacent_0 rfl (lv_at hl 3 rfl) ?_
  refine lv_iconst (v := nI 0) hx hb dL_adjacent_1 (by decide) ?_
  refine lv_aload_n hx hb dL_adjacent_2 rfl (lv_at hl 0 rfl) ?_
  refine lv_iload_n hx hb dL_adjacent_3 rfl (lv_at hl 1 rfl) ?_
  refine lv_iload_n hx hb dL_adjacent_4 rfl (lv_at hl 2 rfl) ?_
  refine tx_catch1 (name := "java/lang/IndexOutOfBoundsException") (C := RX) (As := [.int (nI v1), .int z2]) (rest := [.int (nI 0), .ref o]) ⟨hx, hb, hml, hown, hw⟩ (cX_adjacent_n2 l D (xA h a1 a2 a3 a4) h a1 a2 a3 a4 cA n u.1.2.2.2 nb u.1.1 u.1.2.1 u.1.2.2.1 v1 z2 hst hn hu hz9) (cwV 2 hw (gV w2_16 w2_17 w2_18 w1_1 w2_19) rfl rfl rfl ⟨rfl, by decide, by decide, by decide +kernel⟩ ⟨Nat.le_of_ble_eq_true rfl, Nat.le_of_ble_eq_true rfl⟩) ⟨gE_blind, va_recv (q0 := 0) (ci := 0) hKx hPx rfl rfl, gE_at hPx hKx hDx hE _⟩ rfl hl.1 rfl (Nat.le_of_ble_eq_true rfl) dL_adjacent_5 ⟨Nat.le_refl _, Nat.le_refl _⟩ htab (by decide) (by decide) (hw _ w1_200) (cast_IOB hE.1) (fun q9 st9 t9 H locs h1 h2 h3 h4 h5 => ?_)
  have hS := tx_S hS hAx h1 h2 h4.1 h5
  have hk9 := tx_K h1 h2 h4.1
  obtain ⟨hPy, -, -⟩ := h4.2
  have hPy : va_P D vwCl (xW9 h a1 a2 a3 a4 cA n nb u.1) t9.heap := hPy
  rw [h2] at hPy
  have hP : va_P D vwCl (hW9 h a1 a2 a3 a4 o cA cL n nb (u.1, u.2)) H := hx_J hP hD hk9 hPy
  refine lv_astore hx hb dL_adjacent_20 hl (by decide) (lv' := [(4, .ref q9), (0, .ref h), (1, .int (nI v1)), (2, .int z2), (3, .ref o)]) rfl (fun ls hl => ?_)
  refine lv_iconst (v := nI 1) hx hb dL_adjacent_22 (by decide) ?_
  refine W.widen (k := 1) (n := 6) (Nat.le_of_ble_eq_true rfl) (Nat.le_of_ble_eq_true rfl) ?_
  exact W.iret (v := nI 1) hx hb hr (fun t ht hW => ⟨⟨_, (u.1, u.2), rfl, ⟨rfl, trivial⟩, by rw [ht]; exact hP, va_K.moved hW.alike hK, hx_D hD _ _ _⟩, hS.F ht⟩) hS.2.2 dL_adjacent_23

set_option maxHeartbeats 4000000 in
set_option maxRecDepth 100000 in
theorem hL_leader_y (l : Launch) (D : va_G) (A : Nat → Prop) (h a1 a2 a3 a4 o : Nat) (cA cL : ClassId) (n : Nat) (nb : Nat → Nat) (u : hU) (v : Nat)  (hn : n ≤ 8) (hnb : ∀ v, v < n → nb v < 256) (hv : v < n) : Met l yL_leader (Cond.codeWith yL_leader cL_leader 4 (some FieldType.int) [(0, 9, 12, 22)] :: bw) (rmT 20) (va_Pc [.ref h, .int (nI v), .ref o] (gL D vwCl A (xA h a1 a2 a3 a4) (hW9 h a1 a2 a3 a4 o cA cL n nb u) [(cA, .int), (cL, .long)])) (va_Qi (fun r (w : hU) => r = nI 0 ∧ w.2 0 = (nI (tzN (jRe nb n v (n - 1))) : Int32).toInt64) (fun w => gW D vwCl A (hW9 h a1 a2 a3 a4 o cA cL n nb w) [(cA, .int), (cL, .long)]) A) 1 6 A := by
  refine va_MetW (cc := cL_leader) (maxL := 4) (ret := (some FieldType.int)) (hh := [(0, 9, 12, 22)]) (by decide) rfl ?_
  intro p e s m args below meth c s₁ B9 hml hv9
  obtain ⟨rfl, ⟨hP, hK, hD⟩, hE, hN1, hN2⟩ := hv9
  have hx := B9.exec
  have hb := B9.bytes
  have hr := B9.returns
  have hts := atoms_spec (ws := (Cond.codeWith yL_leader cL_leader 4 (some FieldType.int) [(0, 9, 12, 22)] :: bw)) B9.pre
  have hw : ∀ w ∈ bw, w.before _ s = true := fun w h => hts w (List.mem_cons_of_mem _ h)
  have hown : s.vm.findClass RL = some m.cls := findClass_of_methodNamed B9.named
  have hlocks := B9.notSynchronized
  have hl := lv_entry ([.ref h, .int (nI v), .ref o]) (n := 4) (Nat.le_of_ble_eq_true rfl)
  rw [lg_entry_eq]
  generalize (lg_sl ([.ref h, .int (nI v), .ref o]) ++ List.replicate (4 - (lg_sl ([.ref h, .int (nI v), .ref o])).length) Slot.unset).toArray = ls at hl ⊢
  have hl : lv_has ls 4 [(0, .ref h), (1, .int (nI v)), (2, .ref o)] := hl
  have htab := tab_of B9 (hts _ List.mem_cons_self)
  have hS : va_S A s.heap s.heap [] := va_S.rf
  have hAx := hx_A hD
  have hPx := hx_P hP
  have hKx := hK.sub [0] (tys' := [(cA, .int)]) rfl
  have hDx := hx_Dx hD n nb u.1
  refine lv_aload_n hx hb dL_leader_0 rfl (lv_at hl 2 rfl) ?_
  refine lv_iconst (v := nI 0) hx hb dL_leader_1 (by decide) ?_
  refine lv_aload_n hx hb dL_leader_2 rfl (lv_at hl 0 rfl) ?_
  refine lv_iload_n hx hb dL_leader_3 rfl (lv_at hl 1 rfl) ?_
  refine nr_V (b := h) (As := [.int (nI v)]) (C := RX) (rest := [.int (nI 0), .ref o]) ⟨hx, hb, hml, hown, hw⟩ (cX_leader_c l D (xA h a1 a2 a3 a4) h a1 a2 a3 a4 cA n u.1.2.2.2 nb u.1.1 u.1.2.1 u.1.2.2.1 v hn hnb hv) (cwV 1 hw (gV w2_23 w2_24 w2_25 w1_1 w2_26) rfl rfl rfl ⟨rfl, by decide, by decide, by decide +kernel⟩ ⟨Nat.le_of_ble_eq_true rfl, Nat.le_of_ble_eq_true rfl⟩) gB_blind (va_recv (q0 := 0) (ci := 0) hKx hPx rfl rfl) (gB_at hPx hKx _) rfl hl.1 rfl (Nat.le_of_ble_eq_true rfl) dL_leader_4 ⟨Nat.zero_le _, Nat.zero_le _⟩ ?_
  refine lv_i2l (v := (nI (tzN (jRe nb n v (n - 1))) : Int32).toInt64) hx hb dL_leader_7 rfl ?_
  refine nv_last (f := u.2) (x := (nI (tzN (jRe nb n v (n - 1))) : Int32).toInt64) hx hb hK hP hD hS 5 1 rfl rfl dL_leader_8 (fun H locs hP hD hS => ?_)
  have hP : va_P D vwCl (hW9 h a1 a2 a3 a4 o cA cL n nb (u.1, vp_updL u.2 0 ((nI (tzN (jRe nb n v (n - 1))) : Int32).toInt64))) H := hP
  have hD : va_D A (hW9 h a1 a2 a3 a4 o cA cL n nb (u.1, vp_updL u.2 0 ((nI (tzN (jRe nb n v (n - 1))) : Int32).toInt64))) := hD
  refine lv_goto (tgt := 15) hx hb dL_leader_9 rfl ?_
  refine lv_iconst (v := nI 0) hx hb dL_leader_15 (by decide) ?_
  refine W.widen (k := 1) (n := 6) (Nat.le_of_ble_eq_true rfl) (Nat.le_of_ble_eq_true rfl) ?_
  exact W.iret (v := nI 0) hx hb hr (fun t ht hW => ⟨⟨_, (u.1, vp_updL u.2 0 ((nI (tzN (jRe nb n v (n - 1))) : Int32).toInt64)), rfl, ⟨rfl, updL_0 (f := u.2) (x := (nI (tzN (jRe nb n v (n - 1))) : Int32).toInt64)⟩, by rw [ht]; exact hP, va_K.moved hW.alike hK, hD⟩, hS.F ht⟩) hS.2.2 dL_leader_16

set_option maxHeartbeats 4000000 in
set_option maxRecDepth 100000 in
theorem hL_leader_n1 (l : Launch) (D : va_G) (A : Nat → Prop) (h a1 a2 a3 a4 o : Nat) (cA cL : ClassId) (n : Nat) (nb : Nat → Nat) (u : hU) (z1 : Int32) (hst : l.stackTraces = false) (hn : n ≤ 8) (hz9 : ∀ k, k < n → z1 ≠ nI k) : Met l yL_leader (Cond.codeWith yL_leader cL_leader 4 (some FieldType.int) [(0, 9, 12, 22)] :: bw) (rmT 20) (va_Pc [.ref h, .int z1, .ref o] (gL D vwCl A (xA h a1 a2 a3 a4) (hW9 h a1 a2 a3 a4 o cA cL n nb u) [(cA, .int), (cL, .long)])) (va_Qi (fun r (w : hU) => r = nI 1 ∧ True) (fun w => gW D vwCl A (hW9 h a1 a2 a3 a4 o cA cL n nb w) [(cA, .int), (cL, .long)]) A) 1 6 A := by
  refine va_MetW (cc := cL_leader) (maxL := 4) (ret := (some FieldType.int)) (hh := [(0, 9, 12, 22)]) (by decide) rfl ?_
  intro p e s m args below meth c s₁ B9 hml hv9
  obtain ⟨rfl, ⟨hP, hK, hD⟩, hE, hN1, hN2⟩ := hv9
  have hx := B9.exec
  have hb := B9.bytes
  have hr := B9.returns
  have hts := atoms_spec (ws := (Cond.codeWith yL_leader cL_leader 4 (some FieldType.int) [(0, 9, 12, 22)] :: bw)) B9.pre
  have hw : ∀ w ∈ bw, w.before _ s = true := fun w h => hts w (List.mem_cons_of_mem _ h)
  have hown : s.vm.findClass RL = some m.cls := findClass_of_methodNamed B9.named
  have hlocks := B9.notSynchronized
  have hl := lv_entry ([.ref h, .int z1, .ref o]) (n := 4) (Nat.le_of_ble_eq_true rfl)
  rw [lg_entry_eq]
  generalize (lg_sl ([.ref h, .int z1, .ref o]) ++ List.replicate (4 - (lg_sl ([.ref h, .int z1, .ref o])).length) Slot.unset).toArray = ls at hl ⊢
  have hl : lv_has ls 4 [(0, .ref h), (1, .int z1), (2, .ref o)] := hl
  have htab := tab_of B9 (hts _ List.mem_cons_self)
  have hS : va_S A s.heap s.heap [] := va_S.rf
  have hAx := hx_A hD
  have hPx := hx_P hP
  have hKx := hK.sub [0] (tys' := [(cA, .int)]) rfl
  have hDx := hx_Dx hD n nb u.1
  refine lv_aload_n hx hb dL_leader_0 rfl (lv_at hl 2 rfl) ?_
  refine lv_iconst (v := nI 0) hx hb dL_leader_1 (by decide) ?_
  refine lv_aload_n hx hb dL_leader_2 rfl (lv_at hl 0 rfl) ?_
  refine lv_iload_n hx hb dL_leader_3 rfl (lv_at hl 1 rfl) ?_
  refine tx_catch1 (name := "java/lang/IndexOutOfBoundsException") (C := RX) (As := [.int z1]) (rest := [.int (nI 0), .ref o]) ⟨hx, hb, hml, hown, hw⟩ (cX_leader_n1 l D (xA h a1 a2 a3 a4) h a1 a2 a3 a4 cA n u.1.2.2.2 nb u.1.1 u.1.2.1 u.1.2.2.1 z1 hst hn hz9) (cwV 1 hw (gV w2_23 w2_24 w2_25 w1_1 w2_26) rfl rfl rfl ⟨rfl, by decide, by decide, by decide +kernel⟩ ⟨Nat.le_of_ble_eq_true rfl, Nat.le_of_ble_eq_true rfl⟩) ⟨gE_blind, va_recv (q0 := 0) (ci := 0) hKx hPx rfl rfl, gE_at hPx hKx hDx hE _⟩ rfl hl.1 rfl (Nat.le_of_ble_eq_true rfl) dL_leader_4 ⟨Nat.le_refl _, Nat.le_refl _⟩ htab (by decide) (by decide) (hw _ w1_200) (cast_IOB hE.1) (fun q9 st9 t9 H locs h1 h2 h3 h4 h5 => ?_)
  have hS := tx_S hS hAx h1 h2 h4.1 h5
  have hk9 := tx_K h1 h2 h4.1
  obtain ⟨hPy, -, -⟩ := h4.2
  have hPy : va_P D vwCl (xW9 h a1 a2 a3 a4 cA n nb u.1) t9.heap := hPy
  rw [h2] at hPy
  have hP : va_P D vwCl (hW9 h a1 a2 a3 a4 o cA cL n nb (u.1, u.2)) H := hx_J hP hD hk9 hPy
  refine lv_astore_n hx hb dL_leader_12 rfl hl (by decide) (lv' := [(3, .ref q9), (0, .ref h), (1, .int z1), (2, .ref o)]) rfl (fun ls hl => ?_)
  refine lv_iconst (v := nI 1) hx hb dL_leader_13 (by decide) ?_
  refine W.widen (k := 1) (n := 6) (Nat.le_of_ble_eq_true rfl) (Nat.le_of_ble_eq_true rfl) ?_
  exact W.iret (v := nI 1) hx hb hr (fun t ht hW => ⟨⟨_, (u.1, u.2), rfl, ⟨rfl, trivial⟩, by rw [ht]; exact hP, va_K.moved hW.alike hK, hx_D hD _ _ _⟩, hS.F ht⟩) hS.2.2 dL_leader_14

set_option maxHeartbeats 4000000 in
set_option maxRecDepth 100000 in
theorem hL_low_n1 (l : Launch) (D : va_G) (A : Nat → Prop) (h a1 a2 a3 a4 o : Nat) (cA cL : ClassId) (n : Nat) (nb : Nat → Nat) (u : hU) (z1 : Int32) (hst : l.stackTraces = false) (hn : n ≤ 8) (hz9 : ∀ k, k < n → z1 ≠ nI k) : Met l yL_low (Cond.codeWith yL_low cL_low 4 (some FieldType.int) [(0, 9, 12, 22), (0, 9, 15, 13)] :: bw) (rmT 20) (va_Pc [.ref h, .int z1, .ref o] (gL D vwCl A (xA h a1 a2 a3 a4) (hW9 h a1 a2 a3 a4 o cA cL n nb u) [(cA, .int), (cL, .long)])) (va_Qi (fun r (w : hU) => r = nI 1 ∧ True) (fun w => gW D vwCl A (hW9 h a1 a2 a3 a4 o cA cL n nb w) [(cA, .int), (cL, .long)]) A) 1 6 A := by
  refine va_MetW (cc := cL_low) (maxL := 4) (ret := (some FieldType.int)) (hh := [(0, 9, 12, 22), (0, 9, 15, 13)]) (by decide) rfl ?_
  intro p e s m args below meth c s₁ B9 hml hv9
  obtain ⟨rfl, ⟨hP, hK, hD⟩, hE, hN1, hN2⟩ := hv9
  have hx := B9.exec
  have hb := B9.bytes
  have hr := B9.returns
  have hts := atoms_spec (ws := (Cond.codeWith yL_low cL_low 4 (some FieldType.int) [(0, 9, 12, 22), (0, 9, 15, 13)] :: bw)) B9.pre
  have hw : ∀ w ∈ bw, w.before _ s = true := fun w h => hts w (List.mem_cons_of_mem _ h)
  have hown : s.vm.findClass RL = some m.cls := findClass_of_methodNamed B9.named
  have hlocks := B9.notSynchronized
  have hl := lv_entry ([.ref h, .int z1, .ref o]) (n := 4) (Nat.le_of_ble_eq_true rfl)
  rw [lg_entry_eq]
  generalize (lg_sl ([.ref h, .int z1, .ref o]) ++ List.replicate (4 - (lg_sl ([.ref h, .int z1, .ref o])).length) Slot.unset).toArray = ls at hl ⊢
  have hl : lv_has ls 4 [(0, .ref h), (1, .int z1), (2, .ref o)] := hl
  have htab := tab_of B9 (hts _ List.mem_cons_self)
  have hS : va_S A s.heap s.heap [] := va_S.rf
  have hAx := hx_A hD
  have hPx := hx_P hP
  have hKx := hK.sub [0] (tys' := [(cA, .int)]) rfl
  have hDx := hx_Dx hD n nb u.1
  refine lv_aload_n hx hb dL_low_0 rfl (lv_at hl 2 rfl) ?_
  refine lv_iconst (v := nI 0) hx hb dL_low_1 (by decide) ?_
  refine lv_aload_n hx hb dL_low_2 rfl (lv_at hl 0 rfl) ?_
  refine lv_iload_n hx hb dL_low_3 rfl (lv_at hl 1 rfl) ?_
  refine tx_catch1 (name := "java/lang/IndexOutOfBoundsException") (C := RX) (As := [.int z1]) (rest := [.int (nI 0), .ref o]) ⟨hx, hb, hml, hown, hw⟩ (cX_low_n1 l D (xA h a1 a2 a3 a4) h a1 a2 a3 a4 cA n u.1.2.2.2 nb u.1.1 u.1.2.1 u.1.2.2.1 z1 hst hn hz9) (cwV 1 hw (gV w2_46 w2_47 w2_48 w1_1 w2_49) rfl rfl rfl ⟨rfl, by decide, by decide, by decide +kernel⟩ ⟨Nat.le_of_ble_eq_true rfl, Nat.le_of_ble_eq_true rfl⟩) ⟨gE_blind, va_recv (q0 := 0) (ci := 0) hKx hPx rfl rfl, gE_at hPx hKx hDx hE _⟩ rfl hl.1 rfl (Nat.le_of_ble_eq_true rfl) dL_low_4 ⟨Nat.le_refl _, Nat.le_refl _⟩ htab (by decide) (by decide) (hw _ w1_200) (cast_IOB hE.1) (fun q9 st9 t9 H locs h1 h2 h3 h4 h5 => ?_)
  have hS := tx_S hS hAx h1 h2 h4.1 h5
  have hk9 := tx_K h1 h2 h4.1
  obtain ⟨hPy, -, -⟩ := h4.2
  have hPy : va_P D vwCl (xW9 h a1 a2 a3 a4 cA n nb u.1) t9.heap := hPy
  rw [h2] at hPy
  have hP : va_P D vwCl (hW9 h a1 a2 a3 a4 o cA cL n nb (u.1, u.2)) H := hx_J hP hD hk9 hPy
  refine lv_astore_n hx hb dL_low_12 rfl hl (by decide) (lv' := [(3, .ref q9), (0, .ref h), (1, .int z1), (2, .ref o)]) rfl (fun ls hl => ?_)
  refine lv_iconst (v := nI 1) hx hb dL_low_13 (by decide) ?_
  refine W.widen (k := 1) (n := 6) (Nat.le_of_ble_eq_true rfl) (Nat.le_of_ble_eq_true rfl) ?_
  exact W.iret (v := nI 1) hx hb hr (fun t ht hW => ⟨⟨_, (u.1, u.2), rfl, ⟨rfl, trivial⟩, by rw [ht]; exact hP, va_K.moved hW.alike hK, hx_D hD _ _ _⟩, hS.F ht⟩) hS.2.2 dL_low_14

set_option maxHeartbeats 4000000 in
set_option maxRecDepth 100000 in
theorem hL_high_n1 (l : Launch) (D : va_G) (A : Nat → Prop) (h a1 a2 a3 a4 o : Nat) (cA cL : ClassId) (n : Nat) (nb : Nat → Nat) (u : hU) (z1 : Int32) (hst : l.stackTraces = false) (hn : n ≤ 8) (hz9 : ∀ k, k < n → z1 ≠ nI k) : Met l yL_high (Cond.codeWith yL_high cL_high 4 (some FieldType.int) [(0, 9, 12, 22), (0, 9, 15, 13)] :: bw) (rmT 20) (va_Pc [.ref h, .int z1, .ref o] (gL D vwCl A (xA h a1 a2 a3 a4) (hW9 h a1 a2 a3 a4 o cA cL n nb u) [(cA, .int), (cL, .long)])) (va_Qi (fun r (w : hU) => r = nI 1 ∧ True) (fun w => gW D vwCl A (hW9 h a1 a2 a3 a4 o cA cL n nb w) [(cA, .int), (cL, .long)]) A) 1 6 A := by
  refine va_MetW (cc := cL_high) (maxL := 4) (ret := (some FieldType.int)) (hh := [(0, 9, 12, 22), (0, 9, 15, 13)]) (by decide) rfl ?_
  intro p e s m args below meth c s₁ B9 hml hv9
  obtain ⟨rfl, ⟨hP, hK, hD⟩, hE, hN1, hN2⟩ := hv9
  have hx := B9.exec
  have hb := B9.bytes
  have hr := B9.returns
  have hts := atoms_spec (ws := (Cond.codeWith yL_high cL_high 4 (some FieldType.int) [(0, 9, 12, 22), (0, 9, 15, 13)] :: bw)) B9.pre
  have hw : ∀ w ∈ bw, w.before _ s = true := fun w h => hts w (List.mem_cons_of_mem _ h)
  have hown : s.vm.findClass RL = some m.cls := findClass_of_methodNamed B9.named
  have hlocks := B9.notSynchronized
  have hl := lv_entry ([.ref h, .int z1, .ref o]) (n := 4) (Nat.le_of_ble_eq_true rfl)
  rw [lg_entry_eq]
  generalize (lg_sl ([.ref h, .int z1, .ref o]) ++ List.replicate (4 - (lg_sl ([.ref h, .int z1, .ref o])).length) Slot.unset).toArray = ls at hl ⊢
  have hl : lv_has ls 4 [(0, .ref h), (1, .int z1), (2, .ref o)] := hl
  have htab := tab_of B9 (hts _ List.mem_cons_self)
  have hS : va_S A s.heap s.heap [] := va_S.rf
  have hAx := hx_A hD
  have hPx := hx_P hP
  have hKx := hK.sub [0] (tys' := [(cA, .int)]) rfl
  have hDx := hx_Dx hD n nb u.1
  refine lv_aload_n hx hb dL_high_0 rfl (lv_at hl 2 rfl) ?_
  refine lv_iconst (v := nI 0) hx hb dL_high_1 (by decide) ?_
  refine lv_aload_n hx hb dL_high_2 rfl (lv_at hl 0 rfl) ?_
  refine lv_iload_n hx hb dL_high_3 rfl (lv_at hl 1 rfl) ?_
  refine tx_catch1 (name := "java/lang/IndexOutOfBoundsException") (C := RX) (As := [.int z1]) (rest := [.int (nI 0), .ref o]) ⟨hx, hb, hml, hown, hw⟩ (cX_high_n1 l D (xA h a1 a2 a3 a4) h a1 a2 a3 a4 cA n u.1.2.2.2 nb u.1.1 u.1.2.1 u.1.2.2.1 z1 hst hn hz9) (cwV 1 hw (gV w2_53 w2_54 w2_55 w1_1 w2_56) rfl rfl rfl ⟨rfl, by decide, by decide, by decide +kernel⟩ ⟨Nat.le_of_ble_eq_true rfl, Nat.le_of_ble_eq_true rfl⟩) ⟨gE_blind, va_recv (q0 := 0) (ci := 0) hKx hPx rfl rfl, gE_at hPx hKx hDx hE _⟩ rfl hl.1 rfl (Nat.le_of_ble_eq_true rfl) dL_high_4 ⟨Nat.le_refl _, Nat.le_refl _⟩ htab (by decide) (by decide) (hw _ w1_200) (cast_IOB hE.1) (fun q9 st9 t9 H locs h1 h2 h3 h4 h5 => ?_)
  have hS := tx_S hS hAx h1 h2 h4.1 h5
  have hk9 := tx_K h1 h2 h4.1
  obtain ⟨hPy, -, -⟩ := h4.2
  have hPy : va_P D vwCl (xW9 h a1 a2 a3 a4 cA n nb u.1) t9.heap := hPy
  rw [h2] at hPy
  have hP : va_P D vwCl (hW9 h a1 a2 a3 a4 o cA cL n nb (u.1, u.2)) H := hx_J hP hD hk9 hPy
  refine lv_astore_n hx hb dL_high_12 rfl hl (by decide) (lv' := [(3, .ref q9), (0, .ref h), (1, .int z1), (2, .ref o)]) rfl (fun ls hl => ?_)
  refine lv_iconst (v := nI 1) hx hb dL_high_13 (by decide) ?_
  refine W.widen (k := 1) (n := 6) (Nat.le_of_ble_eq_true rfl) (Nat.le_of_ble_eq_true rfl) ?_
  exact W.iret (v := nI 1) hx hb hr (fun t ht hW => ⟨⟨_, (u.1, u.2), rfl, ⟨rfl, trivial⟩, by rw [ht]; exact hP, va_K.moved hW.alike hK, hx_D hD _ _ _⟩, hS.F ht⟩) hS.2.2 dL_high_14

set_option maxHeartbeats 4000000 in
set_option maxRecDepth 100000 in
theorem hL_ends_y (l : Launch) (D : va_G) (A : Nat → Prop) (h a1 a2 a3 a4 o : Nat) (cA cL : ClassId) (n : Nat) (nb : Nat → Nat) (u : hU) (ed : Nat → Nat → Nat)  (hn : n ≤ 8) (hnb : ∀ v, v < n → nb v < 256)(hed : ∀ v j, v < n → j < v → ed v j = if (nb v).testBit j = true then 1 else 0)(x : List (Nat × Nat × Nat) × Nat) (hres : srN ed (meN (2 ^ n - 1) n 0) [] 0 = some x) : Met l yL_ends (Cond.codeWith yL_ends cL_ends 3 (some FieldType.int) [(0, 8, 11, 13)] :: bw) (rmT 20) (va_Pc [.ref h, .ref o] (gL D vwCl A (xA h a1 a2 a3 a4) (hW9 h a1 a2 a3 a4 o cA cL n nb u) [(cA, .int), (cL, .long)])) (va_Qi (fun r (w : hU) => r = nI 0 ∧ w.2 0 = (nI x.2 : Int32).toInt64) (fun w => gW D vwCl A (hW9 h a1 a2 a3 a4 o cA cL n nb w) [(cA, .int), (cL, .long)]) A) 1 6 A := by
  refine va_MetW (cc := cL_ends) (maxL := 3) (ret := (some FieldType.int)) (hh := [(0, 8, 11, 13)]) (by decide) rfl ?_
  intro p e s m args below meth c s₁ B9 hml hv9
  obtain ⟨rfl, ⟨hP, hK, hD⟩, hE, hN1, hN2⟩ := hv9
  have hx := B9.exec
  have hb := B9.bytes
  have hr := B9.returns
  have hts := atoms_spec (ws := (Cond.codeWith yL_ends cL_ends 3 (some FieldType.int) [(0, 8, 11, 13)] :: bw)) B9.pre
  have hw : ∀ w ∈ bw, w.before _ s = true := fun w h => hts w (List.mem_cons_of_mem _ h)
  have hown : s.vm.findClass RL = some m.cls := findClass_of_methodNamed B9.named
  have hlocks := B9.notSynchronized
  have hl := lv_entry ([.ref h, .ref o]) (n := 3) (Nat.le_of_ble_eq_true rfl)
  rw [lg_entry_eq]
  generalize (lg_sl ([.ref h, .ref o]) ++ List.replicate (3 - (lg_sl ([.ref h, .ref o])).length) Slot.unset).toArray = ls at hl ⊢
  have hl : lv_has ls 3 [(0, .ref h), (1, .ref o)] := hl
  have htab := tab_of B9 (hts _ List.mem_cons_self)
  have hS : va_S A s.heap s.heap [] := va_S.rf
  have hAx := hx_A hD
  have hPx := hx_P hP
  have hKx := hK.sub [0] (tys' := [(cA, .int)]) rfl
  have hDx := hx_Dx hD n nb u.1
  refine lv_aload_n hx hb dL_ends_0 rfl (lv_at hl 1 rfl) ?_
  refine lv_iconst (v := nI 0) hx hb dL_ends_1 (by decide) ?_
  refine lv_aload_n hx hb dL_ends_2 rfl (lv_at hl 0 rfl) ?_
  refine va_calli (va_runV (C := RX) (As := []) (rest := [.int (nI 0), .ref o]) ⟨hx, hb, hml, hown, hw⟩ (cX_ends_y l D (xA h a1 a2 a3 a4) h a1 a2 a3 a4 cA n u.1.2.2.2 nb u.1.1 u.1.2.1 u.1.2.2.1 ed hn hnb hed x hres) (cwV 0 hw (gV w2_34 w2_35 w2_36 w1_1 w2_37) rfl rfl rfl ⟨rfl, by decide, by decide, by decide +kernel⟩ ⟨Nat.le_of_ble_eq_true rfl, Nat.le_of_ble_eq_true rfl⟩) ⟨gW_blind, va_recv (q0 := 0) (ci := 0) hKx hPx rfl rfl, gW_at hPx hKx hDx _⟩ rfl rfl hl.1 rfl (lv_room (Nat.le_of_ble_eq_true rfl)) dL_ends_3 ⟨Nat.zero_le _, Nat.zero_le _⟩) hS (fun q _ h => hAx q h) (fun q h => hAx q h) (fun r9 u5 t9 H locs ht9 hvm9 hpost9 hB9 hz9 hk9 hS => ?_)
  obtain ⟨hPy, -, -⟩ := hB9
  have hPy : va_P D vwCl (xW9 h a1 a2 a3 a4 cA n nb u5) t9.heap := hPy
  rw [ht9] at hPy
  have hP : va_P D vwCl (hW9 h a1 a2 a3 a4 o cA cL n nb (u5, u.2)) H := hx_J hP hD hk9 hPy
  have hD := hx_D hD n nb (u5, u.2)
  obtain ⟨hr9, hus9, hnm9⟩ := hpost9
  subst hr9
  refine lv_i2l (v := (nI x.2 : Int32).toInt64) hx hb dL_ends_6 rfl ?_
  refine nv_last (f := u.2) (x := (nI x.2 : Int32).toInt64) hx hb hK hP hD hS 5 1 rfl rfl dL_ends_7 (fun H locs hP hD hS => ?_)
  have hP : va_P D vwCl (hW9 h a1 a2 a3 a4 o cA cL n nb (u5, vp_updL u.2 0 ((nI x.2 : Int32).toInt64))) H := hP
  have hD : va_D A (hW9 h a1 a2 a3 a4 o cA cL n nb (u5, vp_updL u.2 0 ((nI x.2 : Int32).toInt64))) := hD
  refine lv_goto (tgt := 14) hx hb dL_ends_8 rfl ?_
  refine lv_iconst (v := nI 0) hx hb dL_ends_14 (by decide) ?_
  refine W.widen (k := 1) (n := 6) (Nat.le_of_ble_eq_true rfl) (Nat.le_of_ble_eq_true rfl) ?_
  exact W.iret (v := nI 0) hx hb hr (fun t ht hW => ⟨⟨_, (u5, vp_updL u.2 0 ((nI x.2 : Int32).toInt64)), rfl, ⟨rfl, updL_0 (f := u.2) (x := (nI x.2 : Int32).toInt64)⟩, by rw [ht]; exact hP, va_K.moved hW.alike hK, hD⟩, hS.F ht⟩) hS.2.2 dL_ends_15

set_option maxHeartbeats 4000000 in
set_option maxRecDepth 100000 in
theorem hL_low_y (l : Launch) (D : va_G) (A : Nat → Prop) (h a1 a2 a3 a4 o : Nat) (cA cL : ClassId) (n : Nat) (nb : Nat → Nat) (u : hU) (v : Nat) (ed : Nat → Nat → Nat)  (hn : n ≤ 8) (hnb : ∀ v, v < n → nb v < 256)(hed : ∀ v j, v < n → j < v → ed v j = if (nb v).testBit j = true then 1 else 0)(x : List (Nat × Nat × Nat) × Nat) (hres : srN ed (meN (2 ^ n - 1) n 0) [] 0 = some x)(hv : v < n) : Met l yL_low (Cond.codeWith yL_low cL_low 4 (some FieldType.int) [(0, 9, 12, 22), (0, 9, 15, 13)] :: bw) (rmT 20) (va_Pc [.ref h, .int (nI v), .ref o] (gL D vwCl A (xA h a1 a2 a3 a4) (hW9 h a1 a2 a3 a4 o cA cL n nb u) [(cA, .int), (cL, .long)])) (va_Qi (fun r (w : hU) => r = nI 0 ∧ w.2 0 = (nI (w.1.1 v) : Int32).toInt64 ∧ NM x.1 w.1.1 w.1.2.1) (fun w => gW D vwCl A (hW9 h a1 a2 a3 a4 o cA cL n nb w) [(cA, .int), (cL, .long)]) A) 1 6 A := by
  refine va_MetW (cc := cL_low) (maxL := 4) (ret := (some FieldType.int)) (hh := [(0, 9, 12, 22), (0, 9, 15, 13)]) (by decide) rfl ?_
  intro p e s m args below meth c s₁ B9 hml hv9
  obtain ⟨rfl, ⟨hP, hK, hD⟩, hE, hN1, hN2⟩ := hv9
  have hx := B9.exec
  have hb := B9.bytes
  have hr := B9.returns
  have hts := atoms_spec (ws := (Cond.codeWith yL_low cL_low 4 (some FieldType.int) [(0, 9, 12, 22), (0, 9, 15, 13)] :: bw)) B9.pre
  have hw : ∀ w ∈ bw, w.before _ s = true := fun w h => hts w (List.mem_cons_of_mem _ h)
  have hown : s.vm.findClass RL = some m.cls := findClass_of_methodNamed B9.named
  have hlocks := B9.notSynchronized
  have hl := lv_entry ([.ref h, .int (nI v), .ref o]) (n := 4) (Nat.le_of_ble_eq_true rfl)
  rw [lg_entry_eq]
  generalize (lg_sl ([.ref h, .int (nI v), .ref o]) ++ List.replicate (4 - (lg_sl ([.ref h, .int (nI v), .ref o])).length) Slot.unset).toArray = ls at hl ⊢
  have hl : lv_has ls 4 [(0, .ref h), (1, .int (nI v)), (2, .ref o)] := hl
  have htab := tab_of B9 (hts _ List.mem_cons_self)
  have hS : va_S A s.heap s.heap [] := va_S.rf
  have hAx := hx_A hD
  have hPx := hx_P hP
  have hKx := hK.sub [0] (tys' := [(cA, .int)]) rfl
  have hDx := hx_Dx hD n nb u.1
  refine lv_aload_n hx hb dL_low_0 rfl (lv_at hl 2 rfl) ?_
  refine lv_iconst (v := nI 0) hx hb dL_low_1 (by decide) ?_
  refine lv_aload_n hx hb dL_low_2 rfl (lv_at hl 0 rfl) ?_
  refine lv_iload_n hx hb dL_low_3 rfl (lv_at hl 1 rfl) ?_
  refine va_calli (va_runV (C := RX) (As := [.int (nI v)]) (rest := [.int (nI 0), .ref o]) ⟨hx, hb, hml, hown, hw⟩ (cX_low_y l D (xA h a1 a2 a3 a4) h a1 a2 a3 a4 cA n u.1.2.2.2 nb u.1.1 u.1.2.1 u.1.2.2.1 v ed hn hnb hed x hres hv) (cwV 1 hw (gV w2_46 w2_47 w2_48 w1_1 w2_49) rfl rfl rfl ⟨rfl, by decide, by decide, by decide +kernel⟩ ⟨Nat.le_of_ble_eq_true rfl, Nat.le_of_ble_eq_true rfl⟩) ⟨gW_blind, va_recv (q0 := 0) (ci := 0) hKx hPx rfl rfl, gW_at hPx hKx hDx _⟩ rfl rfl hl.1 rfl (lv_room (Nat.le_of_ble_eq_true rfl)) dL_low_4 ⟨Nat.zero_le _, Nat.zero_le _⟩) hS (fun q _ h => hAx q h) (fun q h => hAx q h) (fun r9 u5 t9 H locs ht9 hvm9 hpost9 hB9 hz9 hk9 hS => ?_)
  obtain ⟨hPy, -, -⟩ := hB9
  have hPy : va_P D vwCl (xW9 h a1 a2 a3 a4 cA n nb u5) t9.heap := hPy
  rw [ht9] at hPy
  have hP : va_P D vwCl (hW9 h a1 a2 a3 a4 o cA cL n nb (u5, u.2)) H := hx_J hP hD hk9 hPy
  have hD := hx_D hD n nb (u5, u.2)
  obtain ⟨hr9, hus9, hnm9⟩ := hpost9
  subst hr9
  refine lv_i2l (v := (nI (u5.1 v) : Int32).toInt64) hx hb dL_low_7 rfl ?_
  refine nv_last (f := u.2) (x := (nI (u5.1 v) : Int32).toInt64) hx hb hK hP hD hS 5 1 rfl rfl dL_low_8 (fun H locs hP hD hS => ?_)
  have hP : va_P D vwCl (hW9 h a1 a2 a3 a4 o cA cL n nb (u5, vp_updL u.2 0 ((nI (u5.1 v) : Int32).toInt64))) H := hP
  have hD : va_D A (hW9 h a1 a2 a3 a4 o cA cL n nb (u5, vp_updL u.2 0 ((nI (u5.1 v) : Int32).toInt64))) := hD
  refine lv_goto (tgt := 18) hx hb dL_low_9 rfl ?_
  refine lv_iconst (v := nI 0) hx hb dL_low_18 (by decide) ?_
  refine W.widen (k := 1) (n := 6) (Nat.le_of_ble_eq_true rfl) (Nat.le_of_ble_eq_true rfl) ?_
  exact W.iret (v := nI 0) hx hb hr (fun t ht hW => ⟨⟨_, (u5, vp_updL u.2 0 ((nI (u5.1 v) : Int32).toInt64)), rfl, ⟨rfl, ⟨updL_0 (f := u.2) (x := (nI (u5.1 v) : Int32).toInt64), hnm9⟩⟩, by rw [ht]; exact hP, va_K.moved hW.alike hK, hD⟩, hS.F ht⟩) hS.2.2 dL_low_19

set_option maxHeartbeats 4000000 in
set_option maxRecDepth 100000 in
theorem hL_low_n2 (l : Launch) (D : va_G) (A : Nat → Prop) (h a1 a2 a3 a4 o : Nat) (cA cL : ClassId) (n : Nat) (nb : Nat → Nat) (u : hU) (v : Nat) (ed : Nat → Nat → Nat) (hst : l.stackTraces = false) (hn : n ≤ 8) (hnb : ∀ v, v < n → nb v < 256)(hed : ∀ v j, v < n → j < v → ed v j = if (nb v).testBit j = true then 1 else 0)(hres : srN ed (meN (2 ^ n - 1) n 0) [] 0 = none)(hv : v < n) : Met l yL_low (Cond.codeWith yL_low cL_low 4 (some FieldType.int) [(0, 9, 12, 22), (0, 9, 15, 13)] :: bw) (rmT 20) (va_Pc [.ref h, .int (nI v), .ref o] (gL D vwCl A (xA h a1 a2 a3 a4) (hW9 h a1 a2 a3 a4 o cA cL n nb u) [(cA, .int), (cL, .long)])) (va_Qi (fun r (w : hU) => r = nI 2 ∧ True) (fun w => gW D vwCl A (hW9 h a1 a2 a3 a4 o cA cL n nb w) [(cA, .int), (cL, .long)]) A) 1 6 A := by
  refine va_MetW (cc := cL_low) (maxL := 4) (ret := (some FieldType.int)) (hh := [(0, 9, 12, 22), (0, 9, 15, 13)]) (by decide) rfl ?_
  intro p e s m args below meth c s₁ B9 hml hv9
  obtain ⟨rfl, ⟨hP, hK, hD⟩, hE, hN1, hN2⟩ := hv9
  have hx := B9.exec
  have hb := B9.bytes
  have hr := B9.returns
  have hts := atoms_spec (ws := (Cond.codeWith yL_low cL_low 4 (some FieldType.int) [(0, 9, 12, 22), (0, 9, 15, 13)] :: bw)) B9.pre
  have hw : ∀ w ∈ bw, w.before _ s = true := fun w h => hts w (List.mem_cons_of_mem _ h)
  have hown : s.vm.findClass RL = some m.cls := findClass_of_methodNamed B9.named
  have hlocks := B9.notSynchronized
  have hl := lv_entry ([.ref h, .int (nI v), .ref o]) (n := 4) (Nat.le_of_ble_eq_true rfl)
  rw [lg_entry_eq]
  generalize (lg_sl ([.ref h, .int (nI v), .ref o]) ++ List.replicate (4 - (lg_sl ([.ref h, .int (nI v), .ref o])).length) Slot.unset).toArray = ls at hl ⊢
  have hl : lv_has ls 4 [(0, .ref h), (1, .int (nI v)), (2, .ref o)] := hl
  have htab := tab_of B9 (hts _ List.mem_cons_self)
  have hS : va_S A s.heap s.heap [] := va_S.rf
  have hAx := hx_A hD
  have hPx := hx_P hP
  have hKx := hK.sub [0] (tys' := [(cA, .int)]) rfl
  have hDx := hx_Dx hD n nb u.1
  refine lv_aload_n hx hb dL_low_0 rfl (lv_at hl 2 rfl) ?_
  refine lv_iconst (v := nI 0) hx hb dL_low_1 (by decide) ?_
  refine lv_aload_n hx hb dL_low_2 rfl (lv_at hl 0 rfl) ?_
  refine lv_iload_n hx hb dL_low_3 rfl (lv_at hl 1 rfl) ?_
  refine tx_catch2 (nam1 := "java/lang/IndexOutOfBoundsException") (name := "java/lang/IllegalStateException") (C := RX) (As := [.int (nI v)]) (rest := [.int (nI 0), .ref o]) ⟨hx, hb, hml, hown, hw⟩ (cX_low_n2 l D (xA h a1 a2 a3 a4) h a1 a2 a3 a4 cA n u.1.2.2.2 nb u.1.1 u.1.2.1 u.1.2.2.1 v ed hst hn hnb hed hres hv) (cwV 1 hw (gV w2_46 w2_47 w2_48 w1_1 w2_49) rfl rfl rfl ⟨rfl, by decide, by decide, by decide +kernel⟩ ⟨Nat.le_of_ble_eq_true rfl, Nat.le_of_ble_eq_true rfl⟩) ⟨gE_blind, va_recv (q0 := 0) (ci := 0) hKx hPx rfl rfl, gE_at hPx hKx hDx hE _⟩ rfl hl.1 rfl (Nat.le_of_ble_eq_true rfl) dL_low_4 ⟨Nat.le_refl _, Nat.le_refl _⟩ htab (by decide) (by decide) (hw _ w1_200) hN2 (by decide) (by decide) (hw _ w1_116) (cast_ISE hE.1) (fun q9 st9 t9 H locs h1 h2 h3 h4 h5 => ?_)
  have hS := tx_S hS hAx h1 h2 h4.1 h5
  have hk9 := tx_K h1 h2 h4.1
  obtain ⟨u5, hPy, -, -⟩ := h4.2
  rw [h2] at hPy
  have hP : va_P D vwCl (hW9 h a1 a2 a3 a4 o cA cL n nb (u5, u.2)) H := hx_J hP hD hk9 hPy
  refine lv_astore_n hx hb dL_low_15 rfl hl (by decide) (lv' := [(3, .ref q9), (0, .ref h), (1, .int (nI v)), (2, .ref o)]) rfl (fun ls hl => ?_)
  refine lv_iconst (v := nI 2) hx hb dL_low_16 (by decide) ?_
  refine W.widen (k := 1) (n := 6) (Nat.le_of_ble_eq_true rfl) (Nat.le_of_ble_eq_true rfl) ?_
  exact W.iret (v := nI 2) hx hb hr (fun t ht hW => ⟨⟨_, (u5, u.2), rfl, ⟨rfl, trivial⟩, by rw [ht]; exact hP, va_K.moved hW.alike hK, hx_D hD _ _ _⟩, hS.F ht⟩) hS.2.2 dL_low_17

set_option maxHeartbeats 4000000 in
set_option maxRecDepth 100000 in
theorem hL_high_y (l : Launch) (D : va_G) (A : Nat → Prop) (h a1 a2 a3 a4 o : Nat) (cA cL : ClassId) (n : Nat) (nb : Nat → Nat) (u : hU) (v : Nat) (ed : Nat → Nat → Nat)  (hn : n ≤ 8) (hnb : ∀ v, v < n → nb v < 256)(hed : ∀ v j, v < n → j < v → ed v j = if (nb v).testBit j = true then 1 else 0)(x : List (Nat × Nat × Nat) × Nat) (hres : srN ed (meN (2 ^ n - 1) n 0) [] 0 = some x)(hv : v < n) : Met l yL_high (Cond.codeWith yL_high cL_high 4 (some FieldType.int) [(0, 9, 12, 22), (0, 9, 15, 13)] :: bw) (rmT 20) (va_Pc [.ref h, .int (nI v), .ref o] (gL D vwCl A (xA h a1 a2 a3 a4) (hW9 h a1 a2 a3 a4 o cA cL n nb u) [(cA, .int), (cL, .long)])) (va_Qi (fun r (w : hU) => r = nI 0 ∧ w.2 0 = (nI (w.1.2.1 v) : Int32).toInt64 ∧ NM x.1 w.1.1 w.1.2.1) (fun w => gW D vwCl A (hW9 h a1 a2 a3 a4 o cA cL n nb w) [(cA, .int), (cL, .long)]) A) 1 6 A := by
  refine va_MetW (cc := cL_high) (maxL := 4) (ret := (some FieldType.int)) (hh := [(0, 9, 12, 22), (0, 9, 15, 13)]) (by decide) rfl ?_
  intro p e s m args below meth c s₁ B9 hml hv9
  obtain ⟨rfl, ⟨hP, hK, hD⟩, hE, hN1, hN2⟩ := hv9
  have hx := B9.exec
  have hb := B9.bytes
  have hr := B9.returns
  have hts := atoms_spec (ws := (Cond.codeWith yL_high cL_high 4 (some FieldType.int) [(0, 9, 12, 22), (0, 9, 15, 13)] :: bw)) B9.pre
  have hw : ∀ w ∈ bw, w.before _ s = true := fun w h => hts w (List.mem_cons_of_mem _ h)
  have hown : s.vm.findClass RL = some m.cls := findClass_of_methodNamed B9.named
  have hlocks := B9.notSynchronized
  have hl := lv_entry ([.ref h, .int (nI v), .ref o]) (n := 4) (Nat.le_of_ble_eq_true rfl)
  rw [lg_entry_eq]
  generalize (lg_sl ([.ref h, .int (nI v), .ref o]) ++ List.replicate (4 - (lg_sl ([.ref h, .int (nI v), .ref o])).length) Slot.unset).toArray = ls at hl ⊢
  have hl : lv_has ls 4 [(0, .ref h), (1, .int (nI v)), (2, .ref o)] := hl
  have htab := tab_of B9 (hts _ List.mem_cons_self)
  have hS : va_S A s.heap s.heap [] := va_S.rf
  have hAx := hx_A hD
  have hPx := hx_P hP
  have hKx := hK.sub [0] (tys' := [(cA, .int)]) rfl
  have hDx := hx_Dx hD n nb u.1
  refine lv_aload_n hx hb dL_high_0 rfl (lv_at hl 2 rfl) ?_
  refine lv_iconst (v := nI 0) hx hb dL_high_1 (by decide) ?_
  refine lv_aload_n hx hb dL_high_2 rfl (lv_at hl 0 rfl) ?_
  refine lv_iload_n hx hb dL_high_3 rfl (lv_at hl 1 rfl) ?_
  refine va_calli (va_runV (C := RX) (As := [.int (nI v)]) (rest := [.int (nI 0), .ref o]) ⟨hx, hb, hml, hown, hw⟩ (cX_high_y l D (xA h a1 a2 a3 a4) h a1 a2 a3 a4 cA n u.1.2.2.2 nb u.1.1 u.1.2.1 u.1.2.2.1 v ed hn hnb hed x hres hv) (cwV 1 hw (gV w2_53 w2_54 w2_55 w1_1 w2_56) rfl rfl rfl ⟨rfl, by decide, by decide, by decide +kernel⟩ ⟨Nat.le_of_ble_eq_true rfl, Nat.le_of_ble_eq_true rfl⟩) ⟨gW_blind, va_recv (q0 := 0) (ci := 0) hKx hPx rfl rfl, gW_at hPx hKx hDx _⟩ rfl rfl hl.1 rfl (lv_room (Nat.le_of_ble_eq_true rfl)) dL_high_4 ⟨Nat.zero_le _, Nat.zero_le _⟩) hS (fun q _ h => hAx q h) (fun q h => hAx q h) (fun r9 u5 t9 H locs ht9 hvm9 hpost9 hB9 hz9 hk9 hS => ?_)
  obtain ⟨hPy, -, -⟩ := hB9
  have hPy : va_P D vwCl (xW9 h a1 a2 a3 a4 cA n nb u5) t9.heap := hPy
  rw [ht9] at hPy
  have hP : va_P D vwCl (hW9 h a1 a2 a3 a4 o cA cL n nb (u5, u.2)) H := hx_J hP hD hk9 hPy
  have hD := hx_D hD n nb (u5, u.2)
  obtain ⟨hr9, hus9, hnm9⟩ := hpost9
  subst hr9
  refine lv_i2l (v := (nI (u5.2.1 v) : Int32).toInt64) hx hb dL_high_7 rfl ?_
  refine nv_last (f := u.2) (x := (nI (u5.2.1 v) : Int32).toInt64) hx hb hK hP hD hS 5 1 rfl rfl dL_high_8 (fun H locs hP hD hS => ?_)
  have hP : va_P D vwCl (hW9 h a1 a2 a3 a4 o cA cL n nb (u5, vp_updL u.2 0 ((nI (u5.2.1 v) : Int32).toInt64))) H := hP
  have hD : va_D A (hW9 h a1 a2 a3 a4 o cA cL n nb (u5, vp_updL u.2 0 ((nI (u5.2.1 v) : Int32).toInt64))) := hD
  refine lv_goto (tgt := 18) hx hb dL_high_9 rfl ?_
  refine lv_iconst (v := nI 0) hx hb dL_high_18 (by decide) ?_
  refine W.widen (k := 1) (n := 6) (Nat.le_of_ble_eq_true rfl) (Nat.le_of_ble_eq_true rfl) ?_
  exact W.iret (v := nI 0) hx hb hr (fun t ht hW => ⟨⟨_, (u5, vp_updL u.2 0 ((nI (u5.2.1 v) : Int32).toInt64)), rfl, ⟨rfl, ⟨updL_0 (f := u.2) (x := (nI (u5.2.1 v) : Int32).toInt64), hnm9⟩⟩, by rw [ht]; exact hP, va_K.moved hW.alike hK, hD⟩, hS.F ht⟩) hS.2.2 dL_high_19

set_option maxHeartbeats 4000000 in
set_option maxRecDepth 100000 in
theorem hL_high_n2 (l : Launch) (D : va_G) (A : Nat → Prop) (h a1 a2 a3 a4 o : Nat) (cA cL : ClassId) (n : Nat) (nb : Nat → Nat) (u : hU) (v : Nat) (ed : Nat → Nat → Nat) (hst : l.stackTraces = false) (hn : n ≤ 8) (hnb : ∀ v, v < n → nb v < 256)(hed : ∀ v j, v < n → j < v → ed v j = if (nb v).testBit j = true then 1 else 0)(hres : srN ed (meN (2 ^ n - 1) n 0) [] 0 = none)(hv : v < n) : Met l yL_high (Cond.codeWith yL_high cL_high 4 (some FieldType.int) [(0, 9, 12, 22), (0, 9, 15, 13)] :: bw) (rmT 20) (va_Pc [.ref h, .int (nI v), .ref o] (gL D vwCl A (xA h a1 a2 a3 a4) (hW9 h a1 a2 a3 a4 o cA cL n nb u) [(cA, .int), (cL, .long)])) (va_Qi (fun r (w : hU) => r = nI 2 ∧ True) (fun w => gW D vwCl A (hW9 h a1 a2 a3 a4 o cA cL n nb w) [(cA, .int), (cL, .long)]) A) 1 6 A := by
  refine va_MetW (cc := cL_high) (maxL := 4) (ret := (some FieldType.int)) (hh := [(0, 9, 12, 22), (0, 9, 15, 13)]) (by decide) rfl ?_
  intro p e s m args below meth c s₁ B9 hml hv9
  obtain ⟨rfl, ⟨hP, hK, hD⟩, hE, hN1, hN2⟩ := hv9
  have hx := B9.exec
  have hb := B9.bytes
  have hr := B9.returns
  have hts := atoms_spec (ws := (Cond.codeWith yL_high cL_high 4 (some FieldType.int) [(0, 9, 12, 22), (0, 9, 15, 13)] :: bw)) B9.pre
  have hw : ∀ w ∈ bw, w.before _ s = true := fun w h => hts w (List.mem_cons_of_mem _ h)
  have hown : s.vm.findClass RL = some m.cls := findClass_of_methodNamed B9.named
  have hlocks := B9.notSynchronized
  have hl := lv_entry ([.ref h, .int (nI v), .ref o]) (n := 4) (Nat.le_of_ble_eq_true rfl)
  rw [lg_entry_eq]
  generalize (lg_sl ([.ref h, .int (nI v), .ref o]) ++ List.replicate (4 - (lg_sl ([.ref h, .int (nI v), .ref o])).length) Slot.unset).toArray = ls at hl ⊢
  have hl : lv_has ls 4 [(0, .ref h), (1, .int (nI v)), (2, .ref o)] := hl
  have htab := tab_of B9 (hts _ List.mem_cons_self)
  have hS : va_S A s.heap s.heap [] := va_S.rf
  have hAx := hx_A hD
  have hPx := hx_P hP
  have hKx := hK.sub [0] (tys' := [(cA, .int)]) rfl
  have hDx := hx_Dx hD n nb u.1
  refine lv_aload_n hx hb dL_high_0 rfl (lv_at hl 2 rfl) ?_
  refine lv_iconst (v := nI 0) hx hb dL_high_1 (by decide) ?_
  refine lv_aload_n hx hb dL_high_2 rfl (lv_at hl 0 rfl) ?_
  refine lv_iload_n hx hb dL_high_3 rfl (lv_at hl 1 rfl) ?_
  refine tx_catch2 (nam1 := "java/lang/IndexOutOfBoundsException") (name := "java/lang/IllegalStateException") (C := RX) (As := [.int (nI v)]) (rest := [.int (nI 0), .ref o]) ⟨hx, hb, hml, hown, hw⟩ (cX_high_n2 l D (xA h a1 a2 a3 a4) h a1 a2 a3 a4 cA n u.1.2.2.2 nb u.1.1 u.1.2.1 u.1.2.2.1 v ed hst hn hnb hed hres hv) (cwV 1 hw (gV w2_53 w2_54 w2_55 w1_1 w2_56) rfl rfl rfl ⟨rfl, by decide, by decide, by decide +kernel⟩ ⟨Nat.le_of_ble_eq_true rfl, Nat.le_of_ble_eq_true rfl⟩) ⟨gE_blind, va_recv (q0 := 0) (ci := 0) hKx hPx rfl rfl, gE_at hPx hKx hDx hE _⟩ rfl hl.1 rfl (Nat.le_of_ble_eq_true rfl) dL_high_4 ⟨Nat.le_refl _, Nat.le_refl _⟩ htab (by decide) (by decide) (hw _ w1_200) hN2 (by decide) (by decide) (hw _ w1_116) (cast_ISE hE.1) (fun q9 st9 t9 H locs h1 h2 h3 h4 h5 => ?_)
  have hS := tx_S hS hAx h1 h2 h4.1 h5
  have hk9 := tx_K h1 h2 h4.1
  obtain ⟨u5, hPy, -, -⟩ := h4.2
  rw [h2] at hPy
  have hP : va_P D vwCl (hW9 h a1 a2 a3 a4 o cA cL n nb (u5, u.2)) H := hx_J hP hD hk9 hPy
  refine lv_astore_n hx hb dL_high_15 rfl hl (by decide) (lv' := [(3, .ref q9), (0, .ref h), (1, .int (nI v)), (2, .ref o)]) rfl (fun ls hl => ?_)
  refine lv_iconst (v := nI 2) hx hb dL_high_16 (by decide) ?_
  refine W.widen (k := 1) (n := 6) (Nat.le_of_ble_eq_true rfl) (Nat.le_of_ble_eq_true rfl) ?_
  exact W.iret (v := nI 2) hx hb hr (fun t ht hW => ⟨⟨_, (u5, u.2), rfl, ⟨rfl, trivial⟩, by rw [ht]; exact hP, va_K.moved hW.alike hK, hx_D hD _ _ _⟩, hS.F ht⟩) hS.2.2 dL_high_17

set_option maxHeartbeats 4000000 in
set_option maxRecDepth 100000 in
theorem hL_loose_y (l : Launch) (D : va_G) (A : Nat → Prop) (h a1 a2 a3 a4 o : Nat) (cA cL : ClassId) (n : Nat) (nb : Nat → Nat) (u : hU) (ed : Nat → Nat → Nat)  (hn : n ≤ 8) (hnb : ∀ v, v < n → nb v < 256)(hed : ∀ v j, v < n → j < v → ed v j = if (nb v).testBit j = true then 1 else 0)(x : List (Nat × Nat × Nat) × Nat) (hres : srN ed (meN (2 ^ n - 1) n 0) [] 0 = some x) : Met l yL_loose (Cond.codeWith yL_loose cL_loose 3 (some FieldType.int) [(0, 8, 11, 13)] :: bw) (rmT 20) (va_Pc [.ref h, .ref o] (gL D vwCl A (xA h a1 a2 a3 a4) (hW9 h a1 a2 a3 a4 o cA cL n nb u) [(cA, .int), (cL, .long)])) (va_Qi (fun r (w : hU) => r = nI 0 ∧ w.2 0 = (nI (jLo nb w.1.1 w.1.2.1 n x.2 (pcN (jBest (jAp nb n) (2 ^ n))) (2 ^ n)) : Int32).toInt64 ∧ NM x.1 w.1.1 w.1.2.1) (fun w => gW D vwCl A (hW9 h a1 a2 a3 a4 o cA cL n nb w) [(cA, .int), (cL, .long)]) A) 1 6 A := by
  refine va_MetW (cc := cL_loose) (maxL := 3) (ret := (some FieldType.int)) (hh := [(0, 8, 11, 13)]) (by decide) rfl ?_
  intro p e s m args below meth c s₁ B9 hml hv9
  obtain ⟨rfl, ⟨hP, hK, hD⟩, hE, hN1, hN2⟩ := hv9
  have hx := B9.exec
  have hb := B9.bytes
  have hr := B9.returns
  have hts := atoms_spec (ws := (Cond.codeWith yL_loose cL_loose 3 (some FieldType.int) [(0, 8, 11, 13)] :: bw)) B9.pre
  have hw : ∀ w ∈ bw, w.before _ s = true := fun w h => hts w (List.mem_cons_of_mem _ h)
  have hown : s.vm.findClass RL = some m.cls := findClass_of_methodNamed B9.named
  have hlocks := B9.notSynchronized
  have hl := lv_entry ([.ref h, .ref o]) (n := 3) (Nat.le_of_ble_eq_true rfl)
  rw [lg_entry_eq]
  generalize (lg_sl ([.ref h, .ref o]) ++ List.replicate (3 - (lg_sl ([.ref h, .ref o])).length) Slot.unset).toArray = ls at hl ⊢
  have hl : lv_has ls 3 [(0, .ref h), (1, .ref o)] := hl
  have htab := tab_of B9 (hts _ List.mem_cons_self)
  have hS : va_S A s.heap s.heap [] := va_S.rf
  have hAx := hx_A hD
  have hPx := hx_P hP
  have hKx := hK.sub [0] (tys' := [(cA, .int)]) rfl
  have hDx := hx_Dx hD n nb u.1
  refine lv_aload_n hx hb dL_loose_0 rfl (lv_at hl 1 rfl) ?_
  refine lv_iconst (v := nI 0) hx hb dL_loose_1 (by decide) ?_
  refine lv_aload_n hx hb dL_loose_2 rfl (lv_at hl 0 rfl) ?_
  refine va_calli (va_runV (C := RX) (As := []) (rest := [.int (nI 0), .ref o]) ⟨hx, hb, hml, hown, hw⟩ (cX_loose_y l D (xA h a1 a2 a3 a4) h a1 a2 a3 a4 cA n u.1.2.2.2 nb u.1.1 u.1.2.1 u.1.2.2.1 ed hn hnb hed x hres) (cwV 0 hw (gV w2_68 w2_69 w2_70 w1_1 w2_71) rfl rfl rfl ⟨rfl, by decide, by decide, by decide +kernel⟩ ⟨Nat.le_of_ble_eq_true rfl, Nat.le_of_ble_eq_true rfl⟩) ⟨gW_blind, va_recv (q0 := 0) (ci := 0) hKx hPx rfl rfl, gW_at hPx hKx hDx _⟩ rfl rfl hl.1 rfl (lv_room (Nat.le_of_ble_eq_true rfl)) dL_loose_3 ⟨Nat.zero_le _, Nat.zero_le _⟩) hS (fun q _ h => hAx q h) (fun q h => hAx q h) (fun r9 u5 t9 H locs ht9 hvm9 hpost9 hB9 hz9 hk9 hS => ?_)
  obtain ⟨hPy, -, -⟩ := hB9
  have hPy : va_P D vwCl (xW9 h a1 a2 a3 a4 cA n nb u5) t9.heap := hPy
  rw [ht9] at hPy
  have hP : va_P D vwCl (hW9 h a1 a2 a3 a4 o cA cL n nb (u5, u.2)) H := hx_J hP hD hk9 hPy
  have hD := hx_D hD n nb (u5, u.2)
  obtain ⟨hr9, hus9, hnm9⟩ := hpost9
  subst hr9
  refine lv_i2l (v := (nI (jLo nb u5.1 u5.2.1 n x.2 (pcN (jBest (jAp nb n) (2 ^ n))) (2 ^ n)) : Int32).toInt64) hx hb dL_loose_6 rfl ?_
  refine nv_last (f := u.2) (x := (nI (jLo nb u5.1 u5.2.1 n x.2 (pcN (jBest (jAp nb n) (2 ^ n))) (2 ^ n)) : Int32).toInt64) hx hb hK hP hD hS 5 1 rfl rfl dL_loose_7 (fun H locs hP hD hS => ?_)
  have hP : va_P D vwCl (hW9 h a1 a2 a3 a4 o cA cL n nb (u5, vp_updL u.2 0 ((nI (jLo nb u5.1 u5.2.1 n x.2 (pcN (jBest (jAp nb n) (2 ^ n))) (2 ^ n)) : Int32).toInt64))) H := hP
  have hD : va_D A (hW9 h a1 a2 a3 a4 o cA cL n nb (u5, vp_updL u.2 0 ((nI (jLo nb u5.1 u5.2.1 n x.2 (pcN (jBest (jAp nb n) (2 ^ n))) (2 ^ n)) : Int32).toInt64))) := hD
  refine lv_goto (tgt := 14) hx hb dL_loose_8 rfl ?_
  refine lv_iconst (v := nI 0) hx hb dL_loose_14 (by decide) ?_
  refine W.widen (k := 1) (n := 6) (Nat.le_of_ble_eq_true rfl) (Nat.le_of_ble_eq_true rfl) ?_
  exact W.iret (v := nI 0) hx hb hr (fun t ht hW => ⟨⟨_, (u5, vp_updL u.2 0 ((nI (jLo nb u5.1 u5.2.1 n x.2 (pcN (jBest (jAp nb n) (2 ^ n))) (2 ^ n)) : Int32).toInt64)), rfl, ⟨rfl, ⟨updL_0 (f := u.2) (x := (nI (jLo nb u5.1 u5.2.1 n x.2 (pcN (jBest (jAp nb n) (2 ^ n))) (2 ^ n)) : Int32).toInt64), hnm9⟩⟩, by rw [ht]; exact hP, va_K.moved hW.alike hK, hD⟩, hS.F ht⟩) hS.2.2 dL_loose_15

set_option maxHeartbeats 4000000 in
set_option maxRecDepth 100000 in
theorem hL_barrier_y (l : Launch) (D : va_G) (A : Nat → Prop) (h a1 a2 a3 a4 o : Nat) (cA cL : ClassId) (n : Nat) (nb : Nat → Nat) (u : hU) (ed : Nat → Nat → Nat)  (hn : n ≤ 8) (hnb : ∀ v, v < n → nb v < 256)(hed : ∀ v j, v < n → j < v → ed v j = if (nb v).testBit j = true then 1 else 0)(x : List (Nat × Nat × Nat) × Nat) (hres : srN ed (meN (2 ^ n - 1) n 0) [] 0 = some x) : Met l yL_barrier (Cond.codeWith yL_barrier cL_barrier 3 (some FieldType.int) [(0, 8, 11, 13)] :: bw) (rmT 20) (va_Pc [.ref h, .ref o] (gL D vwCl A (xA h a1 a2 a3 a4) (hW9 h a1 a2 a3 a4 o cA cL n nb u) [(cA, .int), (cL, .long)])) (va_Qi (fun r (w : hU) => r = nI 0 ∧ w.2 0 = (nI (jBa w.1.1 w.1.2.1 (jLo nb w.1.1 w.1.2.1 n x.2 (pcN (jBest (jAp nb n) (2 ^ n))) (2 ^ n)) n &&& ntN (jLo nb w.1.1 w.1.2.1 n x.2 (pcN (jBest (jAp nb n) (2 ^ n))) (2 ^ n))) : Int32).toInt64 ∧ NM x.1 w.1.1 w.1.2.1) (fun w => gW D vwCl A (hW9 h a1 a2 a3 a4 o cA cL n nb w) [(cA, .int), (cL, .long)]) A) 1 6 A := by
  refine va_MetW (cc := cL_barrier) (maxL := 3) (ret := (some FieldType.int)) (hh := [(0, 8, 11, 13)]) (by decide) rfl ?_
  intro p e s m args below meth c s₁ B9 hml hv9
  obtain ⟨rfl, ⟨hP, hK, hD⟩, hE, hN1, hN2⟩ := hv9
  have hx := B9.exec
  have hb := B9.bytes
  have hr := B9.returns
  have hts := atoms_spec (ws := (Cond.codeWith yL_barrier cL_barrier 3 (some FieldType.int) [(0, 8, 11, 13)] :: bw)) B9.pre
  have hw : ∀ w ∈ bw, w.before _ s = true := fun w h => hts w (List.mem_cons_of_mem _ h)
  have hown : s.vm.findClass RL = some m.cls := findClass_of_methodNamed B9.named
  have hlocks := B9.notSynchronized
  have hl := lv_entry ([.ref h, .ref o]) (n := 3) (Nat.le_of_ble_eq_true rfl)
  rw [lg_entry_eq]
  generalize (lg_sl ([.ref h, .ref o]) ++ List.replicate (3 - (lg_sl ([.ref h, .ref o])).length) Slot.unset).toArray = ls at hl ⊢
  have hl : lv_has ls 3 [(0, .ref h), (1, .ref o)] := hl
  have htab := tab_of B9 (hts _ List.mem_cons_self)
  have hS : va_S A s.heap s.heap [] := va_S.rf
  have hAx := hx_A hD
  have hPx := hx_P hP
  have hKx := hK.sub [0] (tys' := [(cA, .int)]) rfl
  have hDx := hx_Dx hD n nb u.1
  refine lv_aload_n hx hb dL_barrier_0 rfl (lv_at hl 1 rfl) ?_
  refine lv_iconst (v := nI 0) hx hb dL_barrier_1 (by decide) ?_
  refine lv_aload_n hx hb dL_barrier_2 rfl (lv_at hl 0 rfl) ?_
  refine va_calli (va_runV (C := RX) (As := []) (rest := [.int (nI 0), .ref o]) ⟨hx, hb, hml, hown, hw⟩ (cX_barrier_y l D (xA h a1 a2 a3 a4) h a1 a2 a3 a4 cA n u.1.2.2.2 nb u.1.1 u.1.2.1 u.1.2.2.1 ed hn hnb hed x hres) (cwV 0 hw (gV w2_88 w2_89 w2_90 w1_1 w2_91) rfl rfl rfl ⟨rfl, by decide, by decide, by decide +kernel⟩ ⟨Nat.le_of_ble_eq_true rfl, Nat.le_of_ble_eq_true rfl⟩) ⟨gW_blind, va_recv (q0 := 0) (ci := 0) hKx hPx rfl rfl, gW_at hPx hKx hDx _⟩ rfl rfl hl.1 rfl (lv_room (Nat.le_of_ble_eq_true rfl)) dL_barrier_3 ⟨Nat.zero_le _, Nat.zero_le _⟩) hS (fun q _ h => hAx q h) (fun q h => hAx q h) (fun r9 u5 t9 H locs ht9 hvm9 hpost9 hB9 hz9 hk9 hS => ?_)
  obtain ⟨hPy, -, -⟩ := hB9
  have hPy : va_P D vwCl (xW9 h a1 a2 a3 a4 cA n nb u5) t9.heap := hPy
  rw [ht9] at hPy
  have hP : va_P D vwCl (hW9 h a1 a2 a3 a4 o cA cL n nb (u5, u.2)) H := hx_J hP hD hk9 hPy
  have hD := hx_D hD n nb (u5, u.2)
  obtain ⟨hr9, hus9, hnm9⟩ := hpost9
  subst hr9
  refine lv_i2l (v := (nI (jBa u5.1 u5.2.1 (jLo nb u5.1 u5.2.1 n x.2 (pcN (jBest (jAp nb n) (2 ^ n))) (2 ^ n)) n &&& ntN (jLo nb u5.1 u5.2.1 n x.2 (pcN (jBest (jAp nb n) (2 ^ n))) (2 ^ n))) : Int32).toInt64) hx hb dL_barrier_6 rfl ?_
  refine nv_last (f := u.2) (x := (nI (jBa u5.1 u5.2.1 (jLo nb u5.1 u5.2.1 n x.2 (pcN (jBest (jAp nb n) (2 ^ n))) (2 ^ n)) n &&& ntN (jLo nb u5.1 u5.2.1 n x.2 (pcN (jBest (jAp nb n) (2 ^ n))) (2 ^ n))) : Int32).toInt64) hx hb hK hP hD hS 5 1 rfl rfl dL_barrier_7 (fun H locs hP hD hS => ?_)
  have hP : va_P D vwCl (hW9 h a1 a2 a3 a4 o cA cL n nb (u5, vp_updL u.2 0 ((nI (jBa u5.1 u5.2.1 (jLo nb u5.1 u5.2.1 n x.2 (pcN (jBest (jAp nb n) (2 ^ n))) (2 ^ n)) n &&& ntN (jLo nb u5.1 u5.2.1 n x.2 (pcN (jBest (jAp nb n) (2 ^ n))) (2 ^ n))) : Int32).toInt64))) H := hP
  have hD : va_D A (hW9 h a1 a2 a3 a4 o cA cL n nb (u5, vp_updL u.2 0 ((nI (jBa u5.1 u5.2.1 (jLo nb u5.1 u5.2.1 n x.2 (pcN (jBest (jAp nb n) (2 ^ n))) (2 ^ n)) n &&& ntN (jLo nb u5.1 u5.2.1 n x.2 (pcN (jBest (jAp nb n) (2 ^ n))) (2 ^ n))) : Int32).toInt64))) := hD
  refine lv_goto (tgt := 14) hx hb dL_barrier_8 rfl ?_
  refine lv_iconst (v := nI 0) hx hb dL_barrier_14 (by decide) ?_
  refine W.widen (k := 1) (n := 6) (Nat.le_of_ble_eq_true rfl) (Nat.le_of_ble_eq_true rfl) ?_
  exact W.iret (v := nI 0) hx hb hr (fun t ht hW => ⟨⟨_, (u5, vp_updL u.2 0 ((nI (jBa u5.1 u5.2.1 (jLo nb u5.1 u5.2.1 n x.2 (pcN (jBest (jAp nb n) (2 ^ n))) (2 ^ n)) n &&& ntN (jLo nb u5.1 u5.2.1 n x.2 (pcN (jBest (jAp nb n) (2 ^ n))) (2 ^ n))) : Int32).toInt64)), rfl, ⟨rfl, ⟨updL_0 (f := u.2) (x := (nI (jBa u5.1 u5.2.1 (jLo nb u5.1 u5.2.1 n x.2 (pcN (jBest (jAp nb n) (2 ^ n))) (2 ^ n)) n &&& ntN (jLo nb u5.1 u5.2.1 n x.2 (pcN (jBest (jAp nb n) (2 ^ n))) (2 ^ n))) : Int32).toInt64), hnm9⟩⟩, by rw [ht]; exact hP, va_K.moved hW.alike hK, hD⟩, hS.F ht⟩) hS.2.2 dL_barrier_15

set_option maxHeartbeats 4000000 in
set_option maxRecDepth 100000 in
theorem hL_ends_n (l : Launch) (D : va_G) (A : Nat → Prop) (h a1 a2 a3 a4 o : Nat) (cA cL : ClassId) (n : Nat) (nb : Nat → Nat) (u : hU) (ed : Nat → Nat → Nat) (hst : l.stackTraces = false) (hn : n ≤ 8) (hnb : ∀ v, v < n → nb v < 256)(hed : ∀ v j, v < n → j < v → ed v j = if (nb v).testBit j = true then 1 else 0)(hres : srN ed (meN (2 ^ n - 1) n 0) [] 0 = none) : Met l yL_ends (Cond.codeWith yL_ends cL_ends 3 (some FieldType.int) [(0, 8, 11, 13)] :: bw) (rmT 20) (va_Pc [.ref h, .ref o] (gL D vwCl A (xA h a1 a2 a3 a4) (hW9 h a1 a2 a3 a4 o cA cL n nb u) [(cA, .int), (cL, .long)])) (va_Qi (fun r (w : hU) => r = nI 1 ∧ True) (fun w => gW D vwCl A (hW9 h a1 a2 a3 a4 o cA cL n nb w) [(cA, .int), (cL, .long)]) A) 1 6 A := by
  refine va_MetW (cc := cL_ends) (maxL := 3) (ret := (some FieldType.int)) (hh := [(0, 8, 11, 13)]) (by decide) rfl ?_
  intro p e s m args below meth c s₁ B9 hml hv9
  obtain ⟨rfl, ⟨hP, hK, hD⟩, hE, hN1, hN2⟩ := hv9
  have hx := B9.exec
  have hb := B9.bytes
  have hr := B9.returns
  have hts := atoms_spec (ws := (Cond.codeWith yL_ends cL_ends 3 (some FieldType.int) [(0, 8, 11, 13)] :: bw)) B9.pre
  have hw : ∀ w ∈ bw, w.before _ s = true := fun w h => hts w (List.mem_cons_of_mem _ h)
  have hown : s.vm.findClass RL = some m.cls := findClass_of_methodNamed B9.named
  have hlocks := B9.notSynchronized
  have hl := lv_entry ([.ref h, .ref o]) (n := 3) (Nat.le_of_ble_eq_true rfl)
  rw [lg_entry_eq]
  generalize (lg_sl ([.ref h, .ref o]) ++ List.replicate (3 - (lg_sl ([.ref h, .ref o])).length) Slot.unset).toArray = ls at hl ⊢
  have hl : lv_has ls 3 [(0, .ref h), (1, .ref o)] := hl
  have htab := tab_of B9 (hts _ List.mem_cons_self)
  have hS : va_S A s.heap s.heap [] := va_S.rf
  have hAx := hx_A hD
  have hPx := hx_P hP
  have hKx := hK.sub [0] (tys' := [(cA, .int)]) rfl
  have hDx := hx_Dx hD n nb u.1
  refine lv_aload_n hx hb dL_ends_0 rfl (lv_at hl 1 rfl) ?_
  refine lv_iconst (v := nI 0) hx hb dL_ends_1 (by decide) ?_
  refine lv_aload_n hx hb dL_ends_2 rfl (lv_at hl 0 rfl) ?_
  refine tx_catch1 (name := "java/lang/IllegalStateException") (C := RX) (As := []) (rest := [.int (nI 0), .ref o]) ⟨hx, hb, hml, hown, hw⟩ (cX_ends_n l D (xA h a1 a2 a3 a4) h a1 a2 a3 a4 cA n u.1.2.2.2 nb u.1.1 u.1.2.1 u.1.2.2.1 ed hst hn hnb hed hres) (cwV 0 hw (gV w2_34 w2_35 w2_36 w1_1 w2_37) rfl rfl rfl ⟨rfl, by decide, by decide, by decide +kernel⟩ ⟨Nat.le_of_ble_eq_true rfl, Nat.le_of_ble_eq_true rfl⟩) ⟨gE_blind, va_recv (q0 := 0) (ci := 0) hKx hPx rfl rfl, gE_at hPx hKx hDx hE _⟩ rfl hl.1 rfl (Nat.le_of_ble_eq_true rfl) dL_ends_3 ⟨Nat.le_refl _, Nat.le_refl _⟩ htab (by decide) (by decide) (hw _ w1_116) (cast_ISE hE.1) (fun q9 st9 t9 H locs h1 h2 h3 h4 h5 => ?_)
  have hS := tx_S hS hAx h1 h2 h4.1 h5
  have hk9 := tx_K h1 h2 h4.1
  obtain ⟨u5, hPy, -, -⟩ := h4.2
  rw [h2] at hPy
  have hP : va_P D vwCl (hW9 h a1 a2 a3 a4 o cA cL n nb (u5, u.2)) H := hx_J hP hD hk9 hPy
  refine lv_astore_n hx hb dL_ends_11 rfl hl (by decide) (lv' := [(2, .ref q9), (0, .ref h), (1, .ref o)]) rfl (fun ls hl => ?_)
  refine lv_iconst (v := nI 1) hx hb dL_ends_12 (by decide) ?_
  refine W.widen (k := 1) (n := 6) (Nat.le_of_ble_eq_true rfl) (Nat.le_of_ble_eq_true rfl) ?_
  exact W.iret (v := nI 1) hx hb hr (fun t ht hW => ⟨⟨_, (u5, u.2), rfl, ⟨rfl, trivial⟩, by rw [ht]; exact hP, va_K.moved hW.alike hK, hx_D hD _ _ _⟩, hS.F ht⟩) hS.2.2 dL_ends_13

set_option maxHeartbeats 4000000 in
set_option maxRecDepth 100000 in
theorem hL_loose_n (l : Launch) (D : va_G) (A : Nat → Prop) (h a1 a2 a3 a4 o : Nat) (cA cL : ClassId) (n : Nat) (nb : Nat → Nat) (u : hU) (ed : Nat → Nat → Nat) (hst : l.stackTraces = false) (hn : n ≤ 8) (hnb : ∀ v, v < n → nb v < 256)(hed : ∀ v j, v < n → j < v → ed v j = if (nb v).testBit j = true then 1 else 0)(hres : srN ed (meN (2 ^ n - 1) n 0) [] 0 = none) : Met l yL_loose (Cond.codeWith yL_loose cL_loose 3 (some FieldType.int) [(0, 8, 11, 13)] :: bw) (rmT 20) (va_Pc [.ref h, .ref o] (gL D vwCl A (xA h a1 a2 a3 a4) (hW9 h a1 a2 a3 a4 o cA cL n nb u) [(cA, .int), (cL, .long)])) (va_Qi (fun r (w : hU) => r = nI 1 ∧ True) (fun w => gW D vwCl A (hW9 h a1 a2 a3 a4 o cA cL n nb w) [(cA, .int), (cL, .long)]) A) 1 6 A := by
  refine va_MetW (cc := cL_loose) (maxL := 3) (ret := (some FieldType.int)) (hh := [(0, 8, 11, 13)]) (by decide) rfl ?_
  intro p e s m args below meth c s₁ B9 hml hv9
  obtain ⟨rfl, ⟨hP, hK, hD⟩, hE, hN1, hN2⟩ := hv9
  have hx := B9.exec
  have hb := B9.bytes
  have hr := B9.returns
  have hts := atoms_spec (ws := (Cond.codeWith yL_loose cL_loose 3 (some FieldType.int) [(0, 8, 11, 13)] :: bw)) B9.pre
  have hw : ∀ w ∈ bw, w.before _ s = true := fun w h => hts w (List.mem_cons_of_mem _ h)
  have hown : s.vm.findClass RL = some m.cls := findClass_of_methodNamed B9.named
  have hlocks := B9.notSynchronized
  have hl := lv_entry ([.ref h, .ref o]) (n := 3) (Nat.le_of_ble_eq_true rfl)
  rw [lg_entry_eq]
  generalize (lg_sl ([.ref h, .ref o]) ++ List.replicate (3 - (lg_sl ([.ref h, .ref o])).length) Slot.unset).toArray = ls at hl ⊢
  have hl : lv_has ls 3 [(0, .ref h), (1, .ref o)] := hl
  have htab := tab_of B9 (hts _ List.mem_cons_self)
  have hS : va_S A s.heap s.heap [] := va_S.rf
  have hAx := hx_A hD
  have hPx := hx_P hP
  have hKx := hK.sub [0] (tys' := [(cA, .int)]) rfl
  have hDx := hx_Dx hD n nb u.1
  refine lv_aload_n hx hb dL_loose_0 rfl (lv_at hl 1 rfl) ?_
  refine lv_iconst (v := nI 0) hx hb dL_loose_1 (by decide) ?_
  refine lv_aload_n hx hb dL_loose_2 rfl (lv_at hl 0 rfl) ?_
  refine tx_catch1 (name := "java/lang/IllegalStateException") (C := RX) (As := []) (rest := [.int (nI 0), .ref o]) ⟨hx, hb, hml, hown, hw⟩ (cX_loose_n l D (xA h a1 a2 a3 a4) h a1 a2 a3 a4 cA n u.1.2.2.2 nb u.1.1 u.1.2.1 u.1.2.2.1 ed hst hn hnb hed hres) (cwV 0 hw (gV w2_68 w2_69 w2_70 w1_1 w2_71) rfl rfl rfl ⟨rfl, by decide, by decide, by decide +kernel⟩ ⟨Nat.le_of_ble_eq_true rfl, Nat.le_of_ble_eq_true rfl⟩) ⟨gE_blind, va_recv (q0 := 0) (ci := 0) hKx hPx rfl rfl, gE_at hPx hKx hDx hE _⟩ rfl hl.1 rfl (Nat.le_of_ble_eq_true rfl) dL_loose_3 ⟨Nat.le_refl _, Nat.le_refl _⟩ htab (by decide) (by decide) (hw _ w1_116) (cast_ISE hE.1) (fun q9 st9 t9 H locs h1 h2 h3 h4 h5 => ?_)
  have hS := tx_S hS hAx h1 h2 h4.1 h5
  have hk9 := tx_K h1 h2 h4.1
  obtain ⟨u5, hPy, -, -⟩ := h4.2
  rw [h2] at hPy
  have hP : va_P D vwCl (hW9 h a1 a2 a3 a4 o cA cL n nb (u5, u.2)) H := hx_J hP hD hk9 hPy
  refine lv_astore_n hx hb dL_loose_11 rfl hl (by decide) (lv' := [(2, .ref q9), (0, .ref h), (1, .ref o)]) rfl (fun ls hl => ?_)
  refine lv_iconst (v := nI 1) hx hb dL_loose_12 (by decide) ?_
  refine W.widen (k := 1) (n := 6) (Nat.le_of_ble_eq_true rfl) (Nat.le_of_ble_eq_true rfl) ?_
  exact W.iret (v := nI 1) hx hb hr (fun t ht hW => ⟨⟨_, (u5, u.2), rfl, ⟨rfl, trivial⟩, by rw [ht]; exact hP, va_K.moved hW.alike hK, hx_D hD _ _ _⟩, hS.F ht⟩) hS.2.2 dL_loose_13

set_option maxHeartbeats 4000000 in
set_option maxRecDepth 100000 in
theorem hL_barrier_n (l : Launch) (D : va_G) (A : Nat → Prop) (h a1 a2 a3 a4 o : Nat) (cA cL : ClassId) (n : Nat) (nb : Nat → Nat) (u : hU) (ed : Nat → Nat → Nat) (hst : l.stackTraces = false) (hn : n ≤ 8) (hnb : ∀ v, v < n → nb v < 256)(hed : ∀ v j, v < n → j < v → ed v j = if (nb v).testBit j = true then 1 else 0)(hres : srN ed (meN (2 ^ n - 1) n 0) [] 0 = none) : Met l yL_barrier (Cond.codeWith yL_barrier cL_barrier 3 (some FieldType.int) [(0, 8, 11, 13)] :: bw) (rmT 20) (va_Pc [.ref h, .ref o] (gL D vwCl A (xA h a1 a2 a3 a4) (hW9 h a1 a2 a3 a4 o cA cL n nb u) [(cA, .int), (cL, .long)])) (va_Qi (fun r (w : hU) => r = nI 1 ∧ True) (fun w => gW D vwCl A (hW9 h a1 a2 a3 a4 o cA cL n nb w) [(cA, .int), (cL, .long)]) A) 1 6 A := by
  refine va_MetW (cc := cL_barrier) (maxL := 3) (ret := (some FieldType.int)) (hh := [(0, 8, 11, 13)]) (by decide) rfl ?_
  intro p e s m args below meth c s₁ B9 hml hv9
  obtain ⟨rfl, ⟨hP, hK, hD⟩, hE, hN1, hN2⟩ := hv9
  have hx := B9.exec
  have hb := B9.bytes
  have hr := B9.returns
  have hts := atoms_spec (ws := (Cond.codeWith yL_barrier cL_barrier 3 (some FieldType.int) [(0, 8, 11, 13)] :: bw)) B9.pre
  have hw : ∀ w ∈ bw, w.before _ s = true := fun w h => hts w (List.mem_cons_of_mem _ h)
  have hown : s.vm.findClass RL = some m.cls := findClass_of_methodNamed B9.named
  have hlocks := B9.notSynchronized
  have hl := lv_entry ([.ref h, .ref o]) (n := 3) (Nat.le_of_ble_eq_true rfl)
  rw [lg_entry_eq]
  generalize (lg_sl ([.ref h, .ref o]) ++ List.replicate (3 - (lg_sl ([.ref h, .ref o])).length) Slot.unset).toArray = ls at hl ⊢
  have hl : lv_has ls 3 [(0, .ref h), (1, .ref o)] := hl
  have htab := tab_of B9 (hts _ List.mem_cons_self)
  have hS : va_S A s.heap s.heap [] := va_S.rf
  have hAx := hx_A hD
  have hPx := hx_P hP
  have hKx := hK.sub [0] (tys' := [(cA, .int)]) rfl
  have hDx := hx_Dx hD n nb u.1
  refine lv_aload_n hx hb dL_barrier_0 rfl (lv_at hl 1 rfl) ?_
  refine lv_iconst (v := nI 0) hx hb dL_barrier_1 (by decide) ?_
  refine lv_aload_n hx hb dL_barrier_2 rfl (lv_at hl 0 rfl) ?_
  refine tx_catch1 (name := "java/lang/IllegalStateException") (C := RX) (As := []) (rest := [.int (nI 0), .ref o]) ⟨hx, hb, hml, hown, hw⟩ (cX_barrier_n l D (xA h a1 a2 a3 a4) h a1 a2 a3 a4 cA n u.1.2.2.2 nb u.1.1 u.1.2.1 u.1.2.2.1 ed hst hn hnb hed hres) (cwV 0 hw (gV w2_88 w2_89 w2_90 w1_1 w2_91) rfl rfl rfl ⟨rfl, by decide, by decide, by decide +kernel⟩ ⟨Nat.le_of_ble_eq_true rfl, Nat.le_of_ble_eq_true rfl⟩) ⟨gE_blind, va_recv (q0 := 0) (ci := 0) hKx hPx rfl rfl, gE_at hPx hKx hDx hE _⟩ rfl hl.1 rfl (Nat.le_of_ble_eq_true rfl) dL_barrier_3 ⟨Nat.le_refl _, Nat.le_refl _⟩ htab (by decide) (by decide) (hw _ w1_116) (cast_ISE hE.1) (fun q9 st9 t9 H locs h1 h2 h3 h4 h5 => ?_)
  have hS := tx_S hS hAx h1 h2 h4.1 h5
  have hk9 := tx_K h1 h2 h4.1
  obtain ⟨u5, hPy, -, -⟩ := h4.2
  rw [h2] at hPy
  have hP : va_P D vwCl (hW9 h a1 a2 a3 a4 o cA cL n nb (u5, u.2)) H := hx_J hP hD hk9 hPy
  refine lv_astore_n hx hb dL_barrier_11 rfl hl (by decide) (lv' := [(2, .ref q9), (0, .ref h), (1, .ref o)]) rfl (fun ls hl => ?_)
  refine lv_iconst (v := nI 1) hx hb dL_barrier_12 (by decide) ?_
  refine W.widen (k := 1) (n := 6) (Nat.le_of_ble_eq_true rfl) (Nat.le_of_ble_eq_true rfl) ?_
  exact W.iret (v := nI 1) hx hb hr (fun t ht hW => ⟨⟨_, (u5, u.2), rfl, ⟨rfl, trivial⟩, by rw [ht]; exact hP, va_K.moved hW.alike hK, hx_D hD _ _ _⟩, hS.F ht⟩) hS.2.2 dL_barrier_13

set_option maxHeartbeats 4000000 in
set_option maxRecDepth 100000 in
theorem hL_spoiler_y (l : Launch) (D : va_G) (A : Nat → Prop) (h a1 a2 a3 a4 o : Nat) (cA cL : ClassId) (n : Nat) (nb : Nat → Nat) (u : hU) (ed : Nat → Nat → Nat)  (hn : n ≤ 8) (hnb : ∀ v, v < n → nb v < 256)(hed : ∀ v j, v < n → j < v → ed v j = if (nb v).testBit j = true then 1 else 0)(hres : srN ed (meN (2 ^ n - 1) n 0) [] 0 = none) : Met l yL_spoiler (Cond.codeWith yL_spoiler cL_spoiler 3 (some FieldType.int) [(0, 8, 11, 13)] :: bw) (rmT 20) (va_Pc [.ref h, .ref o] (gL D vwCl A (xA h a1 a2 a3 a4) (hW9 h a1 a2 a3 a4 o cA cL n nb u) [(cA, .int), (cL, .long)])) (va_Qi (fun r (w : hU) => r = nI 0 ∧ w.2 0 = (nI (jSp (isL ed n) (2 ^ n - 1) n) : Int32).toInt64) (fun w => gW D vwCl A (hW9 h a1 a2 a3 a4 o cA cL n nb w) [(cA, .int), (cL, .long)]) A) 1 6 A := by
  refine va_MetW (cc := cL_spoiler) (maxL := 3) (ret := (some FieldType.int)) (hh := [(0, 8, 11, 13)]) (by decide) rfl ?_
  intro p e s m args below meth c s₁ B9 hml hv9
  obtain ⟨rfl, ⟨hP, hK, hD⟩, hE, hN1, hN2⟩ := hv9
  have hx := B9.exec
  have hb := B9.bytes
  have hr := B9.returns
  have hts := atoms_spec (ws := (Cond.codeWith yL_spoiler cL_spoiler 3 (some FieldType.int) [(0, 8, 11, 13)] :: bw)) B9.pre
  have hw : ∀ w ∈ bw, w.before _ s = true := fun w h => hts w (List.mem_cons_of_mem _ h)
  have hown : s.vm.findClass RL = some m.cls := findClass_of_methodNamed B9.named
  have hlocks := B9.notSynchronized
  have hl := lv_entry ([.ref h, .ref o]) (n := 3) (Nat.le_of_ble_eq_true rfl)
  rw [lg_entry_eq]
  generalize (lg_sl ([.ref h, .ref o]) ++ List.replicate (3 - (lg_sl ([.ref h, .ref o])).length) Slot.unset).toArray = ls at hl ⊢
  have hl : lv_has ls 3 [(0, .ref h), (1, .ref o)] := hl
  have htab := tab_of B9 (hts _ List.mem_cons_self)
  have hS : va_S A s.heap s.heap [] := va_S.rf
  have hAx := hx_A hD
  have hPx := hx_P hP
  have hKx := hK.sub [0] (tys' := [(cA, .int)]) rfl
  have hDx := hx_Dx hD n nb u.1
  refine lv_aload_n hx hb dL_spoiler_0 rfl (lv_at hl 1 rfl) ?_
  refine lv_iconst (v := nI 0) hx hb dL_spoiler_1 (by decide) ?_
  refine lv_aload_n hx hb dL_spoiler_2 rfl (lv_at hl 0 rfl) ?_
  refine va_calli (va_runV (C := RX) (As := []) (rest := [.int (nI 0), .ref o]) ⟨hx, hb, hml, hown, hw⟩ (cX_spoiler_y l D (xA h a1 a2 a3 a4) h a1 a2 a3 a4 cA n u.1.2.2.2 nb u.1.1 u.1.2.1 u.1.2.2.1 ed hn hnb hed hres) (cwV 0 hw (gV w2_60 w2_61 w2_62 w1_1 w2_63) rfl rfl rfl ⟨rfl, by decide, by decide, by decide +kernel⟩ ⟨Nat.le_of_ble_eq_true rfl, Nat.le_of_ble_eq_true rfl⟩) ⟨gW_blind, va_recv (q0 := 0) (ci := 0) hKx hPx rfl rfl, gW_at hPx hKx hDx _⟩ rfl rfl hl.1 rfl (lv_room (Nat.le_of_ble_eq_true rfl)) dL_spoiler_3 ⟨Nat.zero_le _, Nat.zero_le _⟩) hS (fun q _ h => hAx q h) (fun q h => hAx q h) (fun r9 u5 t9 H locs ht9 hvm9 hpost9 hB9 hz9 hk9 hS => ?_)
  obtain ⟨hPy, -, -⟩ := hB9
  have hPy : va_P D vwCl (xW9 h a1 a2 a3 a4 cA n nb u5) t9.heap := hPy
  rw [ht9] at hPy
  have hP : va_P D vwCl (hW9 h a1 a2 a3 a4 o cA cL n nb (u5, u.2)) H := hx_J hP hD hk9 hPy
  have hD := hx_D hD n nb (u5, u.2)
  subst hpost9
  refine lv_i2l (v := (nI (jSp (isL ed n) (2 ^ n - 1) n) : Int32).toInt64) hx hb dL_spoiler_6 rfl ?_
  refine nv_last (f := u.2) (x := (nI (jSp (isL ed n) (2 ^ n - 1) n) : Int32).toInt64) hx hb hK hP hD hS 5 1 rfl rfl dL_spoiler_7 (fun H locs hP hD hS => ?_)
  have hP : va_P D vwCl (hW9 h a1 a2 a3 a4 o cA cL n nb (u5, vp_updL u.2 0 ((nI (jSp (isL ed n) (2 ^ n - 1) n) : Int32).toInt64))) H := hP
  have hD : va_D A (hW9 h a1 a2 a3 a4 o cA cL n nb (u5, vp_updL u.2 0 ((nI (jSp (isL ed n) (2 ^ n - 1) n) : Int32).toInt64))) := hD
  refine lv_goto (tgt := 14) hx hb dL_spoiler_8 rfl ?_
  refine lv_iconst (v := nI 0) hx hb dL_spoiler_14 (by decide) ?_
  refine W.widen (k := 1) (n := 6) (Nat.le_of_ble_eq_true rfl) (Nat.le_of_ble_eq_true rfl) ?_
  exact W.iret (v := nI 0) hx hb hr (fun t ht hW => ⟨⟨_, (u5, vp_updL u.2 0 ((nI (jSp (isL ed n) (2 ^ n - 1) n) : Int32).toInt64)), rfl, ⟨rfl, updL_0 (f := u.2) (x := (nI (jSp (isL ed n) (2 ^ n - 1) n) : Int32).toInt64)⟩, by rw [ht]; exact hP, va_K.moved hW.alike hK, hD⟩, hS.F ht⟩) hS.2.2 dL_spoiler_15

set_option maxHeartbeats 4000000 in
set_option maxRecDepth 100000 in
theorem hL_spoiler_n (l : Launch) (D : va_G) (A : Nat → Prop) (h a1 a2 a3 a4 o : Nat) (cA cL : ClassId) (n : Nat) (nb : Nat → Nat) (u : hU) (ed : Nat → Nat → Nat) (hst : l.stackTraces = false) (hn : n ≤ 8) (hnb : ∀ v, v < n → nb v < 256)(hed : ∀ v j, v < n → j < v → ed v j = if (nb v).testBit j = true then 1 else 0)(x : List (Nat × Nat × Nat) × Nat) (hres : srN ed (meN (2 ^ n - 1) n 0) [] 0 = some x) : Met l yL_spoiler (Cond.codeWith yL_spoiler cL_spoiler 3 (some FieldType.int) [(0, 8, 11, 13)] :: bw) (rmT 20) (va_Pc [.ref h, .ref o] (gL D vwCl A (xA h a1 a2 a3 a4) (hW9 h a1 a2 a3 a4 o cA cL n nb u) [(cA, .int), (cL, .long)])) (va_Qi (fun r (w : hU) => r = nI 1 ∧ True) (fun w => gW D vwCl A (hW9 h a1 a2 a3 a4 o cA cL n nb w) [(cA, .int), (cL, .long)]) A) 1 6 A := by
  refine va_MetW (cc := cL_spoiler) (maxL := 3) (ret := (some FieldType.int)) (hh := [(0, 8, 11, 13)]) (by decide) rfl ?_
  intro p e s m args below meth c s₁ B9 hml hv9
  obtain ⟨rfl, ⟨hP, hK, hD⟩, hE, hN1, hN2⟩ := hv9
  have hx := B9.exec
  have hb := B9.bytes
  have hr := B9.returns
  have hts := atoms_spec (ws := (Cond.codeWith yL_spoiler cL_spoiler 3 (some FieldType.int) [(0, 8, 11, 13)] :: bw)) B9.pre
  have hw : ∀ w ∈ bw, w.before _ s = true := fun w h => hts w (List.mem_cons_of_mem _ h)
  have hown : s.vm.findClass RL = some m.cls := findClass_of_methodNamed B9.named
  have hlocks := B9.notSynchronized
  have hl := lv_entry ([.ref h, .ref o]) (n := 3) (Nat.le_of_ble_eq_true rfl)
  rw [lg_entry_eq]
  generalize (lg_sl ([.ref h, .ref o]) ++ List.replicate (3 - (lg_sl ([.ref h, .ref o])).length) Slot.unset).toArray = ls at hl ⊢
  have hl : lv_has ls 3 [(0, .ref h), (1, .ref o)] := hl
  have htab := tab_of B9 (hts _ List.mem_cons_self)
  have hS : va_S A s.heap s.heap [] := va_S.rf
  have hAx := hx_A hD
  have hPx := hx_P hP
  have hKx := hK.sub [0] (tys' := [(cA, .int)]) rfl
  have hDx := hx_Dx hD n nb u.1
  refine lv_aload_n hx hb dL_spoiler_0 rfl (lv_at hl 1 rfl) ?_
  refine lv_iconst (v := nI 0) hx hb dL_spoiler_1 (by decide) ?_
  refine lv_aload_n hx hb dL_spoiler_2 rfl (lv_at hl 0 rfl) ?_
  refine tx_catch1 (name := "java/lang/IllegalStateException") (C := RX) (As := []) (rest := [.int (nI 0), .ref o]) ⟨hx, hb, hml, hown, hw⟩ (cX_spoiler_n l D (xA h a1 a2 a3 a4) h a1 a2 a3 a4 cA n u.1.2.2.2 nb u.1.1 u.1.2.1 u.1.2.2.1 ed hst hn hnb hed x hres) (cwV 0 hw (gV w2_60 w2_61 w2_62 w1_1 w2_63) rfl rfl rfl ⟨rfl, by decide, by decide, by decide +kernel⟩ ⟨Nat.le_of_ble_eq_true rfl, Nat.le_of_ble_eq_true rfl⟩) ⟨gE_blind, va_recv (q0 := 0) (ci := 0) hKx hPx rfl rfl, gE_at hPx hKx hDx hE _⟩ rfl hl.1 rfl (Nat.le_of_ble_eq_true rfl) dL_spoiler_3 ⟨Nat.le_refl _, Nat.le_refl _⟩ htab (by decide) (by decide) (hw _ w1_116) (cast_ISE hE.1) (fun q9 st9 t9 H locs h1 h2 h3 h4 h5 => ?_)
  have hS := tx_S hS hAx h1 h2 h4.1 h5
  have hk9 := tx_K h1 h2 h4.1
  obtain ⟨u5, hPy, -, -⟩ := h4.2
  rw [h2] at hPy
  have hP : va_P D vwCl (hW9 h a1 a2 a3 a4 o cA cL n nb (u5, u.2)) H := hx_J hP hD hk9 hPy
  refine lv_astore_n hx hb dL_spoiler_11 rfl hl (by decide) (lv' := [(2, .ref q9), (0, .ref h), (1, .ref o)]) rfl (fun ls hl => ?_)
  refine lv_iconst (v := nI 1) hx hb dL_spoiler_12 (by decide) ?_
  refine W.widen (k := 1) (n := 6) (Nat.le_of_ble_eq_true rfl) (Nat.le_of_ble_eq_true rfl) ?_
  exact W.iret (v := nI 1) hx hb hr (fun t ht hW => ⟨⟨_, (u5, u.2), rfl, ⟨rfl, trivial⟩, by rw [ht]; exact hP, va_K.moved hW.alike hK, hx_D hD _ _ _⟩, hS.F ht⟩) hS.2.2 dL_spoiler_13
