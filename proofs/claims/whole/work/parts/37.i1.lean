/-! The constructors. -/
theorem ty_eq {D : va_G} {cl : List vw_C} {tys : List (ClassId × FieldType)} {U : State} (hK : va_K D cl tys U) {i j : Nat} {c1 c2 : ClassId} (h1 : tys[i]? = some (c1, .int)) (h2 : tys[j]? = some (c2, .int)) : c1 = c2 := by
  have e1 : U.vm.findClass ("[" ++ FieldType.int.toString) = some c1 := (hK.2 i _ h1).2
  have e2 : U.vm.findClass ("[" ++ FieldType.int.toString) = some c2 := (hK.2 j _ h2).2
  rw [e1] at e2
  exact Option.some.inj e2

set_option maxHeartbeats 4000000 in
set_option maxRecDepth 100000 in
theorem cX_init_c (l : Launch) (D : va_G) (A : Nat → Prop) (h : Nat) : Met l yX_init (Cond.code yX_init cX_init 1 none :: bw) ({ frames := 3, cells := 4, slots := 40, locals := 120 }) (va_Pc [.ref h] (fun U => gW D vwCl A [(h, .inr (0, [.null, .int 0, .null, .null, .null, .int 0]))] [] U ∧ ∀ q : Nat, U.heap.size ≤ q → A q)) (va_Qv (fun _ : Nat × Nat × Nat × Nat × ClassId => True) (fun u => gW D vwCl A [(h, .inr (0, [.ref u.1, .int (nI 0), .ref u.2.1, .ref u.2.2.1, .ref u.2.2.2.1, .int (nI 0)])), (u.1, .inl (u.2.2.2.2, 8, .inl (fun _ => nI 0))), (u.2.1, .inl (u.2.2.2.2, 8, .inl (fun _ => nI 0))), (u.2.2.1, .inl (u.2.2.2.2, 8, .inl (fun _ => nI 0))), (u.2.2.2.1, .inl (u.2.2.2.2, 16, .inl (fun _ => nI 0)))] [(u.2.2.2.2, .int)]) A) 4 40 A := by
  refine Met.ofW (cc := cX_init) (maxL := 1) (ret := none) (by decide) rfl ?_
  intro p e s m args below meth c s₁ B9 hml hv
  obtain ⟨rfl, ⟨hP, hK, hD⟩, hA⟩ := hv
  have hx := B9.exec
  have hb := B9.bytes
  have hr := B9.returns
  have hts := atoms_spec (ws := (Cond.code yX_init cX_init 1 none :: bw)) B9.pre
  have hw : ∀ w ∈ bw, w.before _ s = true := fun w h => hts w (List.mem_cons_of_mem _ h)
  have hown : s.vm.findClass RX = some m.cls := findClass_of_methodNamed B9.named
  have hlocks := B9.notSynchronized
  have hl := lv_entry ([.ref h]) (n := 1) (Nat.le_of_ble_eq_true rfl)
  rw [lg_entry_eq]
  generalize (lg_sl ([.ref h]) ++ List.replicate (1 - (lg_sl ([.ref h])).length) Slot.unset).toArray = ls at hl ⊢
  have hl : lv_has ls 1 [(0, .ref h)] := hl
  have hin : meth.name = "<init>" := (name_of_methodNamed B9.named B9.method).1
  have hS : va_S A s.heap s.heap [] := va_S.rf
  refine lv_aload_n hx hb dX_init_0 rfl (lv_at hl 0 rfl) ?_
  refine W.objInit hx hb hown (hw _ w1_16) (hw _ w1_17) (hw _ w1_18) rfl (by rw [hml]; exact hl.1) rfl dX_init_1 (Nat.le_of_ble_eq_true rfl) (Nat.le_of_ble_eq_true rfl) ?_
  refine W.eq (g2 := F0 m 4 ls []) rfl ?_
  refine lv_aload_n hx hb dX_init_4 rfl (lv_at hl 0 rfl) ?_
  refine lv_bipush (v := nI 8) hx hb dX_init_5 (by decide) ?_
  refine va_newa (atype := .int) (ty := .int) (n := nI 8) (N' := 8) (a0 := (8, .inl (fun _ => nI 0))) hx hb (hw _ w1_38) rfl hK hP hD hS hA (fun _ => rfl) (by decide) (by decide) (Nat.le_of_ble_eq_true rfl) (Nat.le_of_ble_eq_true rfl) (Nat.le_of_ble_eq_true rfl) dX_init_7 (fun a1 cA H hK hP hD hS => ?_)
  have hP : va_P D vwCl [(h, .inr (0, [.null, .int 0, .null, .null, .null, .int 0])), (a1, .inl (cA, 8, .inl (fun _ => nI 0)))] H := hP
  have hD : va_D A [(h, .inr (0, [.null, .int 0, .null, .null, .null, .int 0])), (a1, .inl (cA, 8, .inl (fun _ => nI 0)))] := hD
  refine va_putF (ci := 0) (v := .ref a1) (C := RX) (T := TX) (N := 6) hx hb hw uX tyX tyX_ok nmX hown hK hP hD hS 0 rfl rfl 0 (by decide) (hw _ w1_19) (fun _ h9 => h9) rfl hin rfl (tyX_ok 0 (by decide)) rfl rfl (Nat.le_of_ble_eq_true rfl) dX_init_9 (fun H locs hP hD hS => ?_)
  have hP : va_P D vwCl [(h, .inr (0, [.ref a1, .int 0, .null, .null, .null, .int 0])), (a1, .inl (cA, 8, .inl (fun _ => nI 0)))] H := hP
  have hD : va_D A [(h, .inr (0, [.ref a1, .int 0, .null, .null, .null, .int 0])), (a1, .inl (cA, 8, .inl (fun _ => nI 0)))] := hD
  refine lv_aload_n hx hb dX_init_12 rfl (lv_at hl 0 rfl) ?_
  refine lv_bipush (v := nI 8) hx hb dX_init_13 (by decide) ?_
  refine va_newa (atype := .int) (ty := .int) (n := nI 8) (N' := 8) (a0 := (8, .inl (fun _ => nI 0))) hx hb (hw _ w1_38) rfl hK hP hD hS hA (fun _ => rfl) (by decide) (by decide) (Nat.le_of_ble_eq_true rfl) (Nat.le_of_ble_eq_true rfl) (Nat.le_of_ble_eq_true rfl) dX_init_15 (fun a2 cB H hK hP hD hS => ?_)
  have hcc := ty_eq hK (i := 0) (j := 1) rfl rfl
  subst hcc
  have hK := hK.sub [0] (tys' := [(cA, .int)]) rfl
  have hP : va_P D vwCl [(h, .inr (0, [.ref a1, .int 0, .null, .null, .null, .int 0])), (a1, .inl (cA, 8, .inl (fun _ => nI 0))), (a2, .inl (cA, 8, .inl (fun _ => nI 0)))] H := hP
  have hD : va_D A [(h, .inr (0, [.ref a1, .int 0, .null, .null, .null, .int 0])), (a1, .inl (cA, 8, .inl (fun _ => nI 0))), (a2, .inl (cA, 8, .inl (fun _ => nI 0)))] := hD
  refine va_putF (ci := 0) (v := .ref a2) (C := RX) (T := TX) (N := 6) hx hb hw uX tyX tyX_ok nmX hown hK hP hD hS 0 rfl rfl 2 (by decide) (hw _ w1_21) (fun _ h9 => h9) rfl hin rfl (tyX_ok 2 (by decide)) rfl rfl (Nat.le_of_ble_eq_true rfl) dX_init_17 (fun H locs hP hD hS => ?_)
  have hP : va_P D vwCl [(h, .inr (0, [.ref a1, .int 0, .ref a2, .null, .null, .int 0])), (a1, .inl (cA, 8, .inl (fun _ => nI 0))), (a2, .inl (cA, 8, .inl (fun _ => nI 0)))] H := hP
  have hD : va_D A [(h, .inr (0, [.ref a1, .int 0, .ref a2, .null, .null, .int 0])), (a1, .inl (cA, 8, .inl (fun _ => nI 0))), (a2, .inl (cA, 8, .inl (fun _ => nI 0)))] := hD
  refine lv_aload_n hx hb dX_init_20 rfl (lv_at hl 0 rfl) ?_
  refine lv_bipush (v := nI 8) hx hb dX_init_21 (by decide) ?_
  refine va_newa (atype := .int) (ty := .int) (n := nI 8) (N' := 8) (a0 := (8, .inl (fun _ => nI 0))) hx hb (hw _ w1_38) rfl hK hP hD hS hA (fun _ => rfl) (by decide) (by decide) (Nat.le_of_ble_eq_true rfl) (Nat.le_of_ble_eq_true rfl) (Nat.le_of_ble_eq_true rfl) dX_init_23 (fun a3 cB H hK hP hD hS => ?_)
  have hcc := ty_eq hK (i := 0) (j := 1) rfl rfl
  subst hcc
  have hK := hK.sub [0] (tys' := [(cA, .int)]) rfl
  have hP : va_P D vwCl [(h, .inr (0, [.ref a1, .int 0, .ref a2, .null, .null, .int 0])), (a1, .inl (cA, 8, .inl (fun _ => nI 0))), (a2, .inl (cA, 8, .inl (fun _ => nI 0))), (a3, .inl (cA, 8, .inl (fun _ => nI 0)))] H := hP
  have hD : va_D A [(h, .inr (0, [.ref a1, .int 0, .ref a2, .null, .null, .int 0])), (a1, .inl (cA, 8, .inl (fun _ => nI 0))), (a2, .inl (cA, 8, .inl (fun _ => nI 0))), (a3, .inl (cA, 8, .inl (fun _ => nI 0)))] := hD
  refine va_putF (ci := 0) (v := .ref a3) (C := RX) (T := TX) (N := 6) hx hb hw uX tyX tyX_ok nmX hown hK hP hD hS 0 rfl rfl 3 (by decide) (hw _ w1_22) (fun _ h9 => h9) rfl hin rfl (tyX_ok 3 (by decide)) rfl rfl (Nat.le_of_ble_eq_true rfl) dX_init_25 (fun H locs hP hD hS => ?_)
  have hP : va_P D vwCl [(h, .inr (0, [.ref a1, .int 0, .ref a2, .ref a3, .null, .int 0])), (a1, .inl (cA, 8, .inl (fun _ => nI 0))), (a2, .inl (cA, 8, .inl (fun _ => nI 0))), (a3, .inl (cA, 8, .inl (fun _ => nI 0)))] H := hP
  have hD : va_D A [(h, .inr (0, [.ref a1, .int 0, .ref a2, .ref a3, .null, .int 0])), (a1, .inl (cA, 8, .inl (fun _ => nI 0))), (a2, .inl (cA, 8, .inl (fun _ => nI 0))), (a3, .inl (cA, 8, .inl (fun _ => nI 0)))] := hD
  refine lv_aload_n hx hb dX_init_28 rfl (lv_at hl 0 rfl) ?_
  refine lv_bipush (v := nI 16) hx hb dX_init_29 (by decide) ?_
  refine va_newa (atype := .int) (ty := .int) (n := nI 16) (N' := 16) (a0 := (16, .inl (fun _ => nI 0))) hx hb (hw _ w1_38) rfl hK hP hD hS hA (fun _ => rfl) (by decide) (by decide) (Nat.le_of_ble_eq_true rfl) (Nat.le_of_ble_eq_true rfl) (Nat.le_of_ble_eq_true rfl) dX_init_31 (fun a4 cB H hK hP hD hS => ?_)
  have hcc := ty_eq hK (i := 0) (j := 1) rfl rfl
  subst hcc
  have hK := hK.sub [0] (tys' := [(cA, .int)]) rfl
  have hP : va_P D vwCl [(h, .inr (0, [.ref a1, .int 0, .ref a2, .ref a3, .null, .int 0])), (a1, .inl (cA, 8, .inl (fun _ => nI 0))), (a2, .inl (cA, 8, .inl (fun _ => nI 0))), (a3, .inl (cA, 8, .inl (fun _ => nI 0))), (a4, .inl (cA, 16, .inl (fun _ => nI 0)))] H := hP
  have hD : va_D A [(h, .inr (0, [.ref a1, .int 0, .ref a2, .ref a3, .null, .int 0])), (a1, .inl (cA, 8, .inl (fun _ => nI 0))), (a2, .inl (cA, 8, .inl (fun _ => nI 0))), (a3, .inl (cA, 8, .inl (fun _ => nI 0))), (a4, .inl (cA, 16, .inl (fun _ => nI 0)))] := hD
  refine va_putF (ci := 0) (v := .ref a4) (C := RX) (T := TX) (N := 6) hx hb hw uX tyX tyX_ok nmX hown hK hP hD hS 0 rfl rfl 4 (by decide) (hw _ w1_23) (fun _ h9 => h9) rfl hin rfl (tyX_ok 4 (by decide)) rfl rfl (Nat.le_of_ble_eq_true rfl) dX_init_33 (fun H locs hP hD hS => ?_)
  have hP : va_P D vwCl [(h, .inr (0, [.ref a1, .int 0, .ref a2, .ref a3, .ref a4, .int 0])), (a1, .inl (cA, 8, .inl (fun _ => nI 0))), (a2, .inl (cA, 8, .inl (fun _ => nI 0))), (a3, .inl (cA, 8, .inl (fun _ => nI 0))), (a4, .inl (cA, 16, .inl (fun _ => nI 0)))] H := hP
  have hD : va_D A [(h, .inr (0, [.ref a1, .int 0, .ref a2, .ref a3, .ref a4, .int 0])), (a1, .inl (cA, 8, .inl (fun _ => nI 0))), (a2, .inl (cA, 8, .inl (fun _ => nI 0))), (a3, .inl (cA, 8, .inl (fun _ => nI 0))), (a4, .inl (cA, 16, .inl (fun _ => nI 0)))] := hD
  refine lv_aload_n hx hb dX_init_36 rfl (lv_at hl 0 rfl) ?_
  refine lv_iconst (v := nI 0) hx hb dX_init_37 (by decide) ?_
  refine va_put (ci := 0) (v := .int (nI 0)) (C := RX) (T := TX) (N := 6) hx hb hw uX tyX tyX_ok nmX hown hK hP hD hS 0 rfl rfl 1 (by decide) (hw _ w1_20) (fun _ h9 => h9) rfl (tyX_ok 1 (by decide)) rfl rfl (Nat.le_of_ble_eq_true rfl) dX_init_38 (fun H locs hP hD hS => ?_)
  have hP : va_P D vwCl [(h, .inr (0, [.ref a1, .int (nI 0), .ref a2, .ref a3, .ref a4, .int 0])), (a1, .inl (cA, 8, .inl (fun _ => nI 0))), (a2, .inl (cA, 8, .inl (fun _ => nI 0))), (a3, .inl (cA, 8, .inl (fun _ => nI 0))), (a4, .inl (cA, 16, .inl (fun _ => nI 0)))] H := hP
  have hD : va_D A [(h, .inr (0, [.ref a1, .int (nI 0), .ref a2, .ref a3, .ref a4, .int 0])), (a1, .inl (cA, 8, .inl (fun _ => nI 0))), (a2, .inl (cA, 8, .inl (fun _ => nI 0))), (a3, .inl (cA, 8, .inl (fun _ => nI 0))), (a4, .inl (cA, 16, .inl (fun _ => nI 0)))] := hD
  refine lv_aload_n hx hb dX_init_41 rfl (lv_at hl 0 rfl) ?_
  refine lv_iconst (v := nI 0) hx hb dX_init_42 (by decide) ?_
  refine va_put (ci := 0) (v := .int (nI 0)) (C := RX) (T := TX) (N := 6) hx hb hw uX tyX tyX_ok nmX hown hK hP hD hS 0 rfl rfl 5 (by decide) (hw _ w1_24) (fun _ h9 => h9) rfl (tyX_ok 5 (by decide)) rfl rfl (Nat.le_of_ble_eq_true rfl) dX_init_43 (fun H locs hP hD hS => ?_)
  have hP : va_P D vwCl [(h, .inr (0, [.ref a1, .int (nI 0), .ref a2, .ref a3, .ref a4, .int (nI 0)])), (a1, .inl (cA, 8, .inl (fun _ => nI 0))), (a2, .inl (cA, 8, .inl (fun _ => nI 0))), (a3, .inl (cA, 8, .inl (fun _ => nI 0))), (a4, .inl (cA, 16, .inl (fun _ => nI 0)))] H := hP
  have hD : va_D A [(h, .inr (0, [.ref a1, .int (nI 0), .ref a2, .ref a3, .ref a4, .int (nI 0)])), (a1, .inl (cA, 8, .inl (fun _ => nI 0))), (a2, .inl (cA, 8, .inl (fun _ => nI 0))), (a3, .inl (cA, 8, .inl (fun _ => nI 0))), (a4, .inl (cA, 16, .inl (fun _ => nI 0)))] := hD
  exact W.vret hx hb hr (fun t ht hW => ⟨⟨(a1, a2, a3, a4, cA), rfl, trivial, by rw [ht]; exact hP, va_K.moved hW.alike hK, hD⟩, hS.F ht⟩) hS.2.2 dX_init_46

set_option maxHeartbeats 4000000 in
set_option maxRecDepth 100000 in
theorem cM_init_c (l : Launch) (D : va_G) (A : Nat → Prop) (h : Nat) : Met l yM_init (Cond.code yM_init cM_init 1 none :: bw) ({ frames := 3, cells := 5, slots := 97, locals := 120 }) (va_Pc [.ref h] (fun U => gW D vwCl A [(h, .inr (1, [.int 0, .null, .int 0, .null, .null, .null, .null]))] [] U ∧ ∀ q : Nat, U.heap.size ≤ q → A q)) (va_Qv (fun _ : Nat × Nat × Nat × Nat × Nat × ClassId => True) (fun u => gW D vwCl A [(h, .inr (1, [.int (nI 0), .ref u.1, .int (nI 0), .ref u.2.1, .ref u.2.2.1, .ref u.2.2.2.1, .ref u.2.2.2.2.1])), (u.1, .inl (u.2.2.2.2.2, 64, .inl (fun _ => nI 0))), (u.2.1, .inl (u.2.2.2.2.2, 8, .inl (fun _ => nI 0))), (u.2.2.1, .inl (u.2.2.2.2.2, 8, .inl (fun _ => nI 0))), (u.2.2.2.1, .inl (u.2.2.2.2.2, 8, .inl (fun _ => nI 0))), (u.2.2.2.2.1, .inl (u.2.2.2.2.2, 9, .inl (fun _ => nI 0)))] [(u.2.2.2.2.2, .int)]) A) 5 97 A := by
  refine Met.ofW (cc := cM_init) (maxL := 1) (ret := none) (by decide) rfl ?_
  intro p e s m args below meth c s₁ B9 hml hv
  obtain ⟨rfl, ⟨hP, hK, hD⟩, hA⟩ := hv
  have hx := B9.exec
  have hb := B9.bytes
  have hr := B9.returns
  have hts := atoms_spec (ws := (Cond.code yM_init cM_init 1 none :: bw)) B9.pre
  have hw : ∀ w ∈ bw, w.before _ s = true := fun w h => hts w (List.mem_cons_of_mem _ h)
  have hown : s.vm.findClass RM = some m.cls := findClass_of_methodNamed B9.named
  have hlocks := B9.notSynchronized
  have hl := lv_entry ([.ref h]) (n := 1) (Nat.le_of_ble_eq_true rfl)
  rw [lg_entry_eq]
  generalize (lg_sl ([.ref h]) ++ List.replicate (1 - (lg_sl ([.ref h])).length) Slot.unset).toArray = ls at hl ⊢
  have hl : lv_has ls 1 [(0, .ref h)] := hl
  have hin : meth.name = "<init>" := (name_of_methodNamed B9.named B9.method).1
  have hS : va_S A s.heap s.heap [] := va_S.rf
  refine lv_aload_n hx hb dM_init_0 rfl (lv_at hl 0 rfl) ?_
  refine W.objInit hx hb hown (hw _ w2_97) (hw _ w1_17) (hw _ w1_18) rfl (by rw [hml]; exact hl.1) rfl dM_init_1 (Nat.le_of_ble_eq_true rfl) (Nat.le_of_ble_eq_true rfl) ?_
  refine W.eq (g2 := F0 m 4 ls []) rfl ?_
  refine lv_aload_n hx hb dM_init_4 rfl (lv_at hl 0 rfl) ?_
  refine lv_bipush (v := nI 64) hx hb dM_init_5 (by decide) ?_
  refine va_newa (atype := .int) (ty := .int) (n := nI 64) (N' := 64) (a0 := (64, .inl (fun _ => nI 0))) hx hb (hw _ w1_38) rfl hK hP hD hS hA (fun _ => rfl) (by decide) (by decide) (Nat.le_of_ble_eq_true rfl) (Nat.le_of_ble_eq_true rfl) (Nat.le_of_ble_eq_true rfl) dM_init_7 (fun b1 cA H hK hP hD hS => ?_)
  have hP : va_P D vwCl [(h, .inr (1, [.int 0, .null, .int 0, .null, .null, .null, .null])), (b1, .inl (cA, 64, .inl (fun _ => nI 0)))] H := hP
  have hD : va_D A [(h, .inr (1, [.int 0, .null, .int 0, .null, .null, .null, .null])), (b1, .inl (cA, 64, .inl (fun _ => nI 0)))] := hD
  refine va_put (ci := 1) (v := .ref b1) (C := RM) (T := TM) (N := 7) hx hb hw uM tyM tyM_ok nmM hown hK hP hD hS 0 rfl rfl 1 (by decide) (hw _ w2_99) (fun _ h9 => h9) rfl (tyM_ok 1 (by decide)) rfl rfl (Nat.le_of_ble_eq_true rfl) dM_init_9 (fun H locs hP hD hS => ?_)
  have hP : va_P D vwCl [(h, .inr (1, [.int 0, .ref b1, .int 0, .null, .null, .null, .null])), (b1, .inl (cA, 64, .inl (fun _ => nI 0)))] H := hP
  have hD : va_D A [(h, .inr (1, [.int 0, .ref b1, .int 0, .null, .null, .null, .null])), (b1, .inl (cA, 64, .inl (fun _ => nI 0)))] := hD
  refine lv_aload_n hx hb dM_init_12 rfl (lv_at hl 0 rfl) ?_
  refine lv_bipush (v := nI 8) hx hb dM_init_13 (by decide) ?_
  refine va_newa (atype := .int) (ty := .int) (n := nI 8) (N' := 8) (a0 := (8, .inl (fun _ => nI 0))) hx hb (hw _ w1_38) rfl hK hP hD hS hA (fun _ => rfl) (by decide) (by decide) (Nat.le_of_ble_eq_true rfl) (Nat.le_of_ble_eq_true rfl) (Nat.le_of_ble_eq_true rfl) dM_init_15 (fun b2 cB H hK hP hD hS => ?_)
  have hcc := ty_eq hK (i := 0) (j := 1) rfl rfl
  subst hcc
  have hK := hK.sub [0] (tys' := [(cA, .int)]) rfl
  have hP : va_P D vwCl [(h, .inr (1, [.int 0, .ref b1, .int 0, .null, .null, .null, .null])), (b1, .inl (cA, 64, .inl (fun _ => nI 0))), (b2, .inl (cA, 8, .inl (fun _ => nI 0)))] H := hP
  have hD : va_D A [(h, .inr (1, [.int 0, .ref b1, .int 0, .null, .null, .null, .null])), (b1, .inl (cA, 64, .inl (fun _ => nI 0))), (b2, .inl (cA, 8, .inl (fun _ => nI 0)))] := hD
  refine va_put (ci := 1) (v := .ref b2) (C := RM) (T := TM) (N := 7) hx hb hw uM tyM tyM_ok nmM hown hK hP hD hS 0 rfl rfl 3 (by decide) (hw _ w2_101) (fun _ h9 => h9) rfl (tyM_ok 3 (by decide)) rfl rfl (Nat.le_of_ble_eq_true rfl) dM_init_17 (fun H locs hP hD hS => ?_)
  have hP : va_P D vwCl [(h, .inr (1, [.int 0, .ref b1, .int 0, .ref b2, .null, .null, .null])), (b1, .inl (cA, 64, .inl (fun _ => nI 0))), (b2, .inl (cA, 8, .inl (fun _ => nI 0)))] H := hP
  have hD : va_D A [(h, .inr (1, [.int 0, .ref b1, .int 0, .ref b2, .null, .null, .null])), (b1, .inl (cA, 64, .inl (fun _ => nI 0))), (b2, .inl (cA, 8, .inl (fun _ => nI 0)))] := hD
  refine lv_aload_n hx hb dM_init_20 rfl (lv_at hl 0 rfl) ?_
  refine lv_bipush (v := nI 8) hx hb dM_init_21 (by decide) ?_
  refine va_newa (atype := .int) (ty := .int) (n := nI 8) (N' := 8) (a0 := (8, .inl (fun _ => nI 0))) hx hb (hw _ w1_38) rfl hK hP hD hS hA (fun _ => rfl) (by decide) (by decide) (Nat.le_of_ble_eq_true rfl) (Nat.le_of_ble_eq_true rfl) (Nat.le_of_ble_eq_true rfl) dM_init_23 (fun b3 cB H hK hP hD hS => ?_)
  have hcc := ty_eq hK (i := 0) (j := 1) rfl rfl
  subst hcc
  have hK := hK.sub [0] (tys' := [(cA, .int)]) rfl
  have hP : va_P D vwCl [(h, .inr (1, [.int 0, .ref b1, .int 0, .ref b2, .null, .null, .null])), (b1, .inl (cA, 64, .inl (fun _ => nI 0))), (b2, .inl (cA, 8, .inl (fun _ => nI 0))), (b3, .inl (cA, 8, .inl (fun _ => nI 0)))] H := hP
  have hD : va_D A [(h, .inr (1, [.int 0, .ref b1, .int 0, .ref b2, .null, .null, .null])), (b1, .inl (cA, 64, .inl (fun _ => nI 0))), (b2, .inl (cA, 8, .inl (fun _ => nI 0))), (b3, .inl (cA, 8, .inl (fun _ => nI 0)))] := hD
  refine va_put (ci := 1) (v := .ref b3) (C := RM) (T := TM) (N := 7) hx hb hw uM tyM tyM_ok nmM hown hK hP hD hS 0 rfl rfl 4 (by decide) (hw _ w2_102) (fun _ h9 => h9) rfl (tyM_ok 4 (by decide)) rfl rfl (Nat.le_of_ble_eq_true rfl) dM_init_25 (fun H locs hP hD hS => ?_)
  have hP : va_P D vwCl [(h, .inr (1, [.int 0, .ref b1, .int 0, .ref b2, .ref b3, .null, .null])), (b1, .inl (cA, 64, .inl (fun _ => nI 0))), (b2, .inl (cA, 8, .inl (fun _ => nI 0))), (b3, .inl (cA, 8, .inl (fun _ => nI 0)))] H := hP
  have hD : va_D A [(h, .inr (1, [.int 0, .ref b1, .int 0, .ref b2, .ref b3, .null, .null])), (b1, .inl (cA, 64, .inl (fun _ => nI 0))), (b2, .inl (cA, 8, .inl (fun _ => nI 0))), (b3, .inl (cA, 8, .inl (fun _ => nI 0)))] := hD
  refine lv_aload_n hx hb dM_init_28 rfl (lv_at hl 0 rfl) ?_
  refine lv_bipush (v := nI 8) hx hb dM_init_29 (by decide) ?_
  refine va_newa (atype := .int) (ty := .int) (n := nI 8) (N' := 8) (a0 := (8, .inl (fun _ => nI 0))) hx hb (hw _ w1_38) rfl hK hP hD hS hA (fun _ => rfl) (by decide) (by decide) (Nat.le_of_ble_eq_true rfl) (Nat.le_of_ble_eq_true rfl) (Nat.le_of_ble_eq_true rfl) dM_init_31 (fun b4 cB H hK hP hD hS => ?_)
  have hcc := ty_eq hK (i := 0) (j := 1) rfl rfl
  subst hcc
  have hK := hK.sub [0] (tys' := [(cA, .int)]) rfl
  have hP : va_P D vwCl [(h, .inr (1, [.int 0, .ref b1, .int 0, .ref b2, .ref b3, .null, .null])), (b1, .inl (cA, 64, .inl (fun _ => nI 0))), (b2, .inl (cA, 8, .inl (fun _ => nI 0))), (b3, .inl (cA, 8, .inl (fun _ => nI 0))), (b4, .inl (cA, 8, .inl (fun _ => nI 0)))] H := hP
  have hD : va_D A [(h, .inr (1, [.int 0, .ref b1, .int 0, .ref b2, .ref b3, .null, .null])), (b1, .inl (cA, 64, .inl (fun _ => nI 0))), (b2, .inl (cA, 8, .inl (fun _ => nI 0))), (b3, .inl (cA, 8, .inl (fun _ => nI 0))), (b4, .inl (cA, 8, .inl (fun _ => nI 0)))] := hD
  refine va_put (ci := 1) (v := .ref b4) (C := RM) (T := TM) (N := 7) hx hb hw uM tyM tyM_ok nmM hown hK hP hD hS 0 rfl rfl 5 (by decide) (hw _ w2_103) (fun _ h9 => h9) rfl (tyM_ok 5 (by decide)) rfl rfl (Nat.le_of_ble_eq_true rfl) dM_init_33 (fun H locs hP hD hS => ?_)
  have hP : va_P D vwCl [(h, .inr (1, [.int 0, .ref b1, .int 0, .ref b2, .ref b3, .ref b4, .null])), (b1, .inl (cA, 64, .inl (fun _ => nI 0))), (b2, .inl (cA, 8, .inl (fun _ => nI 0))), (b3, .inl (cA, 8, .inl (fun _ => nI 0))), (b4, .inl (cA, 8, .inl (fun _ => nI 0)))] H := hP
  have hD : va_D A [(h, .inr (1, [.int 0, .ref b1, .int 0, .ref b2, .ref b3, .ref b4, .null])), (b1, .inl (cA, 64, .inl (fun _ => nI 0))), (b2, .inl (cA, 8, .inl (fun _ => nI 0))), (b3, .inl (cA, 8, .inl (fun _ => nI 0))), (b4, .inl (cA, 8, .inl (fun _ => nI 0)))] := hD
  refine lv_aload_n hx hb dM_init_36 rfl (lv_at hl 0 rfl) ?_
  refine lv_bipush (v := nI 9) hx hb dM_init_37 (by decide) ?_
  refine va_newa (atype := .int) (ty := .int) (n := nI 9) (N' := 9) (a0 := (9, .inl (fun _ => nI 0))) hx hb (hw _ w1_38) rfl hK hP hD hS hA (fun _ => rfl) (by decide) (by decide) (Nat.le_of_ble_eq_true rfl) (Nat.le_of_ble_eq_true rfl) (Nat.le_of_ble_eq_true rfl) dM_init_39 (fun b5 cB H hK hP hD hS => ?_)
  have hcc := ty_eq hK (i := 0) (j := 1) rfl rfl
  subst hcc
  have hK := hK.sub [0] (tys' := [(cA, .int)]) rfl
  have hP : va_P D vwCl [(h, .inr (1, [.int 0, .ref b1, .int 0, .ref b2, .ref b3, .ref b4, .null])), (b1, .inl (cA, 64, .inl (fun _ => nI 0))), (b2, .inl (cA, 8, .inl (fun _ => nI 0))), (b3, .inl (cA, 8, .inl (fun _ => nI 0))), (b4, .inl (cA, 8, .inl (fun _ => nI 0))), (b5, .inl (cA, 9, .inl (fun _ => nI 0)))] H := hP
  have hD : va_D A [(h, .inr (1, [.int 0, .ref b1, .int 0, .ref b2, .ref b3, .ref b4, .null])), (b1, .inl (cA, 64, .inl (fun _ => nI 0))), (b2, .inl (cA, 8, .inl (fun _ => nI 0))), (b3, .inl (cA, 8, .inl (fun _ => nI 0))), (b4, .inl (cA, 8, .inl (fun _ => nI 0))), (b5, .inl (cA, 9, .inl (fun _ => nI 0)))] := hD
  refine va_put (ci := 1) (v := .ref b5) (C := RM) (T := TM) (N := 7) hx hb hw uM tyM tyM_ok nmM hown hK hP hD hS 0 rfl rfl 6 (by decide) (hw _ w2_104) (fun _ h9 => h9) rfl (tyM_ok 6 (by decide)) rfl rfl (Nat.le_of_ble_eq_true rfl) dM_init_41 (fun H locs hP hD hS => ?_)
  have hP : va_P D vwCl [(h, .inr (1, [.int 0, .ref b1, .int 0, .ref b2, .ref b3, .ref b4, .ref b5])), (b1, .inl (cA, 64, .inl (fun _ => nI 0))), (b2, .inl (cA, 8, .inl (fun _ => nI 0))), (b3, .inl (cA, 8, .inl (fun _ => nI 0))), (b4, .inl (cA, 8, .inl (fun _ => nI 0))), (b5, .inl (cA, 9, .inl (fun _ => nI 0)))] H := hP
  have hD : va_D A [(h, .inr (1, [.int 0, .ref b1, .int 0, .ref b2, .ref b3, .ref b4, .ref b5])), (b1, .inl (cA, 64, .inl (fun _ => nI 0))), (b2, .inl (cA, 8, .inl (fun _ => nI 0))), (b3, .inl (cA, 8, .inl (fun _ => nI 0))), (b4, .inl (cA, 8, .inl (fun _ => nI 0))), (b5, .inl (cA, 9, .inl (fun _ => nI 0)))] := hD
  exact W.vret hx hb hr (fun t ht hW => ⟨⟨(b1, b2, b3, b4, b5, cA), rfl, trivial, by rw [ht]; exact hP, va_K.moved hW.alike hK, hD⟩, hS.F ht⟩) hS.2.2 dM_init_44
