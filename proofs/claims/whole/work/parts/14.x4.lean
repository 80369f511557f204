theorem nb_max {x y : Nat} (hx : x < 2 ^ 31) (hy : y < 2 ^ 31) : (if nI x < nI y then nI y else nI x) = nI (max x y) := by
  by_cases h : x < y
  · rw [if_pos ((nI_ltI hx hy).mpr h), Nat.max_eq_right (by omega)]
  · rw [if_neg (fun h2 => h ((nI_ltI hx hy).mp h2)), Nat.max_eq_left (by omega)]
theorem nb_min {x y : Nat} (hx : x < 2 ^ 31) (hy : y < 2 ^ 31) : (if nI y < nI x then nI y else nI x) = nI (min x y) := by
  by_cases h : y < x
  · rw [if_pos ((nI_ltI hy hx).mpr h), Nat.min_eq_right (by omega)]
  · rw [if_neg (fun h2 => h ((nI_ltI hy hx).mp h2)), Nat.min_eq_left (by omega)]
section NM9
variable {p : Program} {l : Launch} {e : Env} {R : Room} {s : State} {m : MethodId} {args : Array Value} {below : List Frame} {meth : Method} {c : Code} {H : Heap} {locs : List Loc} {cells slots : Nat} {Q : State → Prop}
variable {cc : ByteArray} {pc : Nat} {ls : Array Slot} {rest : List Value}
theorem nv_max (hx : p.tables.exec = Jvm.exec) (hb : c.code = cc) (hml : c.maxLocals = ls.size) {own : String} {index : Nat} (hown : s.vm.findClass own = some m.cls) (hlink : (Cond.methodLink own index Lib.Math.max.name).before args s = true) (hstat : (Cond.static Lib.Math.max.name).before args s = true) (hini : (Cond.initialized "java/lang/Math").before args s = true) (hcode : (Cond.code Lib.Math.max.name Lib.Math.max.code 2 (some .int)).before args s = true)
    (hframes : 1 ≤ R.frames) (hlocals : (rest.map fun v => v.category).sum + 13 ≤ R.locals) (hc : cells ≤ R.cells) (hs : slots ≤ R.slots) {x y : Nat} (hx2 : x < 2 ^ 31) (hy2 : y < 2 ^ 31) (hdg : decode cc pc = .ok (.invokestatic index, 3))
    (kk : W p l e R s m args below meth c H locs cells slots Q (F0 m (pc + 3) ls (.int (nI (max x y)) :: rest))) : W p l e R s m args below meth c H locs cells slots Q (F0 m pc ls (.int (nI y) :: .int (nI x) :: rest)) := by
  refine va_mmax hx hb hml hown hlink hstat hini hcode hframes hlocals hc hs hdg ?_
  rw [nb_max hx2 hy2]; exact kk
theorem nv_min (hx : p.tables.exec = Jvm.exec) (hb : c.code = cc) (hml : c.maxLocals = ls.size) {own : String} {index : Nat} (hown : s.vm.findClass own = some m.cls) (hlink : (Cond.methodLink own index Lib.Math.min.name).before args s = true) (hstat : (Cond.static Lib.Math.min.name).before args s = true) (hini : (Cond.initialized "java/lang/Math").before args s = true) (hcode : (Cond.code Lib.Math.min.name Lib.Math.min.code 2 (some .int)).before args s = true)
    (hframes : 1 ≤ R.frames) (hlocals : (rest.map fun v => v.category).sum + 13 ≤ R.locals) (hc : cells ≤ R.cells) (hs : slots ≤ R.slots) {x y : Nat} (hx2 : x < 2 ^ 31) (hy2 : y < 2 ^ 31) (hdg : decode cc pc = .ok (.invokestatic index, 3))
    (kk : W p l e R s m args below meth c H locs cells slots Q (F0 m (pc + 3) ls (.int (nI (min x y)) :: rest))) : W p l e R s m args below meth c H locs cells slots Q (F0 m pc ls (.int (nI y) :: .int (nI x) :: rest)) := by
  refine va_mmin hx hb hml hown hlink hstat hini hcode hframes hlocals hc hs hdg ?_
  rw [nb_min hx2 hy2]; exact kk
end NM9

set_option maxHeartbeats 4000000 in
set_option maxRecDepth 100000 in
theorem cX_fits_c (l : Launch) (D : va_G) (A : Nat → Prop) (h a1 a2 a3 a4 : Nat) (cA : ClassId) (n us : Nat) (nb lo hi ho : Nat → Nat) (a b sh : Nat) (ha : a < 16) (hb9 : b < 16) (h1 : ho a < 256) (h2 : ho b < 256) (h3 : sh < 2 ^ 31) : Rd l yX_fits (Cond.code yX_fits cX_fits 4 (some FieldType.boolean) :: bw) (rmL 1) [.ref h, .int (nI a), .int (nI b), .int (nI sh)] (gB D vwCl [(h, .inr (0, [.ref a1, .int (nI n), .ref a2, .ref a3, .ref a4, .int (nI us)])), (a1, .inl (cA, 8, .inl (fun j => nI (nb j)))), (a2, .inl (cA, 8, .inl (fun j => nI (lo j)))), (a3, .inl (cA, 8, .inl (fun j => nI (hi j)))), (a4, .inl (cA, 16, .inl (fun j => nI (ho j))))] [(cA, .int)]) ((bI (decide (ho a ||| ho b = sh) && decide (ho a &&& ho b = 0)))) := by
  refine Met.ofW (cc := cX_fits) (maxL := 4) (ret := (some FieldType.boolean)) (by decide) rfl ?_
  intro p e s m args below meth c s₁ B9 hml hv
  obtain ⟨rfl, hP, hK⟩ := hv
  have hx := B9.exec
  have hb := B9.bytes
  have hr := B9.returns
  have hts := atoms_spec (ws := (Cond.code yX_fits cX_fits 4 (some FieldType.boolean) :: bw)) B9.pre
  have hw : ∀ w ∈ bw, w.before _ s = true := fun w h => hts w (List.mem_cons_of_mem _ h)
  have hown : s.vm.findClass RX = some m.cls := findClass_of_methodNamed B9.named
  have hlocks := B9.notSynchronized
  have hl := lv_entry ([.ref h, .int (nI a), .int (nI b), .int (nI sh)]) (n := 4) (Nat.le_of_ble_eq_true rfl)
  rw [lg_entry_eq]
  generalize (lg_sl ([.ref h, .int (nI a), .int (nI b), .int (nI sh)]) ++ List.replicate (4 - (lg_sl ([.ref h, .int (nI a), .int (nI b), .int (nI sh)])).length) Slot.unset).toArray = ls at hl ⊢
  have hl : lv_has ls 4 [(0, .ref h), (1, .int (nI a)), (2, .int (nI b)), (3, .int (nI sh))] := hl
  have hq1 := or_8 h1 h2
  have hq2 : ho a &&& ho b < 256 := and_lt h1
  refine lv_aload_n hx hb dX_fits_0 rfl (lv_at hl 0 rfl) ?_
  refine va_get (D := D) (ci := 0) (v := .ref a4) (C := RX) (T := TX) (N := 6) hx hb hw uX hown hK hP 0 rfl rfl 4 (by decide) (hw _ w1_23) (fun _ h9 => h9) rfl dX_fits_1 ?_
  refine lv_iload_n hx hb dX_fits_4 rfl (lv_at hl 1 rfl) ?_
  refine nv_iald (i := a) (f := ho) hx hb hK hP 4 0 rfl rfl (by omega) (by omega) dX_fits_5 ?_
  refine lv_aload_n hx hb dX_fits_6 rfl (lv_at hl 0 rfl) ?_
  refine va_get (D := D) (ci := 0) (v := .ref a4) (C := RX) (T := TX) (N := 6) hx hb hw uX hown hK hP 0 rfl rfl 4 (by decide) (hw _ w1_23) (fun _ h9 => h9) rfl dX_fits_7 ?_
  refine lv_iload_n hx hb dX_fits_10 rfl (lv_at hl 2 rfl) ?_
  refine nv_iald (i := b) (f := ho) hx hb hK hP 4 0 rfl rfl (by omega) (by omega) dX_fits_11 ?_
  refine nv_ior (x := ho a) (y := ho b) hx hb dX_fits_12 ?_
  refine lv_iload_n hx hb dX_fits_13 rfl (lv_at hl 3 rfl) ?_
  refine nv_icmp_ne (x := (ho a) ||| (ho b)) (y := sh) (tgt := 37) hx hb dX_fits_14 rfl (by omega) (by omega) (fun hc14 => ?_) (fun hc14 => ?_)
  · refine lv_iconst (v := nI 0) hx hb dX_fits_37 (by decide) ?_
    exact W.zret (v := (nI 0)) hx hb hr rfl (fun t ht hW => ⟨by first | (rw [decide_eq_false hc14]; rfl) | (rw [decide_eq_false hc30, Bool.and_false]; rfl), ht⟩) (fun q h => by cases h) dX_fits_38
  · refine lv_aload_n hx hb dX_fits_17 rfl (lv_at hl 0 rfl) ?_
    refine va_get (D := D) (ci := 0) (v := .ref a4) (C := RX) (T := TX) (N := 6) hx hb hw uX hown hK hP 0 rfl rfl 4 (by decide) (hw _ w1_23) (fun _ h9 => h9) rfl dX_fits_18 ?_
    refine lv_iload_n hx hb dX_fits_21 rfl (lv_at hl 1 rfl) ?_
    refine nv_iald (i := a) (f := ho) hx hb hK hP 4 0 rfl rfl (by omega) (by omega) dX_fits_22 ?_
    refine lv_aload_n hx hb dX_fits_23 rfl (lv_at hl 0 rfl) ?_
    refine va_get (D := D) (ci := 0) (v := .ref a4) (C := RX) (T := TX) (N := 6) hx hb hw uX hown hK hP 0 rfl rfl 4 (by decide) (hw _ w1_23) (fun _ h9 => h9) rfl dX_fits_24 ?_
    refine lv_iload_n hx hb dX_fits_27 rfl (lv_at hl 2 rfl) ?_
    refine nv_iald (i := b) (f := ho) hx hb hK hP 4 0 rfl rfl (by omega) (by omega) dX_fits_28 ?_
    refine nv_iand (x := ho a) (y := ho b) hx hb dX_fits_29 ?_
    refine nv_if_ne (x := (ho a) &&& (ho b)) (tgt := 37) hx hb dX_fits_30 rfl (by omega) (fun hc30 => ?_) (fun hc30 => ?_)
    · refine lv_iconst (v := nI 0) hx hb dX_fits_37 (by decide) ?_
      exact W.zret (v := (nI 0)) hx hb hr rfl (fun t ht hW => ⟨by first | (rw [decide_eq_false hc14]; rfl) | (rw [decide_eq_false hc30, Bool.and_false]; rfl), ht⟩) (fun q h => by cases h) dX_fits_38
    · refine lv_iconst (v := nI 1) hx hb dX_fits_33 (by decide) ?_
      refine lv_goto (tgt := 38) hx hb dX_fits_34 rfl ?_
      exact W.zret (v := (nI 1)) hx hb hr rfl (fun t ht hW => ⟨by rw [decide_eq_true hc14, decide_eq_true hc30]; rfl, ht⟩) (fun q h => by cases h) dX_fits_38

set_option maxHeartbeats 4000000 in
set_option maxRecDepth 100000 in
theorem cX_give_c (l : Launch) (D : va_G) (A : Nat → Prop) (h a1 a2 a3 a4 : Nat) (cA : ClassId) (n us : Nat) (nb lo hi ho : Nat → Nat) (v a b : Nat) (hv : v < 8) (ha : a < 16) (hb9 : b < 16) (hu : us ≤ 16) : Met l yX_give (Cond.code yX_give cX_give 4 none :: bw) (rmL 2) (va_Pc [.ref h, .int (nI v), .int (nI a), .int (nI b)] (gW D vwCl A [(h, .inr (0, [.ref a1, .int (nI n), .ref a2, .ref a3, .ref a4, .int (nI us)])), (a1, .inl (cA, 8, .inl (fun j => nI (nb j)))), (a2, .inl (cA, 8, .inl (fun j => nI (lo j)))), (a3, .inl (cA, 8, .inl (fun j => nI (hi j)))), (a4, .inl (cA, 16, .inl (fun j => nI (ho j))))] [(cA, .int)])) (va_Qv (fun _ : Unit => True) (fun _ => gW D vwCl A [(h, .inr (0, [.ref a1, .int (nI n), .ref a2, .ref a3, .ref a4, .int (nI (max us (b + 1)))])), (a1, .inl (cA, 8, .inl (fun j => nI (nb j)))), (a2, .inl (cA, 8, .inl (fun j => nI ((upN lo v a) j)))), (a3, .inl (cA, 8, .inl (fun j => nI ((upN hi v b) j)))), (a4, .inl (cA, 16, .inl (fun j => nI ((upN (upN ho a (ho a ||| 2 ^ v)) b ((upN ho a (ho a ||| 2 ^ v)) b ||| 2 ^ v)) j))))] [(cA, .int)]) A) 0 0 A := by
  refine Met.ofW (cc := cX_give) (maxL := 4) (ret := none) (by decide) rfl ?_
  intro p e s m args below meth c s₁ B9 hml hv
  obtain ⟨rfl, hP, hK, hD⟩ := hv
  have hx := B9.exec
  have hb := B9.bytes
  have hr := B9.returns
  have hts := atoms_spec (ws := (Cond.code yX_give cX_give 4 none :: bw)) B9.pre
  have hw : ∀ w ∈ bw, w.before _ s = true := fun w h => hts w (List.mem_cons_of_mem _ h)
  have hown : s.vm.findClass RX = some m.cls := findClass_of_methodNamed B9.named
  have hlocks := B9.notSynchronized
  have hl := lv_entry ([.ref h, .int (nI v), .int (nI a), .int (nI b)]) (n := 4) (Nat.le_of_ble_eq_true rfl)
  rw [lg_entry_eq]
  generalize (lg_sl ([.ref h, .int (nI v), .int (nI a), .int (nI b)]) ++ List.replicate (4 - (lg_sl ([.ref h, .int (nI v), .int (nI a), .int (nI b)])).length) Slot.unset).toArray = ls at hl ⊢
  have hl : lv_has ls 4 [(0, .ref h), (1, .int (nI v)), (2, .int (nI a)), (3, .int (nI b))] := hl
  have hS : va_S A s.heap s.heap [] := va_S.rf
  refine lv_aload_n hx hb dX_give_0 rfl (lv_at hl 0 rfl) ?_
  refine va_get (D := D) (ci := 0) (v := .ref a2) (C := RX) (T := TX) (N := 6) hx hb hw uX hown hK hP 0 rfl rfl 2 (by decide) (hw _ w1_21) (fun _ h9 => h9) rfl dX_give_1 ?_
  refine lv_iload_n hx hb dX_give_4 rfl (lv_at hl 1 rfl) ?_
  refine lv_iload_n hx hb dX_give_5 rfl (lv_at hl 2 rfl) ?_
  refine nv_iast (i := v) (x := a) (f := lo) hx hb hK hP hD hS 2 0 rfl rfl (by omega) (by omega) dX_give_6 (fun H locs hP hD hS => ?_)
  have hP : va_P D vwCl [(h, .inr (0, [.ref a1, .int (nI n), .ref a2, .ref a3, .ref a4, .int (nI us)])), (a1, .inl (cA, 8, .inl (fun j => nI (nb j)))), (a2, .inl (cA, 8, .inl (fun j => nI ((upN lo v a) j)))), (a3, .inl (cA, 8, .inl (fun j => nI (hi j)))), (a4, .inl (cA, 16, .inl (fun j => nI (ho j))))] H := hP
  have hD : va_D A [(h, .inr (0, [.ref a1, .int (nI n), .ref a2, .ref a3, .ref a4, .int (nI us)])), (a1, .inl (cA, 8, .inl (fun j => nI (nb j)))), (a2, .inl (cA, 8, .inl (fun j => nI ((upN lo v a) j)))), (a3, .inl (cA, 8, .inl (fun j => nI (hi j)))), (a4, .inl (cA, 16, .inl (fun j => nI (ho j))))] := hD
  refine lv_aload_n hx hb dX_give_7 rfl (lv_at hl 0 rfl) ?_
  refine va_get (D := D) (ci := 0) (v := .ref a3) (C := RX) (T := TX) (N := 6) hx hb hw uX hown hK hP 0 rfl rfl 3 (by decide) (hw _ w1_22) (fun _ h9 => h9) rfl dX_give_8 ?_
  refine lv_iload_n hx hb dX_give_11 rfl (lv_at hl 1 rfl) ?_
  refine lv_iload_n hx hb dX_give_12 rfl (lv_at hl 3 rfl) ?_
  refine nv_iast (i := v) (x := b) (f := hi) hx hb hK hP hD hS 3 0 rfl rfl (by omega) (by omega) dX_give_13 (fun H locs hP hD hS => ?_)
  have hP : va_P D vwCl [(h, .inr (0, [.ref a1, .int (nI n), .ref a2, .ref a3, .ref a4, .int (nI us)])), (a1, .inl (cA, 8, .inl (fun j => nI (nb j)))), (a2, .inl (cA, 8, .inl (fun j => nI ((upN lo v a) j)))), (a3, .inl (cA, 8, .inl (fun j => nI ((upN hi v b) j)))), (a4, .inl (cA, 16, .inl (fun j => nI (ho j))))] H := hP
  have hD : va_D A [(h, .inr (0, [.ref a1, .int (nI n), .ref a2, .ref a3, .ref a4, .int (nI us)])), (a1, .inl (cA, 8, .inl (fun j => nI (nb j)))), (a2, .inl (cA, 8, .inl (fun j => nI ((upN lo v a) j)))), (a3, .inl (cA, 8, .inl (fun j => nI ((upN hi v b) j)))), (a4, .inl (cA, 16, .inl (fun j => nI (ho j))))] := hD
  refine lv_aload_n hx hb dX_give_14 rfl (lv_at hl 0 rfl) ?_
  refine va_get (D := D) (ci := 0) (v := .ref a4) (C := RX) (T := TX) (N := 6) hx hb hw uX hown hK hP 0 rfl rfl 4 (by decide) (hw _ w1_23) (fun _ h9 => h9) rfl dX_give_15 ?_
  refine lv_iload_n hx hb dX_give_18 rfl (lv_at hl 2 rfl) ?_
  refine lv_dup2_11 hx hb dX_give_19 rfl rfl ?_
  refine nv_iald (i := a) (f := ho) hx hb hK hP 4 0 rfl rfl (by omega) (by omega) dX_give_20 ?_
  refine lv_iload_n hx hb dX_give_21 rfl (lv_at hl 1 rfl) ?_
  refine nr_S (As := [.int (nI v)]) (rest := [.int (nI (ho a)), .int (nI a), .ref a4]) ⟨hx, hb, hml, hown, hw⟩ (cX_only_c l v (by omega)) (va_cwS 1 hw (gS2 w1_61 w1_62 w1_1 w1_63) rfl rfl rfl ⟨by decide, by decide, by decide +kernel⟩ ⟨Nat.le_of_ble_eq_true rfl, Nat.le_of_ble_eq_true rfl⟩) gT_blind (gT_at _) rfl hl.1 rfl (Nat.le_of_ble_eq_true rfl) dX_give_22 ⟨Nat.zero_le _, Nat.zero_le _⟩ ?_
  refine nv_ior (x := ho a) (y := 2 ^ v) hx hb dX_give_25 ?_
  refine nv_iast (i := a) (x := (ho a) ||| (2 ^ v)) (f := ho) hx hb hK hP hD hS 4 0 rfl rfl (by omega) (by omega) dX_give_26 (fun H locs hP hD hS => ?_)
  have hP : va_P D vwCl [(h, .inr (0, [.ref a1, .int (nI n), .ref a2, .ref a3, .ref a4, .int (nI us)])), (a1, .inl (cA, 8, .inl (fun j => nI (nb j)))), (a2, .inl (cA, 8, .inl (fun j => nI ((upN lo v a) j)))), (a3, .inl (cA, 8, .inl (fun j => nI ((upN hi v b) j)))), (a4, .inl (cA, 16, .inl (fun j => nI ((upN ho a ((ho a) ||| (2 ^ v))) j))))] H := hP
  have hD : va_D A [(h, .inr (0, [.ref a1, .int (nI n), .ref a2, .ref a3, .ref a4, .int (nI us)])), (a1, .inl (cA, 8, .inl (fun j => nI (nb j)))), (a2, .inl (cA, 8, .inl (fun j => nI ((upN lo v a) j)))), (a3, .inl (cA, 8, .inl (fun j => nI ((upN hi v b) j)))), (a4, .inl (cA, 16, .inl (fun j => nI ((upN ho a ((ho a) ||| (2 ^ v))) j))))] := hD
  refine lv_aload_n hx hb dX_give_27 rfl (lv_at hl 0 rfl) ?_
  refine va_get (D := D) (ci := 0) (v := .ref a4) (C := RX) (T := TX) (N := 6) hx hb hw uX hown hK hP 0 rfl rfl 4 (by decide) (hw _ w1_23) (fun _ h9 => h9) rfl dX_give_28 ?_
  refine lv_iload_n hx hb dX_give_31 rfl (lv_at hl 3 rfl) ?_
  refine lv_dup2_11 hx hb dX_give_32 rfl rfl ?_
  refine nv_iald (i := b) (f := upN ho a ((ho a) ||| (2 ^ v))) hx hb hK hP 4 0 rfl rfl (by omega) (by omega) dX_give_33 ?_
  refine lv_iload_n hx hb dX_give_34 rfl (lv_at hl 1 rfl) ?_
  refine nr_S (As := [.int (nI v)]) (rest := [.int (nI ((upN ho a ((ho a) ||| (2 ^ v))) b)), .int (nI b), .ref a4]) ⟨hx, hb, hml, hown, hw⟩ (cX_only_c l v (by omega)) (va_cwS 1 hw (gS2 w1_61 w1_62 w1_1 w1_63) rfl rfl rfl ⟨by decide, by decide, by decide +kernel⟩ ⟨Nat.le_of_ble_eq_true rfl, Nat.le_of_ble_eq_true rfl⟩) gT_blind (gT_at _) rfl hl.1 rfl (Nat.le_of_ble_eq_true rfl) dX_give_35 ⟨Nat.zero_le _, Nat.zero_le _⟩ ?_
  refine nv_ior (x := (upN ho a ((ho a) ||| (2 ^ v))) b) (y := 2 ^ v) hx hb dX_give_38 ?_
  refine nv_iast (i := b) (x := ((upN ho a ((ho a) ||| (2 ^ v))) b) ||| (2 ^ v)) (f := upN ho a ((ho a) ||| (2 ^ v))) hx hb hK hP hD hS 4 0 rfl rfl (by omega) (by omega) dX_give_39 (fun H locs hP hD hS => ?_)
  have hP : va_P D vwCl [(h, .inr (0, [.ref a1, .int (nI n), .ref a2, .ref a3, .ref a4, .int (nI us)])), (a1, .inl (cA, 8, .inl (fun j => nI (nb j)))), (a2, .inl (cA, 8, .inl (fun j => nI ((upN lo v a) j)))), (a3, .inl (cA, 8, .inl (fun j => nI ((upN hi v b) j)))), (a4, .inl (cA, 16, .inl (fun j => nI ((upN (upN ho a ((ho a) ||| (2 ^ v))) b (((upN ho a ((ho a) ||| (2 ^ v))) b) ||| (2 ^ v))) j))))] H := hP
  have hD : va_D A [(h, .inr (0, [.ref a1, .int (nI n), .ref a2, .ref a3, .ref a4, .int (nI us)])), (a1, .inl (cA, 8, .inl (fun j => nI (nb j)))), (a2, .inl (cA, 8, .inl (fun j => nI ((upN lo v a) j)))), (a3, .inl (cA, 8, .inl (fun j => nI ((upN hi v b) j)))), (a4, .inl (cA, 16, .inl (fun j => nI ((upN (upN ho a ((ho a) ||| (2 ^ v))) b (((upN ho a ((ho a) ||| (2 ^ v))) b) ||| (2 ^ v))) j))))] := hD
  refine lv_aload_n hx hb dX_give_40 rfl (lv_at hl 0 rfl) ?_
  refine lv_aload_n hx hb dX_give_41 rfl (lv_at hl 0 rfl) ?_
  refine va_get (D := D) (ci := 0) (v := .int (nI us)) (C := RX) (T := TX) (N := 6) hx hb hw uX hown hK hP 0 rfl rfl 5 (by decide) (hw _ w1_24) (fun _ h9 => h9) rfl dX_give_42 ?_
  refine lv_iload_n hx hb dX_give_45 rfl (lv_at hl 3 rfl) ?_
  refine lv_iconst (v := nI 1) hx hb dX_give_46 (by decide) ?_
  refine nv_iadd (x := b) (y := 1) hx hb dX_give_47 ?_
  refine nv_max (x := us) (y := b + 1) hx hb (hml.trans hl.1.symm) hown (hw _ w1_75) (hw _ w1_76) (hw _ w1_10) (hw _ w1_77) (Nat.le_of_ble_eq_true rfl) (Nat.le_of_ble_eq_true rfl) (Nat.zero_le _) (Nat.zero_le _) (by omega) (by omega) dX_give_48 ?_
  refine va_put (D := D) (ci := 0) (v := .int (nI (max us (b + 1)))) (ty := .int) (C := RX) (T := TX) (N := 6) hx hb hw uX tyX tyX_ok nmX hown hK hP hD hS 0 rfl rfl 5 (by decide) (hw _ w1_24) (fun _ h9 => h9) rfl (by decide +kernel) rfl rfl (Nat.le_of_ble_eq_true rfl) dX_give_51 (fun H locs hP hD hS => ?_)
  have hP : va_P D vwCl [(h, .inr (0, [.ref a1, .int (nI n), .ref a2, .ref a3, .ref a4, .int (nI (max us (b + 1)))])), (a1, .inl (cA, 8, .inl (fun j => nI (nb j)))), (a2, .inl (cA, 8, .inl (fun j => nI ((upN lo v a) j)))), (a3, .inl (cA, 8, .inl (fun j => nI ((upN hi v b) j)))), (a4, .inl (cA, 16, .inl (fun j => nI ((upN (upN ho a ((ho a) ||| (2 ^ v))) b (((upN ho a ((ho a) ||| (2 ^ v))) b) ||| (2 ^ v))) j))))] H := hP
  have hD : va_D A [(h, .inr (0, [.ref a1, .int (nI n), .ref a2, .ref a3, .ref a4, .int (nI (max us (b + 1)))])), (a1, .inl (cA, 8, .inl (fun j => nI (nb j)))), (a2, .inl (cA, 8, .inl (fun j => nI ((upN lo v a) j)))), (a3, .inl (cA, 8, .inl (fun j => nI ((upN hi v b) j)))), (a4, .inl (cA, 16, .inl (fun j => nI ((upN (upN ho a ((ho a) ||| (2 ^ v))) b (((upN ho a ((ho a) ||| (2 ^ v))) b) ||| (2 ^ v))) j))))] := hD
  exact W.vret hx hb hr (fun t ht hW => ⟨⟨(), rfl, trivial, by rw [ht]; exact hP, va_K.moved hW.alike hK, hD⟩, hS.F ht⟩) hS.2.2 dX_give_54

set_option maxHeartbeats 4000000 in
set_option maxRecDepth 100000 in
theorem cX_takeBack_c (l : Launch) (D : va_G) (A : Nat → Prop) (h a1 a2 a3 a4 : Nat) (cA : ClassId) (n us : Nat) (nb lo hi ho : Nat → Nat) (v ub : Nat) (hv : v < 8) (h1 : lo v < 16) (h2 : hi v < 16) : Met l yX_takeBack (Cond.code yX_takeBack cX_takeBack 3 none :: bw) (rmL 2) (va_Pc [.ref h, .int (nI v), .int (nI ub)] (gW D vwCl A [(h, .inr (0, [.ref a1, .int (nI n), .ref a2, .ref a3, .ref a4, .int (nI us)])), (a1, .inl (cA, 8, .inl (fun j => nI (nb j)))), (a2, .inl (cA, 8, .inl (fun j => nI (lo j)))), (a3, .inl (cA, 8, .inl (fun j => nI (hi j)))), (a4, .inl (cA, 16, .inl (fun j => nI (ho j))))] [(cA, .int)])) (va_Qv (fun _ : Unit => True) (fun _ => gW D vwCl A [(h, .inr (0, [.ref a1, .int (nI n), .ref a2, .ref a3, .ref a4, .int (nI ub)])), (a1, .inl (cA, 8, .inl (fun j => nI (nb j)))), (a2, .inl (cA, 8, .inl (fun j => nI (lo j)))), (a3, .inl (cA, 8, .inl (fun j => nI (hi j)))), (a4, .inl (cA, 16, .inl (fun j => nI ((upN (upN ho (lo v) (ho (lo v) &&& (2 ^ v ^^^ 4294967295))) (hi v) ((upN ho (lo v) (ho (lo v) &&& (2 ^ v ^^^ 4294967295))) (hi v) &&& (2 ^ v ^^^ 4294967295))) j))))] [(cA, .int)]) A) 0 0 A := by
  refine Met.ofW (cc := cX_takeBack) (maxL := 3) (ret := none) (by decide) rfl ?_
  intro p e s m args below meth c s₁ B9 hml hv
  obtain ⟨rfl, hP, hK, hD⟩ := hv
  have hx := B9.exec
  have hb := B9.bytes
  have hr := B9.returns
  have hts := atoms_spec (ws := (Cond.code yX_takeBack cX_takeBack 3 none :: bw)) B9.pre
  have hw : ∀ w ∈ bw, w.before _ s = true := fun w h => hts w (List.mem_cons_of_mem _ h)
  have hown : s.vm.findClass RX = some m.cls := findClass_of_methodNamed B9.named
  have hlocks := B9.notSynchronized
  have hl := lv_entry ([.ref h, .int (nI v), .int (nI ub)]) (n := 3) (Nat.le_of_ble_eq_true rfl)
  rw [lg_entry_eq]
  generalize (lg_sl ([.ref h, .int (nI v), .int (nI ub)]) ++ List.replicate (3 - (lg_sl ([.ref h, .int (nI v), .int (nI ub)])).length) Slot.unset).toArray = ls at hl ⊢
  have hl : lv_has ls 3 [(0, .ref h), (1, .int (nI v)), (2, .int (nI ub))] := hl
  have hS : va_S A s.heap s.heap [] := va_S.rf
  refine lv_aload_n hx hb dX_takeBack_0 rfl (lv_at hl 0 rfl) ?_
  refine va_get (D := D) (ci := 0) (v := .ref a4) (C := RX) (T := TX) (N := 6) hx hb hw uX hown hK hP 0 rfl rfl 4 (by decide) (hw _ w1_23) (fun _ h9 => h9) rfl dX_takeBack_1 ?_
  refine lv_aload_n hx hb dX_takeBack_4 rfl (lv_at hl 0 rfl) ?_
  refine va_get (D := D) (ci := 0) (v := .ref a2) (C := RX) (T := TX) (N := 6) hx hb hw uX hown hK hP 0 rfl rfl 2 (by decide) (hw _ w1_21) (fun _ h9 => h9) rfl dX_takeBack_5 ?_
  refine lv_iload_n hx hb dX_takeBack_8 rfl (lv_at hl 1 rfl) ?_
  refine nv_iald (i := v) (f := lo) hx hb hK hP 2 0 rfl rfl (by omega) (by omega) dX_takeBack_9 ?_
  refine lv_dup2_11 hx hb dX_takeBack_10 rfl rfl ?_
  refine nv_iald (i := lo v) (f := ho) hx hb hK hP 4 0 rfl rfl (by omega) (by omega) dX_takeBack_11 ?_
  refine lv_iload_n hx hb dX_takeBack_12 rfl (lv_at hl 1 rfl) ?_
  refine nr_S (As := [.int (nI v)]) (rest := [.int (nI (ho (lo v))), .int (nI (lo v)), .ref a4]) ⟨hx, hb, hml, hown, hw⟩ (cX_only_c l v (by omega)) (va_cwS 1 hw (gS2 w1_61 w1_62 w1_1 w1_63) rfl rfl rfl ⟨by decide, by decide, by decide +kernel⟩ ⟨Nat.le_of_ble_eq_true rfl, Nat.le_of_ble_eq_true rfl⟩) gT_blind (gT_at _) rfl hl.1 rfl (Nat.le_of_ble_eq_true rfl) dX_takeBack_13 ⟨Nat.zero_le _, Nat.zero_le _⟩ ?_
  refine lv_iconst (v := nI 4294967295) hx hb dX_takeBack_16 nb_m1 ?_
  refine nv_ixor (x := 2 ^ v) (y := 4294967295) hx hb dX_takeBack_17 ?_
  refine nv_iand (x := ho (lo v)) (y := (2 ^ v) ^^^ 4294967295) hx hb dX_takeBack_18 ?_
  refine nv_iast (i := lo v) (x := (ho (lo v)) &&& ((2 ^ v) ^^^ 4294967295)) (f := ho) hx hb hK hP hD hS 4 0 rfl rfl (by omega) (by omega) dX_takeBack_19 (fun H locs hP hD hS => ?_)
  have hP : va_P D vwCl [(h, .inr (0, [.ref a1, .int (nI n), .ref a2, .ref a3, .ref a4, .int (nI us)])), (a1, .inl (cA, 8, .inl (fun j => nI (nb j)))), (a2, .inl (cA, 8, .inl (fun j => nI (lo j)))), (a3, .inl (cA, 8, .inl (fun j => nI (hi j)))), (a4, .inl (cA, 16, .inl (fun j => nI ((upN ho (lo v) ((ho (lo v)) &&& ((2 ^ v) ^^^ 4294967295))) j))))] H := hP
  have hD : va_D A [(h, .inr (0, [.ref a1, .int (nI n), .ref a2, .ref a3, .ref a4, .int (nI us)])), (a1, .inl (cA, 8, .inl (fun j => nI (nb j)))), (a2, .inl (cA, 8, .inl (fun j => nI (lo j)))), (a3, .inl (cA, 8, .inl (fun j => nI (hi j)))), (a4, .inl (cA, 16, .inl (fun j => nI ((upN ho (lo v) ((ho (lo v)) &&& ((2 ^ v) ^^^ 4294967295))) j))))] := hD
  refine lv_aload_n hx hb dX_takeBack_20 rfl (lv_at hl 0 rfl) ?_
  refine va_get (D := D) (ci := 0) (v := .ref a4) (C := RX) (T := TX) (N := 6) hx hb hw uX hown hK hP 0 rfl rfl 4 (by decide) (hw _ w1_23) (fun _ h9 => h9) rfl dX_takeBack_21 ?_
  refine lv_aload_n hx hb dX_takeBack_24 rfl (lv_at hl 0 rfl) ?_
  refine va_get (D := D) (ci := 0) (v := .ref a3) (C := RX) (T := TX) (N := 6) hx hb hw uX hown hK hP 0 rfl rfl 3 (by decide) (hw _ w1_22) (fun _ h9 => h9) rfl dX_takeBack_25 ?_
  refine lv_iload_n hx hb dX_takeBack_28 rfl (lv_at hl 1 rfl) ?_
  refine nv_iald (i := v) (f := hi) hx hb hK hP 3 0 rfl rfl (by omega) (by omega) dX_takeBack_29 ?_
  refine lv_dup2_11 hx hb dX_takeBack_30 rfl rfl ?_
  refine nv_iald (i := hi v) (f := upN ho (lo v) ((ho (lo v)) &&& ((2 ^ v) ^^^ 4294967295))) hx hb hK hP 4 0 rfl rfl (by omega) (by omega) dX_takeBack_31 ?_
  refine lv_iload_n hx hb dX_takeBack_32 rfl (lv_at hl 1 rfl) ?_
  refine nr_S (As := [.int (nI v)]) (rest := [.int (nI ((upN ho (lo v) ((ho (lo v)) &&& ((2 ^ v) ^^^ 4294967295))) (hi v))), .int (nI (hi v)), .ref a4]) ⟨hx, hb, hml, hown, hw⟩ (cX_only_c l v (by omega)) (va_cwS 1 hw (gS2 w1_61 w1_62 w1_1 w1_63) rfl rfl rfl ⟨by decide, by decide, by decide +kernel⟩ ⟨Nat.le_of_ble_eq_true rfl, Nat.le_of_ble_eq_true rfl⟩) gT_blind (gT_at _) rfl hl.1 rfl (Nat.le_of_ble_eq_true rfl) dX_takeBack_33 ⟨Nat.zero_le _, Nat.zero_le _⟩ ?_
  refine lv_iconst (v := nI 4294967295) hx hb dX_takeBack_36 nb_m1 ?_
  refine nv_ixor (x := 2 ^ v) (y := 4294967295) hx hb dX_takeBack_37 ?_
  refine nv_iand (x := (upN ho (lo v) ((ho (lo v)) &&& ((2 ^ v) ^^^ 4294967295))) (hi v)) (y := (2 ^ v) ^^^ 4294967295) hx hb dX_takeBack_38 ?_
  refine nv_iast (i := hi v) (x := ((upN ho (lo v) ((ho (lo v)) &&& ((2 ^ v) ^^^ 4294967295))) (hi v)) &&& ((2 ^ v) ^^^ 4294967295)) (f := upN ho (lo v) ((ho (lo v)) &&& ((2 ^ v) ^^^ 4294967295))) hx hb hK hP hD hS 4 0 rfl rfl (by omega) (by omega) dX_takeBack_39 (fun H locs hP hD hS => ?_)
  have hP : va_P D vwCl [(h, .inr (0, [.ref a1, .int (nI n), .ref a2, .ref a3, .ref a4, .int (nI us)])), (a1, .inl (cA, 8, .inl (fun j => nI (nb j)))), (a2, .inl (cA, 8, .inl (fun j => nI (lo j)))), (a3, .inl (cA, 8, .inl (fun j => nI (hi j)))), (a4, .inl (cA, 16, .inl (fun j => nI ((upN (upN ho (lo v) ((ho (lo v)) &&& ((2 ^ v) ^^^ 4294967295))) (hi v) (((upN ho (lo v) ((ho (lo v)) &&& ((2 ^ v) ^^^ 4294967295))) (hi v)) &&& ((2 ^ v) ^^^ 4294967295))) j))))] H := hP
  have hD : va_D A [(h, .inr (0, [.ref a1, .int (nI n), .ref a2, .ref a3, .ref a4, .int (nI us)])), (a1, .inl (cA, 8, .inl (fun j => nI (nb j)))), (a2, .inl (cA, 8, .inl (fun j => nI (lo j)))), (a3, .inl (cA, 8, .inl (fun j => nI (hi j)))), (a4, .inl (cA, 16, .inl (fun j => nI ((upN (upN ho (lo v) ((ho (lo v)) &&& ((2 ^ v) ^^^ 4294967295))) (hi v) (((upN ho (lo v) ((ho (lo v)) &&& ((2 ^ v) ^^^ 4294967295))) (hi v)) &&& ((2 ^ v) ^^^ 4294967295))) j))))] := hD
  refine lv_aload_n hx hb dX_takeBack_40 rfl (lv_at hl 0 rfl) ?_
  refine lv_iload_n hx hb dX_takeBack_41 rfl (lv_at hl 2 rfl) ?_
  refine va_put (D := D) (ci := 0) (v := .int (nI ub)) (ty := .int) (C := RX) (T := TX) (N := 6) hx hb hw uX tyX tyX_ok nmX hown hK hP hD hS 0 rfl rfl 5 (by decide) (hw _ w1_24) (fun _ h9 => h9) rfl (by decide +kernel) rfl rfl (Nat.le_of_ble_eq_true rfl) dX_takeBack_42 (fun H locs hP hD hS => ?_)
  have hP : va_P D vwCl [(h, .inr (0, [.ref a1, .int (nI n), .ref a2, .ref a3, .ref a4, .int (nI ub)])), (a1, .inl (cA, 8, .inl (fun j => nI (nb j)))), (a2, .inl (cA, 8, .inl (fun j => nI (lo j)))), (a3, .inl (cA, 8, .inl (fun j => nI (hi j)))), (a4, .inl (cA, 16, .inl (fun j => nI ((upN (upN ho (lo v) ((ho (lo v)) &&& ((2 ^ v) ^^^ 4294967295))) (hi v) (((upN ho (lo v) ((ho (lo v)) &&& ((2 ^ v) ^^^ 4294967295))) (hi v)) &&& ((2 ^ v) ^^^ 4294967295))) j))))] H := hP
  have hD : va_D A [(h, .inr (0, [.ref a1, .int (nI n), .ref a2, .ref a3, .ref a4, .int (nI ub)])), (a1, .inl (cA, 8, .inl (fun j => nI (nb j)))), (a2, .inl (cA, 8, .inl (fun j => nI (lo j)))), (a3, .inl (cA, 8, .inl (fun j => nI (hi j)))), (a4, .inl (cA, 16, .inl (fun j => nI ((upN (upN ho (lo v) ((ho (lo v)) &&& ((2 ^ v) ^^^ 4294967295))) (hi v) (((upN ho (lo v) ((ho (lo v)) &&& ((2 ^ v) ^^^ 4294967295))) (hi v)) &&& ((2 ^ v) ^^^ 4294967295))) j))))] := hD
  exact W.vret hx hb hr (fun t ht hW => ⟨⟨(), rfl, trivial, by rw [ht]; exact hP, va_K.moved hW.alike hK, hD⟩, hS.F ht⟩) hS.2.2 dX_takeBack_45
