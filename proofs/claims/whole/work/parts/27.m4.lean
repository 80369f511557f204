def suN (ed lw hg od : Nat → Nat) (k j : Nat) : Bool := jF (fun j g => g && decide (shN (lw k) (hg k) (lw j) (hg j) = ed (8 * od k + od j))) true j
theorem su_t {ed lw hg od : Nat → Nat} {k j c1 c2 : Nat} (h : suN ed lw hg od k j = true) (h1 : c1 = if lw k = lw j ∨ lw k = hg j then 1 else 0) (h2 : c2 = if hg k = lw j ∨ hg k = hg j then 1 else 0) (h3 : c1 + c2 = ed (8 * od k + od j)) : suN ed lw hg od k (j + 1) = true := by
  show (suN ed lw hg od k j && decide (shN (lw k) (hg k) (lw j) (hg j) = ed (8 * od k + od j))) = true
  have e : shN (lw k) (hg k) (lw j) (hg j) = c1 + c2 := by unfold shN; rw [h1, h2]
  rw [h, e, decide_eq_true h3]; rfl
theorem su_f {ed lw hg od : Nat → Nat} {k j c1 c2 : Nat} (h1 : c1 = if lw k = lw j ∨ lw k = hg j then 1 else 0) (h2 : c2 = if hg k = lw j ∨ hg k = hg j then 1 else 0) (h3 : ¬ c1 + c2 = ed (8 * od k + od j)) : suN ed lw hg od k (j + 1) = false := by
  show (suN ed lw hg od k j && decide (shN (lw k) (hg k) (lw j) (hg j) = ed (8 * od k + od j))) = false
  have e : shN (lw k) (hg k) (lw j) (hg j) = c1 + c2 := by unfold shN; rw [h1, h2]
  rw [e, decide_eq_false h3, Bool.and_false]
theorem su_n {ed lw hg od : Nat → Nat} {k j : Nat} (h : suN ed lw hg od k j = false) : suN ed lw hg od k (j + 1) = false := by
  show (suN ed lw hg od k j && _) = false
  rw [h]; rfl
def adA (us a b : Nat) : Nat := if b < max us (a + 1) then a else a + 1
def adB (us a b : Nat) : Nat := if b < max us (a + 1) then b + 1 else a + 1 + 1
theorem ad_in {us a b : Nat} (h : b < max us (a + 1)) : adA us a b = a ∧ adB us a b = b + 1 := ⟨if_pos h, if_pos h⟩
theorem ad_out {us a b : Nat} (h : ¬ b < max us (a + 1)) : adA us a b = a + 1 ∧ adB us a b = a + 1 + 1 := ⟨if_neg h, if_neg h⟩
def adP (k us a b : Nat) (lw hg : Nat → Nat) (r : Int32) (u : (Nat → Nat) × (Nat → Nat)) : Prop := r = bI (decide (adA us a b ≤ us)) ∧ u.1 k = adA us a b ∧ u.2 k = adB us a b ∧ ∀ j, j ≠ k → u.1 j = lw j ∧ u.2 j = hg j

set_option maxHeartbeats 4000000 in
set_option maxRecDepth 100000 in
theorem cM_begin_c (l : Launch) (D : va_G) (A : Nat → Prop) (g0 b1 b2 b3 b4 b5 : Nat) (cA : ClassId) (n ft : Nat) (ed lw hg od ud : Nat → Nat) (k : Nat) (hk : k < 8) : Met l yM_begin (Cond.code yM_begin cM_begin 2 none :: bw) (rmL 1) (va_Pc [.ref g0, .int (nI k)] (gW D vwCl A [(g0, .inr (1, [.int (nI n), .ref b1, .int (nI ft), .ref b2, .ref b3, .ref b4, .ref b5])), (b1, .inl (cA, 64, .inl (fun j => nI (ed j)))), (b2, .inl (cA, 8, .inl (fun j => nI (lw j)))), (b3, .inl (cA, 8, .inl (fun j => nI (hg j)))), (b4, .inl (cA, 8, .inl (fun j => nI (od j)))), (b5, .inl (cA, 9, .inl (fun j => nI (ud j))))] [(cA, .int)])) (va_Qv (fun _ : Unit => True) (fun _ => gW D vwCl A [(g0, .inr (1, [.int (nI n), .ref b1, .int (nI ft), .ref b2, .ref b3, .ref b4, .ref b5])), (b1, .inl (cA, 64, .inl (fun j => nI (ed j)))), (b2, .inl (cA, 8, .inl (fun j => nI ((upN lw k 0) j)))), (b3, .inl (cA, 8, .inl (fun j => nI ((upN hg k 0) j)))), (b4, .inl (cA, 8, .inl (fun j => nI (od j)))), (b5, .inl (cA, 9, .inl (fun j => nI (ud j))))] [(cA, .int)]) A) 0 0 A := by
  refine Met.ofW (cc := cM_begin) (maxL := 2) (ret := none) (by decide) rfl ?_
  intro p e s m args below meth c s₁ B9 hml hv
  obtain ⟨rfl, hP, hK, hD⟩ := hv
  have hx := B9.exec
  have hb := B9.bytes
  have hr := B9.returns
  have hts := atoms_spec (ws := (Cond.code yM_begin cM_begin 2 none :: bw)) B9.pre
  have hw : ∀ w ∈ bw, w.before _ s = true := fun w h => hts w (List.mem_cons_of_mem _ h)
  have hown : s.vm.findClass RM = some m.cls := findClass_of_methodNamed B9.named
  have hlocks := B9.notSynchronized
  have hl := lv_entry ([.ref g0, .int (nI k)]) (n := 2) (Nat.le_of_ble_eq_true rfl)
  rw [lg_entry_eq]
  generalize (lg_sl ([.ref g0, .int (nI k)]) ++ List.replicate (2 - (lg_sl ([.ref g0, .int (nI k)])).length) Slot.unset).toArray = ls at hl ⊢
  have hl : lv_has ls 2 [(0, .ref g0), (1, .int (nI k))] := hl
  have hS : va_S A s.heap s.heap [] := va_S.rf
  refine lv_aload_n hx hb dM_begin_0 rfl (lv_at hl 0 rfl) ?_
  refine va_get (D := D) (ci := 1) (v := .ref b2) (C := RM) (T := TM) (N := 7) hx hb hw uM hown hK hP 0 rfl rfl 3 (by decide) (hw _ w2_101) (fun _ h9 => h9) rfl dM_begin_1 ?_
  refine lv_iload_n hx hb dM_begin_4 rfl (lv_at hl 1 rfl) ?_
  refine lv_iconst (v := nI 0) hx hb dM_begin_5 (by decide) ?_
  refine nv_iast (i := k) (x := 0) (f := lw) hx hb hK hP hD hS 2 0 rfl rfl (by omega) (by omega) dM_begin_6 (fun H locs hP hD hS => ?_)
  have hP : va_P D vwCl [(g0, .inr (1, [.int (nI n), .ref b1, .int (nI ft), .ref b2, .ref b3, .ref b4, .ref b5])), (b1, .inl (cA, 64, .inl (fun j => nI (ed j)))), (b2, .inl (cA, 8, .inl (fun j => nI ((upN lw k 0) j)))), (b3, .inl (cA, 8, .inl (fun j => nI (hg j)))), (b4, .inl (cA, 8, .inl (fun j => nI (od j)))), (b5, .inl (cA, 9, .inl (fun j => nI (ud j))))] H := hP
  have hD : va_D A [(g0, .inr (1, [.int (nI n), .ref b1, .int (nI ft), .ref b2, .ref b3, .ref b4, .ref b5])), (b1, .inl (cA, 64, .inl (fun j => nI (ed j)))), (b2, .inl (cA, 8, .inl (fun j => nI ((upN lw k 0) j)))), (b3, .inl (cA, 8, .inl (fun j => nI (hg j)))), (b4, .inl (cA, 8, .inl (fun j => nI (od j)))), (b5, .inl (cA, 9, .inl (fun j => nI (ud j))))] := hD
  refine lv_aload_n hx hb dM_begin_7 rfl (lv_at hl 0 rfl) ?_
  refine va_get (D := D) (ci := 1) (v := .ref b3) (C := RM) (T := TM) (N := 7) hx hb hw uM hown hK hP 0 rfl rfl 4 (by decide) (hw _ w2_102) (fun _ h9 => h9) rfl dM_begin_8 ?_
  refine lv_iload_n hx hb dM_begin_11 rfl (lv_at hl 1 rfl) ?_
  refine lv_iconst (v := nI 0) hx hb dM_begin_12 (by decide) ?_
  refine nv_iast (i := k) (x := 0) (f := hg) hx hb hK hP hD hS 3 0 rfl rfl (by omega) (by omega) dM_begin_13 (fun H locs hP hD hS => ?_)
  have hP : va_P D vwCl [(g0, .inr (1, [.int (nI n), .ref b1, .int (nI ft), .ref b2, .ref b3, .ref b4, .ref b5])), (b1, .inl (cA, 64, .inl (fun j => nI (ed j)))), (b2, .inl (cA, 8, .inl (fun j => nI ((upN lw k 0) j)))), (b3, .inl (cA, 8, .inl (fun j => nI ((upN hg k 0) j)))), (b4, .inl (cA, 8, .inl (fun j => nI (od j)))), (b5, .inl (cA, 9, .inl (fun j => nI (ud j))))] H := hP
  have hD : va_D A [(g0, .inr (1, [.int (nI n), .ref b1, .int (nI ft), .ref b2, .ref b3, .ref b4, .ref b5])), (b1, .inl (cA, 64, .inl (fun j => nI (ed j)))), (b2, .inl (cA, 8, .inl (fun j => nI ((upN lw k 0) j)))), (b3, .inl (cA, 8, .inl (fun j => nI ((upN hg k 0) j)))), (b4, .inl (cA, 8, .inl (fun j => nI (od j)))), (b5, .inl (cA, 9, .inl (fun j => nI (ud j))))] := hD
  exact W.vret hx hb hr (fun t ht hW => ⟨⟨(), rfl, trivial, by rw [ht]; exact hP, va_K.moved hW.alike hK, hD⟩, hS.F ht⟩) hS.2.2 dM_begin_14

set_option maxHeartbeats 4000000 in
set_option maxRecDepth 100000 in
theorem cM_suits_c (l : Launch) (D : va_G) (A : Nat → Prop) (g0 b1 b2 b3 b4 b5 : Nat) (cA : ClassId) (n ft : Nat) (ed lw hg od ud : Nat → Nat) (k : Nat) (hed1 : ∀ k, k < 64 → ed k ≤ 1)(hk : k < 8)(hbd : ∀ j, j ≤ k → lw j < 64 ∧ hg j < 64) (hod : ∀ j, j ≤ k → od j < 8) : Rd l yM_suits (Cond.code yM_suits cM_suits 5 (some FieldType.boolean) :: bw) (rmL 1) [.ref g0, .int (nI k)] (gB D vwCl [(g0, .inr (1, [.int (nI n), .ref b1, .int (nI ft), .ref b2, .ref b3, .ref b4, .ref b5])), (b1, .inl (cA, 64, .inl (fun j => nI (ed j)))), (b2, .inl (cA, 8, .inl (fun j => nI (lw j)))), (b3, .inl (cA, 8, .inl (fun j => nI (hg j)))), (b4, .inl (cA, 8, .inl (fun j => nI (od j)))), (b5, .inl (cA, 9, .inl (fun j => nI (ud j))))] [(cA, .int)]) ((bI (suN ed lw hg od k k))) := by
  refine Met.ofW (cc := cM_suits) (maxL := 5) (ret := (some FieldType.boolean)) (by decide) rfl ?_
  intro p e s m args below meth c s₁ B9 hml hv
  obtain ⟨rfl, hP, hK⟩ := hv
  have hx := B9.exec
  have hb := B9.bytes
  have hr := B9.returns
  have hts := atoms_spec (ws := (Cond.code yM_suits cM_suits 5 (some FieldType.boolean) :: bw)) B9.pre
  have hw : ∀ w ∈ bw, w.before _ s = true := fun w h => hts w (List.mem_cons_of_mem _ h)
  have hown : s.vm.findClass RM = some m.cls := findClass_of_methodNamed B9.named
  have hlocks := B9.notSynchronized
  have hl := lv_entry ([.ref g0, .int (nI k)]) (n := 5) (Nat.le_of_ble_eq_true rfl)
  rw [lg_entry_eq]
  generalize (lg_sl ([.ref g0, .int (nI k)]) ++ List.replicate (5 - (lg_sl ([.ref g0, .int (nI k)])).length) Slot.unset).toArray = ls at hl ⊢
  have hl : lv_has ls 5 [(0, .ref g0), (1, .int (nI k))] := hl
  refine lv_iconst (v := nI 1) hx hb dM_suits_0 (by decide) ?_
  refine lv_istore_n hx hb dM_suits_1 rfl hl (by decide) (lv' := [(2, .int (nI 1)), (0, .ref g0), (1, .int (nI k))]) rfl (fun ls hl => ?_)
  refine lv_iconst (v := nI 0) hx hb dM_suits_2 (by decide) ?_
  refine lv_istore_n hx hb dM_suits_3 rfl hl (by decide) (lv' := [(3, .int (nI 0)), (2, .int (nI 1)), (0, .ref g0), (1, .int (nI k))]) rfl (fun ls hl => ?_)
  have L4 : ∀ (k9 : Nat) (j : Nat), k9 = k - j → j ≤ k → ∀ (ls : Array Slot), lv_has ls 5 [(3, .int (nI j)), (2, .int (bI (suN ed lw hg od k j))), (0, .ref g0), (1, .int (nI k))] → W p l e (headSpec (Cond.code yM_suits cM_suits 5 (some FieldType.boolean) :: bw) (rmL 1)).room s m ([.ref g0, .int (nI k)] : List Value).toArray below meth c s.heap [] 0 0 (MQ below (QcRead ((bI (suN ed lw hg od k k)))) ([.ref g0, .int (nI k)] : List Value).toArray s 0 0 (fun _ => False)) (F0 m 4 ls []) := by
    intro k9
    induction k9 using Nat.strongRecOn with
    | _ k9 ih4 =>
      intro j hk9 hj9 ls hl
      refine lv_iload_n hx hb dM_suits_4 rfl (lv_at hl 0 rfl) ?_
      refine lv_iload_n hx hb dM_suits_5 rfl (lv_at hl 3 rfl) ?_
      refine nv_icmp_ge (x := j) (y := k) (tgt := 124) hx hb dM_suits_6 rfl (by omega) (by omega) (fun hc6 => ?_) (fun hc6 => ?_)
      · refine lv_iload_n hx hb dM_suits_124 rfl (lv_at hl 1 rfl) ?_
        exact W.zret (v := (bI (suN ed lw hg od k j))) hx hb hr (nb_nar _) (fun t ht hW => ⟨by rw [show j = k by omega], ht⟩) (fun q h => by cases h) dM_suits_125
      · have hq1 := hbd k (Nat.le_refl _)
        have hq2 := hbd j (by omega)
        have hq3 := hod k (Nat.le_refl _)
        have hq4 := hod j (by omega)
        have J79 : ∀ (c1 : Nat) (c2 : Nat), c1 = (if lw k = lw j ∨ lw k = hg j then 1 else 0) → c2 = (if hg k = lw j ∨ hg k = hg j then 1 else 0) → ∀ (ls : Array Slot), lv_has ls 5 [(3, .int (nI j)), (2, .int (bI (suN ed lw hg od k j))), (0, .ref g0), (1, .int (nI k))] → W p l e (headSpec (Cond.code yM_suits cM_suits 5 (some FieldType.boolean) :: bw) (rmL 1)).room s m ([.ref g0, .int (nI k)] : List Value).toArray below meth c s.heap [] 0 0 (MQ below (QcRead ((bI (suN ed lw hg od k k)))) ([.ref g0, .int (nI k)] : List Value).toArray s 0 0 (fun _ => False)) (F0 m 79 ls [.int (nI c2), .int (nI c1)]) := by
          intro c1 c2 hc1 hc2 ls hl
          have hq79 : c1 ≤ 1 := by rw [hc1]; split <;> omega
          have hq80 : c2 ≤ 1 := by rw [hc2]; split <;> omega
          refine nv_iadd (x := c1) (y := c2) hx hb dM_suits_79 ?_
          refine lv_istore hx hb dM_suits_80 hl (by decide) (lv' := [(4, .int (nI (c1 + c2))), (3, .int (nI j)), (2, .int (bI (suN ed lw hg od k j))), (0, .ref g0), (1, .int (nI k))]) rfl (fun ls hl => ?_)
          refine lv_iload_n hx hb dM_suits_82 rfl (lv_at hl 2 rfl) ?_
          refine nv_b_eq (x := suN ed lw hg od k j) (tgt := 116) hx hb dM_suits_83 rfl (fun hc83 => ?_) (fun hc83 => ?_)
          · refine lv_iconst (v := nI 0) hx hb dM_suits_116 (by decide) ?_
            refine lv_istore_n hx hb dM_suits_117 rfl hl (by decide) (lv' := [(2, .int (nI 0)), (4, .int (nI (c1 + c2))), (3, .int (nI j)), (0, .ref g0), (1, .int (nI k))]) rfl (fun ls hl => ?_)
            refine lv_iinc (k := 2) hx hb dM_suits_118 hl rfl (nb_inc _) (by decide) (lv' := [(3, .int (nI (j + 1))), (2, .int (nI 0)), (4, .int (nI (c1 + c2))), (0, .ref g0), (1, .int (nI k))]) rfl (fun ls hl => ?_)
            refine lv_goto (tgt := 4) hx hb dM_suits_121 rfl ?_
            have e9 : nI 0 = bI (suN ed lw hg od k (j + 1)) := by first | (rw [su_n hc83]; rfl) | (rw [su_f hc1 hc2 hc109]; rfl)
            have hl := lv_sub hl (l' := [(3, .int (nI (j + 1))), (2, .int (nI 0)), (0, .ref g0), (1, .int (nI k))]) [0, 1, 3, 4] rfl
            have hl : lv_has ls 5 [(3, .int (nI (j + 1))), (2, .int (bI (suN ed lw hg od k (j + 1)))), (0, .ref g0), (1, .int (nI k))] := by rw [← e9]; exact hl
            exact ih4 _ (by omega) (j + 1) rfl (by omega) ls hl
          · refine lv_iload hx hb dM_suits_86 (lv_at hl 0 rfl) ?_
            refine lv_aload_n hx hb dM_suits_88 rfl (lv_at hl 3 rfl) ?_
            refine va_get (D := D) (ci := 1) (v := .ref b1) (C := RM) (T := TM) (N := 7) hx hb hw uM hown hK hP 0 rfl rfl 1 (by decide) (hw _ w2_99) (fun _ h9 => h9) rfl dM_suits_89 ?_
            refine lv_bipush (v := nI 8) hx hb dM_suits_92 (by decide) ?_
            refine lv_aload_n hx hb dM_suits_94 rfl (lv_at hl 3 rfl) ?_
            refine va_get (D := D) (ci := 1) (v := .ref b4) (C := RM) (T := TM) (N := 7) hx hb hw uM hown hK hP 0 rfl rfl 5 (by decide) (hw _ w2_103) (fun _ h9 => h9) rfl dM_suits_95 ?_
            refine lv_iload_n hx hb dM_suits_98 rfl (lv_at hl 4 rfl) ?_
            refine nv_iald (i := k) (f := od) hx hb hK hP 4 0 rfl rfl (by omega) (by omega) dM_suits_99 ?_
            refine nv_imul (x := 8) (y := od k) hx hb dM_suits_100 ?_
            refine lv_aload_n hx hb dM_suits_101 rfl (lv_at hl 3 rfl) ?_
            refine va_get (D := D) (ci := 1) (v := .ref b4) (C := RM) (T := TM) (N := 7) hx hb hw uM hown hK hP 0 rfl rfl 5 (by decide) (hw _ w2_103) (fun _ h9 => h9) rfl dM_suits_102 ?_
            refine lv_iload_n hx hb dM_suits_105 rfl (lv_at hl 1 rfl) ?_
            refine nv_iald (i := j) (f := od) hx hb hK hP 4 0 rfl rfl (by omega) (by omega) dM_suits_106 ?_
            refine nv_iadd (x := 8 * (od k)) (y := od j) hx hb dM_suits_107 ?_
            refine nv_iald (i := (8 * (od k)) + (od j)) (f := ed) hx hb hK hP 1 0 rfl rfl (by omega) (by omega) dM_suits_108 ?_
            have hq109 := hed1 (8 * od k + od j) (by omega)
            refine nv_icmp_ne (x := c1 + c2) (y := ed ((8 * (od k)) + (od j))) (tgt := 116) hx hb dM_suits_109 rfl (by omega) (by omega) (fun hc109 => ?_) (fun hc109 => ?_)
            · refine lv_iconst (v := nI 0) hx hb dM_suits_116 (by decide) ?_
              refine lv_istore_n hx hb dM_suits_117 rfl hl (by decide) (lv' := [(2, .int (nI 0)), (4, .int (nI (c1 + c2))), (3, .int (nI j)), (0, .ref g0), (1, .int (nI k))]) rfl (fun ls hl => ?_)
              refine lv_iinc (k := 2) hx hb dM_suits_118 hl rfl (nb_inc _) (by decide) (lv' := [(3, .int (nI (j + 1))), (2, .int (nI 0)), (4, .int (nI (c1 + c2))), (0, .ref g0), (1, .int (nI k))]) rfl (fun ls hl => ?_)
              refine lv_goto (tgt := 4) hx hb dM_suits_121 rfl ?_
              have e9 : nI 0 = bI (suN ed lw hg od k (j + 1)) := by first | (rw [su_n hc83]; rfl) | (rw [su_f hc1 hc2 hc109]; rfl)
              have hl := lv_sub hl (l' := [(3, .int (nI (j + 1))), (2, .int (nI 0)), (0, .ref g0), (1, .int (nI k))]) [0, 1, 3, 4] rfl
              have hl : lv_has ls 5 [(3, .int (nI (j + 1))), (2, .int (bI (suN ed lw hg od k (j + 1)))), (0, .ref g0), (1, .int (nI k))] := by rw [← e9]; exact hl
              exact ih4 _ (by omega) (j + 1) rfl (by omega) ls hl
            · refine lv_iconst (v := nI 1) hx hb dM_suits_112 (by decide) ?_
              refine lv_goto (tgt := 117) hx hb dM_suits_113 rfl ?_
              refine lv_istore_n hx hb dM_suits_117 rfl hl (by decide) (lv' := [(2, .int (nI 1)), (4, .int (nI (c1 + c2))), (3, .int (nI j)), (0, .ref g0), (1, .int (nI k))]) rfl (fun ls hl => ?_)
              refine lv_iinc (k := 2) hx hb dM_suits_118 hl rfl (nb_inc _) (by decide) (lv' := [(3, .int (nI (j + 1))), (2, .int (nI 1)), (4, .int (nI (c1 + c2))), (0, .ref g0), (1, .int (nI k))]) rfl (fun ls hl => ?_)
              refine lv_goto (tgt := 4) hx hb dM_suits_121 rfl ?_
              have e9 : nI 1 = bI (suN ed lw hg od k (j + 1)) := by first | (rw [su_t hc83 hc1 hc2 hc109]; rfl)
              have hl := lv_sub hl (l' := [(3, .int (nI (j + 1))), (2, .int (nI 1)), (0, .ref g0), (1, .int (nI k))]) [0, 1, 3, 4] rfl
              have hl : lv_has ls 5 [(3, .int (nI (j + 1))), (2, .int (bI (suN ed lw hg od k (j + 1)))), (0, .ref g0), (1, .int (nI k))] := by rw [← e9]; exact hl
              exact ih4 _ (by omega) (j + 1) rfl (by omega) ls hl
        have J44 : ∀ (c1 : Nat), c1 = (if lw k = lw j ∨ lw k = hg j then 1 else 0) → ∀ (ls : Array Slot), lv_has ls 5 [(3, .int (nI j)), (2, .int (bI (suN ed lw hg od k j))), (0, .ref g0), (1, .int (nI k))] → W p l e (headSpec (Cond.code yM_suits cM_suits 5 (some FieldType.boolean) :: bw) (rmL 1)).room s m ([.ref g0, .int (nI k)] : List Value).toArray below meth c s.heap [] 0 0 (MQ below (QcRead ((bI (suN ed lw hg od k k)))) ([.ref g0, .int (nI k)] : List Value).toArray s 0 0 (fun _ => False)) (F0 m 44 ls [.int (nI c1)]) := by
          intro c1 hc1 ls hl
          refine lv_aload_n hx hb dM_suits_44 rfl (lv_at hl 2 rfl) ?_
          refine va_get (D := D) (ci := 1) (v := .ref b3) (C := RM) (T := TM) (N := 7) hx hb hw uM hown hK hP 0 rfl rfl 4 (by decide) (hw _ w2_102) (fun _ h9 => h9) rfl dM_suits_45 ?_
          refine lv_iload_n hx hb dM_suits_48 rfl (lv_at hl 3 rfl) ?_
          refine nv_iald (i := k) (f := hg) hx hb hK hP 3 0 rfl rfl (by omega) (by omega) dM_suits_49 ?_
          refine lv_aload_n hx hb dM_suits_50 rfl (lv_at hl 2 rfl) ?_
          refine va_get (D := D) (ci := 1) (v := .ref b2) (C := RM) (T := TM) (N := 7) hx hb hw uM hown hK hP 0 rfl rfl 3 (by decide) (hw _ w2_101) (fun _ h9 => h9) rfl dM_suits_51 ?_
          refine lv_iload_n hx hb dM_suits_54 rfl (lv_at hl 0 rfl) ?_
          refine nv_iald (i := j) (f := lw) hx hb hK hP 2 0 rfl rfl (by omega) (by omega) dM_suits_55 ?_
          refine nv_icmp_eq (x := hg k) (y := lw j) (tgt := 74) hx hb dM_suits_56 rfl (by omega) (by omega) (fun hc56 => ?_) (fun hc56 => ?_)
          · refine lv_iconst (v := nI 1) hx hb dM_suits_74 (by decide) ?_
            refine lv_goto (tgt := 79) hx hb dM_suits_75 rfl ?_
            exact J79 c1 1 hc1 (by first | rw [if_pos (Or.inl hc56)] | rw [if_pos (Or.inr hc71)]) ls hl
          · refine lv_aload_n hx hb dM_suits_59 rfl (lv_at hl 2 rfl) ?_
            refine va_get (D := D) (ci := 1) (v := .ref b3) (C := RM) (T := TM) (N := 7) hx hb hw uM hown hK hP 0 rfl rfl 4 (by decide) (hw _ w2_102) (fun _ h9 => h9) rfl dM_suits_60 ?_
            refine lv_iload_n hx hb dM_suits_63 rfl (lv_at hl 3 rfl) ?_
            refine nv_iald (i := k) (f := hg) hx hb hK hP 3 0 rfl rfl (by omega) (by omega) dM_suits_64 ?_
            refine lv_aload_n hx hb dM_suits_65 rfl (lv_at hl 2 rfl) ?_
            refine va_get (D := D) (ci := 1) (v := .ref b3) (C := RM) (T := TM) (N := 7) hx hb hw uM hown hK hP 0 rfl rfl 4 (by decide) (hw _ w2_102) (fun _ h9 => h9) rfl dM_suits_66 ?_
            refine lv_iload_n hx hb dM_suits_69 rfl (lv_at hl 0 rfl) ?_
            refine nv_iald (i := j) (f := hg) hx hb hK hP 3 0 rfl rfl (by omega) (by omega) dM_suits_70 ?_
            refine nv_icmp_ne (x := hg k) (y := hg j) (tgt := 78) hx hb dM_suits_71 rfl (by omega) (by omega) (fun hc71 => ?_) (fun hc71 => ?_)
            · refine lv_iconst (v := nI 0) hx hb dM_suits_78 (by decide) ?_
              exact J79 c1 0 hc1 (by rw [if_neg (fun h9 => h9.elim hc56 hc71)]) ls hl
            · refine lv_iconst (v := nI 1) hx hb dM_suits_74 (by decide) ?_
              refine lv_goto (tgt := 79) hx hb dM_suits_75 rfl ?_
              exact J79 c1 1 hc1 (by first | rw [if_pos (Or.inl hc56)] | rw [if_pos (Or.inr hc71)]) ls hl
        refine lv_aload_n hx hb dM_suits_9 rfl (lv_at hl 2 rfl) ?_
        refine va_get (D := D) (ci := 1) (v := .ref b2) (C := RM) (T := TM) (N := 7) hx hb hw uM hown hK hP 0 rfl rfl 3 (by decide) (hw _ w2_101) (fun _ h9 => h9) rfl dM_suits_10 ?_
        refine lv_iload_n hx hb dM_suits_13 rfl (lv_at hl 3 rfl) ?_
        refine nv_iald (i := k) (f := lw) hx hb hK hP 2 0 rfl rfl (by omega) (by omega) dM_suits_14 ?_
        refine lv_aload_n hx hb dM_suits_15 rfl (lv_at hl 2 rfl) ?_
        refine va_get (D := D) (ci := 1) (v := .ref b2) (C := RM) (T := TM) (N := 7) hx hb hw uM hown hK hP 0 rfl rfl 3 (by decide) (hw _ w2_101) (fun _ h9 => h9) rfl dM_suits_16 ?_
        refine lv_iload_n hx hb dM_suits_19 rfl (lv_at hl 0 rfl) ?_
        refine nv_iald (i := j) (f := lw) hx hb hK hP 2 0 rfl rfl (by omega) (by omega) dM_suits_20 ?_
        refine nv_icmp_eq (x := lw k) (y := lw j) (tgt := 39) hx hb dM_suits_21 rfl (by omega) (by omega) (fun hc21 => ?_) (fun hc21 => ?_)
        · refine lv_iconst (v := nI 1) hx hb dM_suits_39 (by decide) ?_
          refine lv_goto (tgt := 44) hx hb dM_suits_40 rfl ?_
          exact J44 1 (by first | rw [if_pos (Or.inl hc21)] | rw [if_pos (Or.inr hc36)]) ls hl
        · refine lv_aload_n hx hb dM_suits_24 rfl (lv_at hl 2 rfl) ?_
          refine va_get (D := D) (ci := 1) (v := .ref b2) (C := RM) (T := TM) (N := 7) hx hb hw uM hown hK hP 0 rfl rfl 3 (by decide) (hw _ w2_101) (fun _ h9 => h9) rfl dM_suits_25 ?_
          refine lv_iload_n hx hb dM_suits_28 rfl (lv_at hl 3 rfl) ?_
          refine nv_iald (i := k) (f := lw) hx hb hK hP 2 0 rfl rfl (by omega) (by omega) dM_suits_29 ?_
          refine lv_aload_n hx hb dM_suits_30 rfl (lv_at hl 2 rfl) ?_
          refine va_get (D := D) (ci := 1) (v := .ref b3) (C := RM) (T := TM) (N := 7) hx hb hw uM hown hK hP 0 rfl rfl 4 (by decide) (hw _ w2_102) (fun _ h9 => h9) rfl dM_suits_31 ?_
          refine lv_iload_n hx hb dM_suits_34 rfl (lv_at hl 0 rfl) ?_
          refine nv_iald (i := j) (f := hg) hx hb hK hP 3 0 rfl rfl (by omega) (by omega) dM_suits_35 ?_
          refine nv_icmp_ne (x := lw k) (y := hg j) (tgt := 43) hx hb dM_suits_36 rfl (by omega) (by omega) (fun hc36 => ?_) (fun hc36 => ?_)
          · refine lv_iconst (v := nI 0) hx hb dM_suits_43 (by decide) ?_
            exact J44 0 (by rw [if_neg (fun h9 => h9.elim hc21 hc36)]) ls hl
          · refine lv_iconst (v := nI 1) hx hb dM_suits_39 (by decide) ?_
            refine lv_goto (tgt := 44) hx hb dM_suits_40 rfl ?_
            exact J44 1 (by first | rw [if_pos (Or.inl hc21)] | rw [if_pos (Or.inr hc36)]) ls hl
  exact L4 _ 0 rfl (Nat.zero_le _) ls hl

set_option maxHeartbeats 4000000 in
set_option maxRecDepth 100000 in
theorem cM_advance_c (l : Launch) (D : va_G) (A : Nat → Prop) (g0 b1 b2 b3 b4 b5 : Nat) (cA : ClassId) (n ft : Nat) (ed lw hg od ud : Nat → Nat) (k : Nat) (hk : k < 8) (h1 : lw k ≤ ud k) (h2 : ud k ≤ 32) (h3 : hg k ≤ 32) : Met l yM_advance (Cond.code yM_advance cM_advance 4 (some FieldType.boolean) :: bw) (rmL 1) (va_Pc [.ref g0, .int (nI k)] (gW D vwCl A [(g0, .inr (1, [.int (nI n), .ref b1, .int (nI ft), .ref b2, .ref b3, .ref b4, .ref b5])), (b1, .inl (cA, 64, .inl (fun j => nI (ed j)))), (b2, .inl (cA, 8, .inl (fun j => nI (lw j)))), (b3, .inl (cA, 8, .inl (fun j => nI (hg j)))), (b4, .inl (cA, 8, .inl (fun j => nI (od j)))), (b5, .inl (cA, 9, .inl (fun j => nI (ud j))))] [(cA, .int)])) (va_Qi (adP k (ud k) (lw k) (hg k) lw hg) (fun u => gW D vwCl A [(g0, .inr (1, [.int (nI n), .ref b1, .int (nI ft), .ref b2, .ref b3, .ref b4, .ref b5])), (b1, .inl (cA, 64, .inl (fun j => nI (ed j)))), (b2, .inl (cA, 8, .inl (fun j => nI (u.1 j)))), (b3, .inl (cA, 8, .inl (fun j => nI (u.2 j)))), (b4, .inl (cA, 8, .inl (fun j => nI (od j)))), (b5, .inl (cA, 9, .inl (fun j => nI (ud j))))] [(cA, .int)]) A) 0 0 A := by
  refine Met.ofW (cc := cM_advance) (maxL := 4) (ret := (some FieldType.boolean)) (by decide) rfl ?_
  intro p e s m args below meth c s₁ B9 hml hv9
  obtain ⟨rfl, hP, hK, hD⟩ := hv9
  have hx := B9.exec
  have hb := B9.bytes
  have hr := B9.returns
  have hts := atoms_spec (ws := (Cond.code yM_advance cM_advance 4 (some FieldType.boolean) :: bw)) B9.pre
  have hw : ∀ w ∈ bw, w.before _ s = true := fun w h => hts w (List.mem_cons_of_mem _ h)
  have hown : s.vm.findClass RM = some m.cls := findClass_of_methodNamed B9.named
  have hlocks := B9.notSynchronized
  have hl := lv_entry ([.ref g0, .int (nI k)]) (n := 4) (Nat.le_of_ble_eq_true rfl)
  rw [lg_entry_eq]
  generalize (lg_sl ([.ref g0, .int (nI k)]) ++ List.replicate (4 - (lg_sl ([.ref g0, .int (nI k)])).length) Slot.unset).toArray = ls at hl ⊢
  have hl : lv_has ls 4 [(0, .ref g0), (1, .int (nI k))] := hl
  have hS : va_S A s.heap s.heap [] := va_S.rf
  refine lv_aload_n hx hb dM_advance_0 rfl (lv_at hl 0 rfl) ?_
  refine va_get (D := D) (ci := 1) (v := .ref b5) (C := RM) (T := TM) (N := 7) hx hb hw uM hown hK hP 0 rfl rfl 6 (by decide) (hw _ w2_104) (fun _ h9 => h9) rfl dM_advance_1 ?_
  refine lv_iload_n hx hb dM_advance_4 rfl (lv_at hl 1 rfl) ?_
  refine nv_iald (i := k) (f := ud) hx hb hK hP 5 0 rfl rfl (by omega) (by omega) dM_advance_5 ?_
  refine lv_istore_n hx hb dM_advance_6 rfl hl (by decide) (lv' := [(2, .int (nI (ud k))), (0, .ref g0), (1, .int (nI k))]) rfl (fun ls hl => ?_)
  refine lv_aload_n hx hb dM_advance_7 rfl (lv_at hl 1 rfl) ?_
  refine va_get (D := D) (ci := 1) (v := .ref b2) (C := RM) (T := TM) (N := 7) hx hb hw uM hown hK hP 0 rfl rfl 3 (by decide) (hw _ w2_101) (fun _ h9 => h9) rfl dM_advance_8 ?_
  refine lv_iload_n hx hb dM_advance_11 rfl (lv_at hl 2 rfl) ?_
  refine nv_iald (i := k) (f := lw) hx hb hK hP 2 0 rfl rfl (by omega) (by omega) dM_advance_12 ?_
  refine lv_iload_n hx hb dM_advance_13 rfl (lv_at hl 0 rfl) ?_
  refine nv_icmp_ne (x := lw k) (y := ud k) (tgt := 23) hx hb dM_advance_14 rfl (by omega) (by omega) (fun hc14 => ?_) (fun hc14 => ?_)
  · refine lv_iload_n hx hb dM_advance_23 rfl (lv_at hl 0 rfl) ?_
    refine lv_istore_n hx hb dM_advance_24 rfl hl (by decide) (lv' := [(3, .int (nI (ud k))), (2, .int (nI (ud k))), (0, .ref g0), (1, .int (nI k))]) rfl (fun ls hl => ?_)
    refine lv_aload_n hx hb dM_advance_25 rfl (lv_at hl 2 rfl) ?_
    refine va_get (D := D) (ci := 1) (v := .ref b3) (C := RM) (T := TM) (N := 7) hx hb hw uM hown hK hP 0 rfl rfl 4 (by decide) (hw _ w2_102) (fun _ h9 => h9) rfl dM_advance_26 ?_
    refine lv_iload_n hx hb dM_advance_29 rfl (lv_at hl 3 rfl) ?_
    refine nv_iald (i := k) (f := hg) hx hb hK hP 3 0 rfl rfl (by omega) (by omega) dM_advance_30 ?_
    refine lv_iload_n hx hb dM_advance_31 rfl (lv_at hl 0 rfl) ?_
    refine nv_icmp_ge (x := hg k) (y := ud k) (tgt := 48) hx hb dM_advance_32 rfl (by omega) (by omega) (fun hc32 => ?_) (fun hc32 => ?_)
    · refine lv_aload_n hx hb dM_advance_48 rfl (lv_at hl 2 rfl) ?_
      refine va_get (D := D) (ci := 1) (v := .ref b2) (C := RM) (T := TM) (N := 7) hx hb hw uM hown hK hP 0 rfl rfl 3 (by decide) (hw _ w2_101) (fun _ h9 => h9) rfl dM_advance_49 ?_
      refine lv_iload_n hx hb dM_advance_52 rfl (lv_at hl 3 rfl) ?_
      refine lv_dup2_11 hx hb dM_advance_53 rfl rfl ?_
      refine nv_iald (i := k) (f := lw) hx hb hK hP 2 0 rfl rfl (by omega) (by omega) dM_advance_54 ?_
      refine lv_iconst (v := nI 1) hx hb dM_advance_55 (by decide) ?_
      refine nv_iadd (x := lw k) (y := 1) hx hb dM_advance_56 ?_
      refine nv_iast (i := k) (x := (lw k) + 1) (f := lw) hx hb hK hP hD hS 2 0 rfl rfl (by omega) (by omega) dM_advance_57 (fun H locs hP hD hS => ?_)
      have hP : va_P D vwCl [(g0, .inr (1, [.int (nI n), .ref b1, .int (nI ft), .ref b2, .ref b3, .ref b4, .ref b5])), (b1, .inl (cA, 64, .inl (fun j => nI (ed j)))), (b2, .inl (cA, 8, .inl (fun j => nI ((upN lw k ((lw k) + 1)) j)))), (b3, .inl (cA, 8, .inl (fun j => nI (hg j)))), (b4, .inl (cA, 8, .inl (fun j => nI (od j)))), (b5, .inl (cA, 9, .inl (fun j => nI (ud j))))] H := hP
      have hD : va_D A [(g0, .inr (1, [.int (nI n), .ref b1, .int (nI ft), .ref b2, .ref b3, .ref b4, .ref b5])), (b1, .inl (cA, 64, .inl (fun j => nI (ed j)))), (b2, .inl (cA, 8, .inl (fun j => nI ((upN lw k ((lw k) + 1)) j)))), (b3, .inl (cA, 8, .inl (fun j => nI (hg j)))), (b4, .inl (cA, 8, .inl (fun j => nI (od j)))), (b5, .inl (cA, 9, .inl (fun j => nI (ud j))))] := hD
      refine lv_aload_n hx hb dM_advance_58 rfl (lv_at hl 2 rfl) ?_
      refine va_get (D := D) (ci := 1) (v := .ref b3) (C := RM) (T := TM) (N := 7) hx hb hw uM hown hK hP 0 rfl rfl 4 (by decide) (hw _ w2_102) (fun _ h9 => h9) rfl dM_advance_59 ?_
      refine lv_iload_n hx hb dM_advance_62 rfl (lv_at hl 3 rfl) ?_
      refine lv_aload_n hx hb dM_advance_63 rfl (lv_at hl 2 rfl) ?_
      refine va_get (D := D) (ci := 1) (v := .ref b2) (C := RM) (T := TM) (N := 7) hx hb hw uM hown hK hP 0 rfl rfl 3 (by decide) (hw _ w2_101) (fun _ h9 => h9) rfl dM_advance_64 ?_
      refine lv_iload_n hx hb dM_advance_67 rfl (lv_at hl 3 rfl) ?_
      refine nv_iald (i := k) (f := upN lw k ((lw k) + 1)) hx hb hK hP 2 0 rfl rfl (by omega) (by omega) dM_advance_68 ?_
      rw [upN_s lw k (lw k + 1)]
      refine lv_iconst (v := nI 1) hx hb dM_advance_69 (by decide) ?_
      refine nv_iadd (x := lw k + 1) (y := 1) hx hb dM_advance_70 ?_
      refine nv_iast (i := k) (x := (lw k + 1) + 1) (f := hg) hx hb hK hP hD hS 3 0 rfl rfl (by omega) (by omega) dM_advance_71 (fun H locs hP hD hS => ?_)
      have hP : va_P D vwCl [(g0, .inr (1, [.int (nI n), .ref b1, .int (nI ft), .ref b2, .ref b3, .ref b4, .ref b5])), (b1, .inl (cA, 64, .inl (fun j => nI (ed j)))), (b2, .inl (cA, 8, .inl (fun j => nI ((upN lw k ((lw k) + 1)) j)))), (b3, .inl (cA, 8, .inl (fun j => nI ((upN hg k ((lw k + 1) + 1)) j)))), (b4, .inl (cA, 8, .inl (fun j => nI (od j)))), (b5, .inl (cA, 9, .inl (fun j => nI (ud j))))] H := hP
      have hD : va_D A [(g0, .inr (1, [.int (nI n), .ref b1, .int (nI ft), .ref b2, .ref b3, .ref b4, .ref b5])), (b1, .inl (cA, 64, .inl (fun j => nI (ed j)))), (b2, .inl (cA, 8, .inl (fun j => nI ((upN lw k ((lw k) + 1)) j)))), (b3, .inl (cA, 8, .inl (fun j => nI ((upN hg k ((lw k + 1) + 1)) j)))), (b4, .inl (cA, 8, .inl (fun j => nI (od j)))), (b5, .inl (cA, 9, .inl (fun j => nI (ud j))))] := hD
      refine lv_aload_n hx hb dM_advance_72 rfl (lv_at hl 2 rfl) ?_
      refine va_get (D := D) (ci := 1) (v := .ref b2) (C := RM) (T := TM) (N := 7) hx hb hw uM hown hK hP 0 rfl rfl 3 (by decide) (hw _ w2_101) (fun _ h9 => h9) rfl dM_advance_73 ?_
      refine lv_iload_n hx hb dM_advance_76 rfl (lv_at hl 3 rfl) ?_
      refine nv_iald (i := k) (f := upN lw k ((lw k) + 1)) hx hb hK hP 2 0 rfl rfl (by omega) (by omega) dM_advance_77 ?_
      rw [upN_s lw k (lw k + 1)]
      refine lv_iload_n hx hb dM_advance_78 rfl (lv_at hl 1 rfl) ?_
      refine nv_icmp_gt (x := lw k + 1) (y := ud k) (tgt := 86) hx hb dM_advance_79 rfl (by omega) (by omega) (fun hc79 => ?_) (fun hc79 => ?_)
      · refine lv_iconst (v := nI 0) hx hb dM_advance_86 (by decide) ?_
        obtain ⟨hA, hB⟩ := ad_out (us := ud k) (a := lw k) (b := hg k) (by omega)
        exact W.zret (v := (nI 0)) hx hb hr rfl (fun t ht hW => ⟨⟨_, (upN lw k ((lw k) + 1), upN hg k ((lw k + 1) + 1)), rfl, ⟨by rw [hA, decide_eq_false (by omega)]; rfl, by rw [hA]; exact upN_s _ _ _, by rw [hB]; exact upN_s _ _ _, fun j hj => ⟨upN_n _ _ hj, upN_n _ _ hj⟩⟩, by rw [ht]; exact hP, va_K.moved hW.alike hK, hD⟩, hS.F ht⟩) hS.2.2 dM_advance_87
      · refine lv_iconst (v := nI 1) hx hb dM_advance_82 (by decide) ?_
        refine lv_goto (tgt := 87) hx hb dM_advance_83 rfl ?_
        obtain ⟨hA, hB⟩ := ad_out (us := ud k) (a := lw k) (b := hg k) (by omega)
        exact W.zret (v := (nI 1)) hx hb hr rfl (fun t ht hW => ⟨⟨_, (upN lw k ((lw k) + 1), upN hg k ((lw k + 1) + 1)), rfl, ⟨by rw [hA, decide_eq_true (by omega)]; rfl, by rw [hA]; exact upN_s _ _ _, by rw [hB]; exact upN_s _ _ _, fun j hj => ⟨upN_n _ _ hj, upN_n _ _ hj⟩⟩, by rw [ht]; exact hP, va_K.moved hW.alike hK, hD⟩, hS.F ht⟩) hS.2.2 dM_advance_87
    · refine lv_aload_n hx hb dM_advance_35 rfl (lv_at hl 2 rfl) ?_
      refine va_get (D := D) (ci := 1) (v := .ref b3) (C := RM) (T := TM) (N := 7) hx hb hw uM hown hK hP 0 rfl rfl 4 (by decide) (hw _ w2_102) (fun _ h9 => h9) rfl dM_advance_36 ?_
      refine lv_iload_n hx hb dM_advance_39 rfl (lv_at hl 3 rfl) ?_
      refine lv_dup2_11 hx hb dM_advance_40 rfl rfl ?_
      refine nv_iald (i := k) (f := hg) hx hb hK hP 3 0 rfl rfl (by omega) (by omega) dM_advance_41 ?_
      refine lv_iconst (v := nI 1) hx hb dM_advance_42 (by decide) ?_
      refine nv_iadd (x := hg k) (y := 1) hx hb dM_advance_43 ?_
      refine nv_iast (i := k) (x := (hg k) + 1) (f := hg) hx hb hK hP hD hS 3 0 rfl rfl (by omega) (by omega) dM_advance_44 (fun H locs hP hD hS => ?_)
      have hP : va_P D vwCl [(g0, .inr (1, [.int (nI n), .ref b1, .int (nI ft), .ref b2, .ref b3, .ref b4, .ref b5])), (b1, .inl (cA, 64, .inl (fun j => nI (ed j)))), (b2, .inl (cA, 8, .inl (fun j => nI (lw j)))), (b3, .inl (cA, 8, .inl (fun j => nI ((upN hg k ((hg k) + 1)) j)))), (b4, .inl (cA, 8, .inl (fun j => nI (od j)))), (b5, .inl (cA, 9, .inl (fun j => nI (ud j))))] H := hP
      have hD : va_D A [(g0, .inr (1, [.int (nI n), .ref b1, .int (nI ft), .ref b2, .ref b3, .ref b4, .ref b5])), (b1, .inl (cA, 64, .inl (fun j => nI (ed j)))), (b2, .inl (cA, 8, .inl (fun j => nI (lw j)))), (b3, .inl (cA, 8, .inl (fun j => nI ((upN hg k ((hg k) + 1)) j)))), (b4, .inl (cA, 8, .inl (fun j => nI (od j)))), (b5, .inl (cA, 9, .inl (fun j => nI (ud j))))] := hD
      refine lv_goto (tgt := 72) hx hb dM_advance_45 rfl ?_
      refine lv_aload_n hx hb dM_advance_72 rfl (lv_at hl 2 rfl) ?_
      refine va_get (D := D) (ci := 1) (v := .ref b2) (C := RM) (T := TM) (N := 7) hx hb hw uM hown hK hP 0 rfl rfl 3 (by decide) (hw _ w2_101) (fun _ h9 => h9) rfl dM_advance_73 ?_
      refine lv_iload_n hx hb dM_advance_76 rfl (lv_at hl 3 rfl) ?_
      refine nv_iald (i := k) (f := lw) hx hb hK hP 2 0 rfl rfl (by omega) (by omega) dM_advance_77 ?_
      refine lv_iload_n hx hb dM_advance_78 rfl (lv_at hl 1 rfl) ?_
      refine nv_icmp_gt (x := lw k) (y := ud k) (tgt := 86) hx hb dM_advance_79 rfl (by omega) (by omega) (fun hc79 => ?_) (fun hc79 => ?_)
      · refine lv_iconst (v := nI 0) hx hb dM_advance_86 (by decide) ?_
        obtain ⟨hA, hB⟩ := ad_in (us := ud k) (a := lw k) (b := hg k) (by omega)
        exact W.zret (v := (nI 0)) hx hb hr rfl (fun t ht hW => ⟨⟨_, (lw, upN hg k ((hg k) + 1)), rfl, ⟨by rw [hA, decide_eq_false (by omega)]; rfl, by rw [hA], by rw [hB]; exact upN_s _ _ _, fun j hj => ⟨rfl, upN_n _ _ hj⟩⟩, by rw [ht]; exact hP, va_K.moved hW.alike hK, hD⟩, hS.F ht⟩) hS.2.2 dM_advance_87
      · refine lv_iconst (v := nI 1) hx hb dM_advance_82 (by decide) ?_
        refine lv_goto (tgt := 87) hx hb dM_advance_83 rfl ?_
        obtain ⟨hA, hB⟩ := ad_in (us := ud k) (a := lw k) (b := hg k) (by omega)
        exact W.zret (v := (nI 1)) hx hb hr rfl (fun t ht hW => ⟨⟨_, (lw, upN hg k ((hg k) + 1)), rfl, ⟨by rw [hA, decide_eq_true (by omega)]; rfl, by rw [hA], by rw [hB]; exact upN_s _ _ _, fun j hj => ⟨rfl, upN_n _ _ hj⟩⟩, by rw [ht]; exact hP, va_K.moved hW.alike hK, hD⟩, hS.F ht⟩) hS.2.2 dM_advance_87
  · refine lv_iload_n hx hb dM_advance_17 rfl (lv_at hl 0 rfl) ?_
    refine lv_iconst (v := nI 1) hx hb dM_advance_18 (by decide) ?_
    refine nv_iadd (x := ud k) (y := 1) hx hb dM_advance_19 ?_
    refine lv_goto (tgt := 24) hx hb dM_advance_20 rfl ?_
    refine lv_istore_n hx hb dM_advance_24 rfl hl (by decide) (lv' := [(3, .int (nI ((ud k) + 1))), (2, .int (nI (ud k))), (0, .ref g0), (1, .int (nI k))]) rfl (fun ls hl => ?_)
    refine lv_aload_n hx hb dM_advance_25 rfl (lv_at hl 2 rfl) ?_
    refine va_get (D := D) (ci := 1) (v := .ref b3) (C := RM) (T := TM) (N := 7) hx hb hw uM hown hK hP 0 rfl rfl 4 (by decide) (hw _ w2_102) (fun _ h9 => h9) rfl dM_advance_26 ?_
    refine lv_iload_n hx hb dM_advance_29 rfl (lv_at hl 3 rfl) ?_
    refine nv_iald (i := k) (f := hg) hx hb hK hP 3 0 rfl rfl (by omega) (by omega) dM_advance_30 ?_
    refine lv_iload_n hx hb dM_advance_31 rfl (lv_at hl 0 rfl) ?_
    refine nv_icmp_ge (x := hg k) (y := (ud k) + 1) (tgt := 48) hx hb dM_advance_32 rfl (by omega) (by omega) (fun hc32 => ?_) (fun hc32 => ?_)
    · refine lv_aload_n hx hb dM_advance_48 rfl (lv_at hl 2 rfl) ?_
      refine va_get (D := D) (ci := 1) (v := .ref b2) (C := RM) (T := TM) (N := 7) hx hb hw uM hown hK hP 0 rfl rfl 3 (by decide) (hw _ w2_101) (fun _ h9 => h9) rfl dM_advance_49 ?_
      refine lv_iload_n hx hb dM_advance_52 rfl (lv_at hl 3 rfl) ?_
      refine lv_dup2_11 hx hb dM_advance_53 rfl rfl ?_
      refine nv_iald (i := k) (f := lw) hx hb hK hP 2 0 rfl rfl (by omega) (by omega) dM_advance_54 ?_
      refine lv_iconst (v := nI 1) hx hb dM_advance_55 (by decide) ?_
      refine nv_iadd (x := lw k) (y := 1) hx hb dM_advance_56 ?_
      refine nv_iast (i := k) (x := (lw k) + 1) (f := lw) hx hb hK hP hD hS 2 0 rfl rfl (by omega) (by omega) dM_advance_57 (fun H locs hP hD hS => ?_)
      have hP : va_P D vwCl [(g0, .inr (1, [.int (nI n), .ref b1, .int (nI ft), .ref b2, .ref b3, .ref b4, .ref b5])), (b1, .inl (cA, 64, .inl (fun j => nI (ed j)))), (b2, .inl (cA, 8, .inl (fun j => nI ((upN lw k ((lw k) + 1)) j)))), (b3, .inl (cA, 8, .inl (fun j => nI (hg j)))), (b4, .inl (cA, 8, .inl (fun j => nI (od j)))), (b5, .inl (cA, 9, .inl (fun j => nI (ud j))))] H := hP
      have hD : va_D A [(g0, .inr (1, [.int (nI n), .ref b1, .int (nI ft), .ref b2, .ref b3, .ref b4, .ref b5])), (b1, .inl (cA, 64, .inl (fun j => nI (ed j)))), (b2, .inl (cA, 8, .inl (fun j => nI ((upN lw k ((lw k) + 1)) j)))), (b3, .inl (cA, 8, .inl (fun j => nI (hg j)))), (b4, .inl (cA, 8, .inl (fun j => nI (od j)))), (b5, .inl (cA, 9, .inl (fun j => nI (ud j))))] := hD
      refine lv_aload_n hx hb dM_advance_58 rfl (lv_at hl 2 rfl) ?_
      refine va_get (D := D) (ci := 1) (v := .ref b3) (C := RM) (T := TM) (N := 7) hx hb hw uM hown hK hP 0 rfl rfl 4 (by decide) (hw _ w2_102) (fun _ h9 => h9) rfl dM_advance_59 ?_
      refine lv_iload_n hx hb dM_advance_62 rfl (lv_at hl 3 rfl) ?_
      refine lv_aload_n hx hb dM_advance_63 rfl (lv_at hl 2 rfl) ?_
      refine va_get (D := D) (ci := 1) (v := .ref b2) (C := RM) (T := TM) (N := 7) hx hb hw uM hown hK hP 0 rfl rfl 3 (by decide) (hw _ w2_101) (fun _ h9 => h9) rfl dM_advance_64 ?_
      refine lv_iload_n hx hb dM_advance_67 rfl (lv_at hl 3 rfl) ?_
      refine nv_iald (i := k) (f := upN lw k ((lw k) + 1)) hx hb hK hP 2 0 rfl rfl (by omega) (by omega) dM_advance_68 ?_
      rw [upN_s lw k (lw k + 1)]
      refine lv_iconst (v := nI 1) hx hb dM_advance_69 (by decide) ?_
      refine nv_iadd (x := lw k + 1) (y := 1) hx hb dM_advance_70 ?_
      refine nv_iast (i := k) (x := (lw k + 1) + 1) (f := hg) hx hb hK hP hD hS 3 0 rfl rfl (by omega) (by omega) dM_advance_71 (fun H locs hP hD hS => ?_)
      have hP : va_P D vwCl [(g0, .inr (1, [.int (nI n), .ref b1, .int (nI ft), .ref b2, .ref b3, .ref b4, .ref b5])), (b1, .inl (cA, 64, .inl (fun j => nI (ed j)))), (b2, .inl (cA, 8, .inl (fun j => nI ((upN lw k ((lw k) + 1)) j)))), (b3, .inl (cA, 8, .inl (fun j => nI ((upN hg k ((lw k + 1) + 1)) j)))), (b4, .inl (cA, 8, .inl (fun j => nI (od j)))), (b5, .inl (cA, 9, .inl (fun j => nI (ud j))))] H := hP
      have hD : va_D A [(g0, .inr (1, [.int (nI n), .ref b1, .int (nI ft), .ref b2, .ref b3, .ref b4, .ref b5])), (b1, .inl (cA, 64, .inl (fun j => nI (ed j)))), (b2, .inl (cA, 8, .inl (fun j => nI ((upN lw k ((lw k) + 1)) j)))), (b3, .inl (cA, 8, .inl (fun j => nI ((upN hg k ((lw k + 1) + 1)) j)))), (b4, .inl (cA, 8, .inl (fun j => nI (od j)))), (b5, .inl (cA, 9, .inl (fun j => nI (ud j))))] := hD
      refine lv_aload_n hx hb dM_advance_72 rfl (lv_at hl 2 rfl) ?_
      refine va_get (D := D) (ci := 1) (v := .ref b2) (C := RM) (T := TM) (N := 7) hx hb hw uM hown hK hP 0 rfl rfl 3 (by decide) (hw _ w2_101) (fun _ h9 => h9) rfl dM_advance_73 ?_
      refine lv_iload_n hx hb dM_advance_76 rfl (lv_at hl 3 rfl) ?_
      refine nv_iald (i := k) (f := upN lw k ((lw k) + 1)) hx hb hK hP 2 0 rfl rfl (by omega) (by omega) dM_advance_77 ?_
      rw [upN_s lw k (lw k + 1)]
      refine lv_iload_n hx hb dM_advance_78 rfl (lv_at hl 1 rfl) ?_
      refine nv_icmp_gt (x := lw k + 1) (y := ud k) (tgt := 86) hx hb dM_advance_79 rfl (by omega) (by omega) (fun hc79 => ?_) (fun hc79 => ?_)
      · refine lv_iconst (v := nI 0) hx hb dM_advance_86 (by decide) ?_
        obtain ⟨hA, hB⟩ := ad_out (us := ud k) (a := lw k) (b := hg k) (by omega)
        exact W.zret (v := (nI 0)) hx hb hr rfl (fun t ht hW => ⟨⟨_, (upN lw k ((lw k) + 1), upN hg k ((lw k + 1) + 1)), rfl, ⟨by rw [hA, decide_eq_false (by omega)]; rfl, by rw [hA]; exact upN_s _ _ _, by rw [hB]; exact upN_s _ _ _, fun j hj => ⟨upN_n _ _ hj, upN_n _ _ hj⟩⟩, by rw [ht]; exact hP, va_K.moved hW.alike hK, hD⟩, hS.F ht⟩) hS.2.2 dM_advance_87
      · refine lv_iconst (v := nI 1) hx hb dM_advance_82 (by decide) ?_
        refine lv_goto (tgt := 87) hx hb dM_advance_83 rfl ?_
        obtain ⟨hA, hB⟩ := ad_out (us := ud k) (a := lw k) (b := hg k) (by omega)
        exact W.zret (v := (nI 1)) hx hb hr rfl (fun t ht hW => ⟨⟨_, (upN lw k ((lw k) + 1), upN hg k ((lw k + 1) + 1)), rfl, ⟨by rw [hA, decide_eq_true (by omega)]; rfl, by rw [hA]; exact upN_s _ _ _, by rw [hB]; exact upN_s _ _ _, fun j hj => ⟨upN_n _ _ hj, upN_n _ _ hj⟩⟩, by rw [ht]; exact hP, va_K.moved hW.alike hK, hD⟩, hS.F ht⟩) hS.2.2 dM_advance_87
    · refine lv_aload_n hx hb dM_advance_35 rfl (lv_at hl 2 rfl) ?_
      refine va_get (D := D) (ci := 1) (v := .ref b3) (C := RM) (T := TM) (N := 7) hx hb hw uM hown hK hP 0 rfl rfl 4 (by decide) (hw _ w2_102) (fun _ h9 => h9) rfl dM_advance_36 ?_
      refine lv_iload_n hx hb dM_advance_39 rfl (lv_at hl 3 rfl) ?_
      refine lv_dup2_11 hx hb dM_advance_40 rfl rfl ?_
      refine nv_iald (i := k) (f := hg) hx hb hK hP 3 0 rfl rfl (by omega) (by omega) dM_advance_41 ?_
      refine lv_iconst (v := nI 1) hx hb dM_advance_42 (by decide) ?_
      refine nv_iadd (x := hg k) (y := 1) hx hb dM_advance_43 ?_
      refine nv_iast (i := k) (x := (hg k) + 1) (f := hg) hx hb hK hP hD hS 3 0 rfl rfl (by omega) (by omega) dM_advance_44 (fun H locs hP hD hS => ?_)
      have hP : va_P D vwCl [(g0, .inr (1, [.int (nI n), .ref b1, .int (nI ft), .ref b2, .ref b3, .ref b4, .ref b5])), (b1, .inl (cA, 64, .inl (fun j => nI (ed j)))), (b2, .inl (cA, 8, .inl (fun j => nI (lw j)))), (b3, .inl (cA, 8, .inl (fun j => nI ((upN hg k ((hg k) + 1)) j)))), (b4, .inl (cA, 8, .inl (fun j => nI (od j)))), (b5, .inl (cA, 9, .inl (fun j => nI (ud j))))] H := hP
      have hD : va_D A [(g0, .inr (1, [.int (nI n), .ref b1, .int (nI ft), .ref b2, .ref b3, .ref b4, .ref b5])), (b1, .inl (cA, 64, .inl (fun j => nI (ed j)))), (b2, .inl (cA, 8, .inl (fun j => nI (lw j)))), (b3, .inl (cA, 8, .inl (fun j => nI ((upN hg k ((hg k) + 1)) j)))), (b4, .inl (cA, 8, .inl (fun j => nI (od j)))), (b5, .inl (cA, 9, .inl (fun j => nI (ud j))))] := hD
      refine lv_goto (tgt := 72) hx hb dM_advance_45 rfl ?_
      refine lv_aload_n hx hb dM_advance_72 rfl (lv_at hl 2 rfl) ?_
      refine va_get (D := D) (ci := 1) (v := .ref b2) (C := RM) (T := TM) (N := 7) hx hb hw uM hown hK hP 0 rfl rfl 3 (by decide) (hw _ w2_101) (fun _ h9 => h9) rfl dM_advance_73 ?_
      refine lv_iload_n hx hb dM_advance_76 rfl (lv_at hl 3 rfl) ?_
      refine nv_iald (i := k) (f := lw) hx hb hK hP 2 0 rfl rfl (by omega) (by omega) dM_advance_77 ?_
      refine lv_iload_n hx hb dM_advance_78 rfl (lv_at hl 1 rfl) ?_
      refine nv_icmp_gt (x := lw k) (y := ud k) (tgt := 86) hx hb dM_advance_79 rfl (by omega) (by omega) (fun hc79 => ?_) (fun hc79 => ?_)
      · refine lv_iconst (v := nI 0) hx hb dM_advance_86 (by decide) ?_
        obtain ⟨hA, hB⟩ := ad_in (us := ud k) (a := lw k) (b := hg k) (by omega)
        exact W.zret (v := (nI 0)) hx hb hr rfl (fun t ht hW => ⟨⟨_, (lw, upN hg k ((hg k) + 1)), rfl, ⟨by rw [hA, decide_eq_false (by omega)]; rfl, by rw [hA], by rw [hB]; exact upN_s _ _ _, fun j hj => ⟨rfl, upN_n _ _ hj⟩⟩, by rw [ht]; exact hP, va_K.moved hW.alike hK, hD⟩, hS.F ht⟩) hS.2.2 dM_advance_87
      · refine lv_iconst (v := nI 1) hx hb dM_advance_82 (by decide) ?_
        refine lv_goto (tgt := 87) hx hb dM_advance_83 rfl ?_
        obtain ⟨hA, hB⟩ := ad_in (us := ud k) (a := lw k) (b := hg k) (by omega)
        exact W.zret (v := (nI 1)) hx hb hr rfl (fun t ht hW => ⟨⟨_, (lw, upN hg k ((hg k) + 1)), rfl, ⟨by rw [hA, decide_eq_true (by omega)]; rfl, by rw [hA], by rw [hB]; exact upN_s _ _ _, fun j hj => ⟨rfl, upN_n _ _ hj⟩⟩, by rw [ht]; exact hP, va_K.moved hW.alike hK, hD⟩, hS.F ht⟩) hS.2.2 dM_advance_87
