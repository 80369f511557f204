theorem b1_0 {a k : Nat} (h : (a >>> k) &&& 1 = 0) : a.testBit k = false := by
  rw [bit_num] at h
  cases hb : a.testBit k with
  | false => rfl
  | true => rw [hb] at h; exact absurd h (by decide)
theorem b1_1 {a k : Nat} (h : ¬ (a >>> k) &&& 1 = 0) : a.testBit k = true := by
  rw [bit_num] at h
  cases hb : a.testBit k with
  | true => rfl
  | false => rw [hb] at h; exact absurd rfl h
theorem b1_t {a k : Nat} (h : (a >>> k) &&& 1 = 1) : a.testBit k = true := b1_1 (by omega)
theorem b1_f {a k : Nat} (h : ¬ (a >>> k) &&& 1 = 1) : a.testBit k = false := b1_0 (by have := @Nat.and_le_right (a >>> k) 1; omega)
section AL9
variable {ed : Nat → Nat} {set how u v : Nat} {g : Bool}
theorem al_s : mAlr ed set how u (v + 1) g = (mAlr ed set how u v g && (!set.testBit u || !set.testBit v || decide (ed (8 * u + v) = how))) := rfl
theorem al_t1 (h : mAlr ed set how u v g = true) (h1 : (set >>> u) &&& 1 = 0) : mAlr ed set how u (v + 1) g = true := by
  rw [al_s, h, b1_0 h1]; rfl
theorem al_t2 (h : mAlr ed set how u v g = true) (h1 : (set >>> v) &&& 1 = 0) : mAlr ed set how u (v + 1) g = true := by
  rw [al_s, h, b1_0 h1]; cases set.testBit u <;> rfl
theorem al_t3 (h : mAlr ed set how u v g = true) (h1 : ed (8 * u + v) = how) : mAlr ed set how u (v + 1) g = true := by
  rw [al_s, h, decide_eq_true h1]; cases set.testBit u <;> cases set.testBit v <;> rfl
theorem al_f1 (h : mAlr ed set how u v g = false) : mAlr ed set how u (v + 1) g = false := by
  rw [al_s, h]; rfl
theorem al_f2 (h1 : ¬ (set >>> u) &&& 1 = 0) (h2 : ¬ (set >>> v) &&& 1 = 0) (h3 : ¬ ed (8 * u + v) = how) : mAlr ed set how u (v + 1) g = false := by
  rw [al_s, b1_1 h1, b1_1 h2, decide_eq_false h3]; cases mAlr ed set how u v g <;> rfl
end AL9
theorem jBest_1 {P : Nat → Bool} : jBest P 1 = 0 := by
  have e : jBest P 1 = if pcN 0 < pcN 0 ∧ P 0 = true then 0 else 0 := rfl
  rw [e]
  split <;> rfl
theorem and1 (a k : Nat) : (a >>> k) &&& 1 ≤ 1 := Nat.and_le_right

set_option maxHeartbeats 4000000 in
set_option maxRecDepth 100000 in
theorem cM_alike_c (l : Launch) (D : va_G) (A : Nat → Prop) (g0 b1 b2 b3 b4 b5 : Nat) (cA : ClassId) (n ft : Nat) (ed lw hg od ud : Nat → Nat) (set how : Nat) (hn : n ≤ 8)(hed1 : ∀ k, k < 64 → ed k ≤ 1)(hset : set < 256) (hhow : how ≤ 1) : Rd l yM_alike (Cond.code yM_alike cM_alike 6 (some FieldType.boolean) :: bw) (rmL 1) [.ref g0, .int (nI set), .int (nI how)] (gB D vwCl [(g0, .inr (1, [.int (nI n), .ref b1, .int (nI ft), .ref b2, .ref b3, .ref b4, .ref b5])), (b1, .inl (cA, 64, .inl (fun j => nI (ed j)))), (b2, .inl (cA, 8, .inl (fun j => nI (lw j)))), (b3, .inl (cA, 8, .inl (fun j => nI (hg j)))), (b4, .inl (cA, 8, .inl (fun j => nI (od j)))), (b5, .inl (cA, 9, .inl (fun j => nI (ud j))))] [(cA, .int)]) ((bI (mAl ed set how n))) := by
  refine Met.ofW (cc := cM_alike) (maxL := 6) (ret := (some FieldType.boolean)) (by decide) rfl ?_
  intro p e s m args below meth c s₁ B9 hml hv
  obtain ⟨rfl, hP, hK⟩ := hv
  have hx := B9.exec
  have hb := B9.bytes
  have hr := B9.returns
  have hts := atoms_spec (ws := (Cond.code yM_alike cM_alike 6 (some FieldType.boolean) :: bw)) B9.pre
  have hw : ∀ w ∈ bw, w.before _ s = true := fun w h => hts w (List.mem_cons_of_mem _ h)
  have hown : s.vm.findClass RM = some m.cls := findClass_of_methodNamed B9.named
  have hlocks := B9.notSynchronized
  have hl := lv_entry ([.ref g0, .int (nI set), .int (nI how)]) (n := 6) (Nat.le_of_ble_eq_true rfl)
  rw [lg_entry_eq]
  generalize (lg_sl ([.ref g0, .int (nI set), .int (nI how)]) ++ List.replicate (6 - (lg_sl ([.ref g0, .int (nI set), .int (nI how)])).length) Slot.unset).toArray = ls at hl ⊢
  have hl : lv_has ls 6 [(0, .ref g0), (1, .int (nI set)), (2, .int (nI how))] := hl
  refine lv_iconst (v := nI 1) hx hb dM_alike_0 (by decide) ?_
  refine lv_istore_n hx hb dM_alike_1 rfl hl (by decide) (lv' := [(3, .int (nI 1)), (0, .ref g0), (1, .int (nI set)), (2, .int (nI how))]) rfl (fun ls hl => ?_)
  refine lv_iconst (v := nI 0) hx hb dM_alike_2 (by decide) ?_
  refine lv_istore hx hb dM_alike_3 hl (by decide) (lv' := [(4, .int (nI 0)), (3, .int (nI 1)), (0, .ref g0), (1, .int (nI set)), (2, .int (nI how))]) rfl (fun ls hl => ?_)
  have L5 : ∀ (k9 : Nat) (u : Nat), k9 = n - u → u ≤ n → ∀ (ls : Array Slot), lv_has ls 6 [(4, .int (nI u)), (3, .int (bI (mAl ed set how u))), (0, .ref g0), (1, .int (nI set)), (2, .int (nI how))] → W p l e (headSpec (Cond.code yM_alike cM_alike 6 (some FieldType.boolean) :: bw) (rmL 1)).room s m ([.ref g0, .int (nI set), .int (nI how)] : List Value).toArray below meth c s.heap [] 0 0 (MQ below (QcRead ((bI (mAl ed set how n)))) ([.ref g0, .int (nI set), .int (nI how)] : List Value).toArray s 0 0 (fun _ => False)) (F0 m 5 ls []) := by
    intro k9
    induction k9 using Nat.strongRecOn with
    | _ k9 ih5 =>
      intro u hk9 hu9 ls hl
      refine lv_iload hx hb dM_alike_5 (lv_at hl 0 rfl) ?_
      refine lv_aload_n hx hb dM_alike_7 rfl (lv_at hl 2 rfl) ?_
      refine va_get (D := D) (ci := 1) (v := .int (nI n)) (C := RM) (T := TM) (N := 7) hx hb hw uM hown hK hP 0 rfl rfl 0 (by decide) (hw _ w2_98) (fun _ h9 => h9) rfl dM_alike_8 ?_
      refine nv_icmp_ge (x := u) (y := n) (tgt := 81) hx hb dM_alike_11 rfl (by omega) (by omega) (fun hc11 => ?_) (fun hc11 => ?_)
      · refine lv_iload_n hx hb dM_alike_81 rfl (lv_at hl 1 rfl) ?_
        exact W.zret (v := (bI (mAl ed set how u))) hx hb hr (nb_nar _) (fun t ht hW => ⟨by rw [show u = n by omega], ht⟩) (fun q h => by cases h) dM_alike_82
      · refine lv_iconst (v := nI 0) hx hb dM_alike_14 (by decide) ?_
        refine lv_istore hx hb dM_alike_15 hl (by decide) (lv' := [(5, .int (nI 0)), (4, .int (nI u)), (3, .int (bI (mAl ed set how u))), (0, .ref g0), (1, .int (nI set)), (2, .int (nI how))]) rfl (fun ls hl => ?_)
        have L17 : ∀ (k9 : Nat) (v : Nat), k9 = u - v → v ≤ u → ∀ (ls : Array Slot), lv_has ls 6 [(5, .int (nI v)), (4, .int (nI u)), (3, .int (bI (mAlr ed set how u v (mAl ed set how u)))), (0, .ref g0), (1, .int (nI set)), (2, .int (nI how))] → W p l e (headSpec (Cond.code yM_alike cM_alike 6 (some FieldType.boolean) :: bw) (rmL 1)).room s m ([.ref g0, .int (nI set), .int (nI how)] : List Value).toArray below meth c s.heap [] 0 0 (MQ below (QcRead ((bI (mAl ed set how n)))) ([.ref g0, .int (nI set), .int (nI how)] : List Value).toArray s 0 0 (fun _ => False)) (F0 m 17 ls []) := by
          intro k9
          induction k9 using Nat.strongRecOn with
          | _ k9 ih17 =>
            intro v hk9 hv9 ls hl
            refine lv_iload hx hb dM_alike_17 (lv_at hl 0 rfl) ?_
            refine lv_iload hx hb dM_alike_19 (lv_at hl 1 rfl) ?_
            refine nv_icmp_ge (x := v) (y := u) (tgt := 75) hx hb dM_alike_21 rfl (by omega) (by omega) (fun hc21 => ?_) (fun hc21 => ?_)
            · refine lv_iinc (k := 1) hx hb dM_alike_75 hl rfl (nb_inc _) (by decide) (lv' := [(4, .int (nI (u + 1))), (5, .int (nI v)), (3, .int (bI (mAlr ed set how u v (mAl ed set how u)))), (0, .ref g0), (1, .int (nI set)), (2, .int (nI how))]) rfl (fun ls hl => ?_)
              refine lv_goto (tgt := 5) hx hb dM_alike_78 rfl ?_
              have hl := lv_sub hl (l' := [(4, .int (nI (u + 1))), (3, .int (bI (mAlr ed set how u v (mAl ed set how u)))), (0, .ref g0), (1, .int (nI set)), (2, .int (nI how))]) [0, 2, 3, 4, 5] rfl
              have hl : lv_has ls 6 [(4, .int (nI (u + 1))), (3, .int (bI (mAl ed set how (u + 1)))), (0, .ref g0), (1, .int (nI set)), (2, .int (nI how))] := by rw [show mAl ed set how (u + 1) = mAlr ed set how u v (mAl ed set how u) from by rw [show v = u by omega]; rfl]; exact hl
              exact ih5 _ (by omega) (u + 1) rfl (by omega) ls hl
            · refine lv_iload_n hx hb dM_alike_24 rfl (lv_at hl 2 rfl) ?_
              refine nv_b_eq (x := mAlr ed set how u v (mAl ed set how u)) (tgt := 67) hx hb dM_alike_25 rfl (fun hc25 => ?_) (fun hc25 => ?_)
              · refine lv_iconst (v := nI 0) hx hb dM_alike_67 (by decide) ?_
                refine lv_istore_n hx hb dM_alike_68 rfl hl (by decide) (lv' := [(3, .int (nI 0)), (5, .int (nI v)), (4, .int (nI u)), (0, .ref g0), (1, .int (nI set)), (2, .int (nI how))]) rfl (fun ls hl => ?_)
                refine lv_iinc (k := 1) hx hb dM_alike_69 hl rfl (nb_inc _) (by decide) (lv' := [(5, .int (nI (v + 1))), (3, .int (nI 0)), (4, .int (nI u)), (0, .ref g0), (1, .int (nI set)), (2, .int (nI how))]) rfl (fun ls hl => ?_)
                refine lv_goto (tgt := 17) hx hb dM_alike_72 rfl ?_
                have e9 : nI 0 = bI (mAlr ed set how u (v + 1) (mAl ed set how u)) := by first | (rw [al_f1 hc25]; rfl) | (rw [al_f2 hc34 hc43 hc60]; rfl)
                have hl := lv_sub hl (l' := [(5, .int (nI (v + 1))), (4, .int (nI u)), (3, .int (nI 0)), (0, .ref g0), (1, .int (nI set)), (2, .int (nI how))]) [0, 2, 1, 3, 4, 5] rfl
                have hl : lv_has ls 6 [(5, .int (nI (v + 1))), (4, .int (nI u)), (3, .int (bI (mAlr ed set how u (v + 1) (mAl ed set how u)))), (0, .ref g0), (1, .int (nI set)), (2, .int (nI how))] := by rw [← e9]; exact hl
                exact ih17 _ (by omega) (v + 1) rfl (by omega) ls hl
              · refine lv_iload_n hx hb dM_alike_28 rfl (lv_at hl 4 rfl) ?_
                refine lv_iload hx hb dM_alike_29 (lv_at hl 1 rfl) ?_
                refine nv_ishr (x := set) (y := u) hx hb dM_alike_31 (by omega) (by omega) ?_
                refine lv_iconst (v := nI 1) hx hb dM_alike_32 (by decide) ?_
                refine nv_iand (x := set >>> u) (y := 1) hx hb dM_alike_33 ?_
                have hq34 := and1 set u
                refine nv_if_eq (x := (set >>> u) &&& 1) (tgt := 63) hx hb dM_alike_34 rfl (by omega) (fun hc34 => ?_) (fun hc34 => ?_)
                · refine lv_iconst (v := nI 1) hx hb dM_alike_63 (by decide) ?_
                  refine lv_goto (tgt := 68) hx hb dM_alike_64 rfl ?_
                  refine lv_istore_n hx hb dM_alike_68 rfl hl (by decide) (lv' := [(3, .int (nI 1)), (5, .int (nI v)), (4, .int (nI u)), (0, .ref g0), (1, .int (nI set)), (2, .int (nI how))]) rfl (fun ls hl => ?_)
                  refine lv_iinc (k := 1) hx hb dM_alike_69 hl rfl (nb_inc _) (by decide) (lv' := [(5, .int (nI (v + 1))), (3, .int (nI 1)), (4, .int (nI u)), (0, .ref g0), (1, .int (nI set)), (2, .int (nI how))]) rfl (fun ls hl => ?_)
                  refine lv_goto (tgt := 17) hx hb dM_alike_72 rfl ?_
                  have e9 : nI 1 = bI (mAlr ed set how u (v + 1) (mAl ed set how u)) := by first | (rw [al_t1 hc25 hc34]; rfl) | (rw [al_t2 hc25 hc43]; rfl) | (rw [al_t3 hc25 hc60]; rfl)
                  have hl := lv_sub hl (l' := [(5, .int (nI (v + 1))), (4, .int (nI u)), (3, .int (nI 1)), (0, .ref g0), (1, .int (nI set)), (2, .int (nI how))]) [0, 2, 1, 3, 4, 5] rfl
                  have hl : lv_has ls 6 [(5, .int (nI (v + 1))), (4, .int (nI u)), (3, .int (bI (mAlr ed set how u (v + 1) (mAl ed set how u)))), (0, .ref g0), (1, .int (nI set)), (2, .int (nI how))] := by rw [← e9]; exact hl
                  exact ih17 _ (by omega) (v + 1) rfl (by omega) ls hl
                · refine lv_iload_n hx hb dM_alike_37 rfl (lv_at hl 4 rfl) ?_
                  refine lv_iload hx hb dM_alike_38 (lv_at hl 0 rfl) ?_
                  refine nv_ishr (x := set) (y := v) hx hb dM_alike_40 (by omega) (by omega) ?_
                  refine lv_iconst (v := nI 1) hx hb dM_alike_41 (by decide) ?_
                  refine nv_iand (x := set >>> v) (y := 1) hx hb dM_alike_42 ?_
                  have hq43 := and1 set v
                  refine nv_if_eq (x := (set >>> v) &&& 1) (tgt := 63) hx hb dM_alike_43 rfl (by omega) (fun hc43 => ?_) (fun hc43 => ?_)
                  · refine lv_iconst (v := nI 1) hx hb dM_alike_63 (by decide) ?_
                    refine lv_goto (tgt := 68) hx hb dM_alike_64 rfl ?_
                    refine lv_istore_n hx hb dM_alike_68 rfl hl (by decide) (lv' := [(3, .int (nI 1)), (5, .int (nI v)), (4, .int (nI u)), (0, .ref g0), (1, .int (nI set)), (2, .int (nI how))]) rfl (fun ls hl => ?_)
                    refine lv_iinc (k := 1) hx hb dM_alike_69 hl rfl (nb_inc _) (by decide) (lv' := [(5, .int (nI (v + 1))), (3, .int (nI 1)), (4, .int (nI u)), (0, .ref g0), (1, .int (nI set)), (2, .int (nI how))]) rfl (fun ls hl => ?_)
                    refine lv_goto (tgt := 17) hx hb dM_alike_72 rfl ?_
                    have e9 : nI 1 = bI (mAlr ed set how u (v + 1) (mAl ed set how u)) := by first | (rw [al_t1 hc25 hc34]; rfl) | (rw [al_t2 hc25 hc43]; rfl) | (rw [al_t3 hc25 hc60]; rfl)
                    have hl := lv_sub hl (l' := [(5, .int (nI (v + 1))), (4, .int (nI u)), (3, .int (nI 1)), (0, .ref g0), (1, .int (nI set)), (2, .int (nI how))]) [0, 2, 1, 3, 4, 5] rfl
                    have hl : lv_has ls 6 [(5, .int (nI (v + 1))), (4, .int (nI u)), (3, .int (bI (mAlr ed set how u (v + 1) (mAl ed set how u)))), (0, .ref g0), (1, .int (nI set)), (2, .int (nI how))] := by rw [← e9]; exact hl
                    exact ih17 _ (by omega) (v + 1) rfl (by omega) ls hl
                  · refine lv_aload_n hx hb dM_alike_46 rfl (lv_at hl 3 rfl) ?_
                    refine va_get (D := D) (ci := 1) (v := .ref b1) (C := RM) (T := TM) (N := 7) hx hb hw uM hown hK hP 0 rfl rfl 1 (by decide) (hw _ w2_99) (fun _ h9 => h9) rfl dM_alike_47 ?_
                    refine lv_bipush (v := nI 8) hx hb dM_alike_50 (by decide) ?_
                    refine lv_iload hx hb dM_alike_52 (lv_at hl 1 rfl) ?_
                    refine nv_imul (x := 8) (y := u) hx hb dM_alike_54 ?_
                    refine lv_iload hx hb dM_alike_55 (lv_at hl 0 rfl) ?_
                    refine nv_iadd (x := 8 * u) (y := v) hx hb dM_alike_57 ?_
                    refine nv_iald (i := (8 * u) + v) (f := ed) hx hb hK hP 1 0 rfl rfl (by omega) (by omega) dM_alike_58 ?_
                    refine lv_iload_n hx hb dM_alike_59 rfl (lv_at hl 5 rfl) ?_
                    have hq60 := hed1 (8 * u + v) (by omega)
                    refine nv_icmp_ne (x := ed ((8 * u) + v)) (y := how) (tgt := 67) hx hb dM_alike_60 rfl (by omega) (by omega) (fun hc60 => ?_) (fun hc60 => ?_)
                    · refine lv_iconst (v := nI 0) hx hb dM_alike_67 (by decide) ?_
                      refine lv_istore_n hx hb dM_alike_68 rfl hl (by decide) (lv' := [(3, .int (nI 0)), (5, .int (nI v)), (4, .int (nI u)), (0, .ref g0), (1, .int (nI set)), (2, .int (nI how))]) rfl (fun ls hl => ?_)
                      refine lv_iinc (k := 1) hx hb dM_alike_69 hl rfl (nb_inc _) (by decide) (lv' := [(5, .int (nI (v + 1))), (3, .int (nI 0)), (4, .int (nI u)), (0, .ref g0), (1, .int (nI set)), (2, .int (nI how))]) rfl (fun ls hl => ?_)
                      refine lv_goto (tgt := 17) hx hb dM_alike_72 rfl ?_
                      have e9 : nI 0 = bI (mAlr ed set how u (v + 1) (mAl ed set how u)) := by first | (rw [al_f1 hc25]; rfl) | (rw [al_f2 hc34 hc43 hc60]; rfl)
                      have hl := lv_sub hl (l' := [(5, .int (nI (v + 1))), (4, .int (nI u)), (3, .int (nI 0)), (0, .ref g0), (1, .int (nI set)), (2, .int (nI how))]) [0, 2, 1, 3, 4, 5] rfl
                      have hl : lv_has ls 6 [(5, .int (nI (v + 1))), (4, .int (nI u)), (3, .int (bI (mAlr ed set how u (v + 1) (mAl ed set how u)))), (0, .ref g0), (1, .int (nI set)), (2, .int (nI how))] := by rw [← e9]; exact hl
                      exact ih17 _ (by omega) (v + 1) rfl (by omega) ls hl
                    · refine lv_iconst (v := nI 1) hx hb dM_alike_63 (by decide) ?_
                      refine lv_goto (tgt := 68) hx hb dM_alike_64 rfl ?_
                      refine lv_istore_n hx hb dM_alike_68 rfl hl (by decide) (lv' := [(3, .int (nI 1)), (5, .int (nI v)), (4, .int (nI u)), (0, .ref g0), (1, .int (nI set)), (2, .int (nI how))]) rfl (fun ls hl => ?_)
                      refine lv_iinc (k := 1) hx hb dM_alike_69 hl rfl (nb_inc _) (by decide) (lv' := [(5, .int (nI (v + 1))), (3, .int (nI 1)), (4, .int (nI u)), (0, .ref g0), (1, .int (nI set)), (2, .int (nI how))]) rfl (fun ls hl => ?_)
                      refine lv_goto (tgt := 17) hx hb dM_alike_72 rfl ?_
                      have e9 : nI 1 = bI (mAlr ed set how u (v + 1) (mAl ed set how u)) := by first | (rw [al_t1 hc25 hc34]; rfl) | (rw [al_t2 hc25 hc43]; rfl) | (rw [al_t3 hc25 hc60]; rfl)
                      have hl := lv_sub hl (l' := [(5, .int (nI (v + 1))), (4, .int (nI u)), (3, .int (nI 1)), (0, .ref g0), (1, .int (nI set)), (2, .int (nI how))]) [0, 2, 1, 3, 4, 5] rfl
                      have hl : lv_has ls 6 [(5, .int (nI (v + 1))), (4, .int (nI u)), (3, .int (bI (mAlr ed set how u (v + 1) (mAl ed set how u)))), (0, .ref g0), (1, .int (nI set)), (2, .int (nI how))] := by rw [← e9]; exact hl
                      exact ih17 _ (by omega) (v + 1) rfl (by omega) ls hl
        exact L17 _ 0 rfl (Nat.zero_le _) ls hl
  exact L5 _ 0 rfl (Nat.zero_le _) ls hl

set_option maxHeartbeats 4000000 in
set_option maxRecDepth 100000 in
theorem cM_greatest_c (l : Launch) (D : va_G) (A : Nat → Prop) (g0 b1 b2 b3 b4 b5 : Nat) (cA : ClassId) (n ft : Nat) (ed lw hg od ud : Nat → Nat) (how : Nat) (hn : n ≤ 8)(hed1 : ∀ k, k < 64 → ed k ≤ 1)(hhow : how ≤ 1) : Rd l yM_greatest (Cond.code yM_greatest cM_greatest 4 (some FieldType.int) :: bw) (rmL 2) [.ref g0, .int (nI how)] (gB D vwCl [(g0, .inr (1, [.int (nI n), .ref b1, .int (nI ft), .ref b2, .ref b3, .ref b4, .ref b5])), (b1, .inl (cA, 64, .inl (fun j => nI (ed j)))), (b2, .inl (cA, 8, .inl (fun j => nI (lw j)))), (b3, .inl (cA, 8, .inl (fun j => nI (hg j)))), (b4, .inl (cA, 8, .inl (fun j => nI (od j)))), (b5, .inl (cA, 9, .inl (fun j => nI (ud j))))] [(cA, .int)]) ((nI (jBest (fun set => mAl ed set how n) (2 ^ n)))) := by
  refine Met.ofW (cc := cM_greatest) (maxL := 4) (ret := (some FieldType.int)) (by decide) rfl ?_
  intro p e s m args below meth c s₁ B9 hml hv
  obtain ⟨rfl, hP, hK⟩ := hv
  have hx := B9.exec
  have hb := B9.bytes
  have hr := B9.returns
  have hts := atoms_spec (ws := (Cond.code yM_greatest cM_greatest 4 (some FieldType.int) :: bw)) B9.pre
  have hw : ∀ w ∈ bw, w.before _ s = true := fun w h => hts w (List.mem_cons_of_mem _ h)
  have hown : s.vm.findClass RM = some m.cls := findClass_of_methodNamed B9.named
  have hlocks := B9.notSynchronized
  have hl := lv_entry ([.ref g0, .int (nI how)]) (n := 4) (Nat.le_of_ble_eq_true rfl)
  rw [lg_entry_eq]
  generalize (lg_sl ([.ref g0, .int (nI how)]) ++ List.replicate (4 - (lg_sl ([.ref g0, .int (nI how)])).length) Slot.unset).toArray = ls at hl ⊢
  have hl : lv_has ls 4 [(0, .ref g0), (1, .int (nI how))] := hl
  have hp := pw_8 hn
  have hp0 := Nat.two_pow_pos n
  refine lv_iconst (v := nI 0) hx hb dM_greatest_0 (by decide) ?_
  refine lv_istore_n hx hb dM_greatest_1 rfl hl (by decide) (lv' := [(2, .int (nI 0)), (0, .ref g0), (1, .int (nI how))]) rfl (fun ls hl => ?_)
  refine lv_iconst (v := nI 1) hx hb dM_greatest_2 (by decide) ?_
  refine lv_istore_n hx hb dM_greatest_3 rfl hl (by decide) (lv' := [(3, .int (nI 1)), (2, .int (nI 0)), (0, .ref g0), (1, .int (nI how))]) rfl (fun ls hl => ?_)
  have L4 : ∀ (k9 : Nat) (i : Nat), k9 = 2 ^ n + 1 - i → 1 ≤ i → i ≤ 2 ^ n → ∀ (ls : Array Slot), lv_has ls 4 [(3, .int (nI i)), (2, .int (nI (jBest (fun set => mAl ed set how n) i))), (0, .ref g0), (1, .int (nI how))] → W p l e (headSpec (Cond.code yM_greatest cM_greatest 4 (some FieldType.int) :: bw) (rmL 2)).room s m ([.ref g0, .int (nI how)] : List Value).toArray below meth c s.heap [] 0 0 (MQ below (QcRead ((nI (jBest (fun set => mAl ed set how n) (2 ^ n))))) ([.ref g0, .int (nI how)] : List Value).toArray s 0 0 (fun _ => False)) (F0 m 4 ls []) := by
    intro k9
    induction k9 using Nat.strongRecOn with
    | _ k9 ih4 =>
      intro i hk9 hi8 hi9 ls hl
      refine lv_iload_n hx hb dM_greatest_4 rfl (lv_at hl 0 rfl) ?_
      refine lv_aload_n hx hb dM_greatest_5 rfl (lv_at hl 2 rfl) ?_
      refine nr_V (b := g0) (As := []) (C := RM) (rest := [.int (nI i)]) ⟨hx, hb, hml, hown, hw⟩ (cM_all_c l D A g0 b1 b2 b3 b4 b5 cA n ft ed lw hg od ud hn) (cwV 0 hw (gV w2_168 w2_170 w0_18 w1_2 w2_171) rfl rfl rfl ⟨rfl, by decide, by decide, by decide +kernel⟩ ⟨Nat.le_of_ble_eq_true rfl, Nat.le_of_ble_eq_true rfl⟩) gB_blind (va_recv (q0 := 0) (ci := 1) hK hP rfl rfl) (gB_at hP hK _) rfl hl.1 rfl (Nat.le_of_ble_eq_true rfl) dM_greatest_6 ⟨Nat.zero_le _, Nat.zero_le _⟩ ?_
      refine nv_icmp_gt (x := i) (y := 2 ^ n - 1) (tgt := 44) hx hb dM_greatest_9 rfl (by omega) (by omega) (fun hc9 => ?_) (fun hc9 => ?_)
      · refine lv_iload_n hx hb dM_greatest_44 rfl (lv_at hl 1 rfl) ?_
        exact W.iret (v := (nI (jBest (fun set => mAl ed set how n) i))) hx hb hr (fun t ht hW => ⟨by rw [show i = 2 ^ n by omega], ht⟩) (fun q h => by cases h) dM_greatest_45
      · refine lv_aload_n hx hb dM_greatest_12 rfl (lv_at hl 2 rfl) ?_
        refine lv_iload_n hx hb dM_greatest_13 rfl (lv_at hl 0 rfl) ?_
        refine lv_iload_n hx hb dM_greatest_14 rfl (lv_at hl 3 rfl) ?_
        refine nr_V (b := g0) (As := [.int (nI i), .int (nI how)]) (C := RM) (rest := []) ⟨hx, hb, hml, hown, hw⟩ (cM_alike_c l D A g0 b1 b2 b3 b4 b5 cA n ft ed lw hg od ud i how hn hed1 (by omega) (by omega)) (cwV 2 hw (gV w2_220 w2_222 w0_26 w1_2 w2_223) rfl rfl rfl ⟨rfl, by decide, by decide, by decide +kernel⟩ ⟨Nat.le_of_ble_eq_true rfl, Nat.le_of_ble_eq_true rfl⟩) gB_blind (va_recv (q0 := 0) (ci := 1) hK hP rfl rfl) (gB_at hP hK _) rfl hl.1 rfl (Nat.le_of_ble_eq_true rfl) dM_greatest_15 ⟨Nat.zero_le _, Nat.zero_le _⟩ ?_
        refine nv_b_eq (x := mAl ed i how n) (tgt := 36) hx hb dM_greatest_18 rfl (fun hc18 => ?_) (fun hc18 => ?_)
        · refine lv_iload_n hx hb dM_greatest_36 rfl (lv_at hl 1 rfl) ?_
          refine lv_istore_n hx hb dM_greatest_37 rfl hl (by decide) (lv' := [(2, .int (nI (jBest (fun set => mAl ed set how n) i))), (3, .int (nI i)), (0, .ref g0), (1, .int (nI how))]) rfl (fun ls hl => ?_)
          refine lv_iinc (k := 1) hx hb dM_greatest_38 hl rfl (nb_inc _) (by decide) (lv' := [(3, .int (nI (i + 1))), (2, .int (nI (jBest (fun set => mAl ed set how n) i))), (0, .ref g0), (1, .int (nI how))]) rfl (fun ls hl => ?_)
          refine lv_goto (tgt := 4) hx hb dM_greatest_41 rfl ?_
          have e9 : jBest (fun set => mAl ed set how n) (i + 1) = jBest (fun set => mAl ed set how n) i := if_neg (fun h9 => by first | exact absurd h9.1 (Nat.not_lt.mpr hc29) | exact Bool.false_ne_true (hc18.symm.trans h9.2))
          have hl : lv_has ls 4 [(3, .int (nI (i + 1))), (2, .int (nI (jBest (fun set => mAl ed set how n) (i + 1)))), (0, .ref g0), (1, .int (nI how))] := by rw [e9]; exact hl
          exact ih4 _ (by omega) (i + 1) rfl (by omega) (by omega) ls hl
        · have hq21 := jBest_lt (P := fun set => mAl ed set how n) i (by omega)
          refine lv_iload_n hx hb dM_greatest_21 rfl (lv_at hl 0 rfl) ?_
          refine nr_S (As := [.int (nI i)]) (rest := []) ⟨hx, hb, hml, hown, hw⟩ (cM_count_c l i (by omega)) (va_cwS 1 hw (gS2 w2_224 w2_225 w1_2 w2_226) rfl rfl rfl ⟨by decide, by decide, by decide +kernel⟩ ⟨Nat.le_of_ble_eq_true rfl, Nat.le_of_ble_eq_true rfl⟩) gT_blind (gT_at _) rfl hl.1 rfl (Nat.le_of_ble_eq_true rfl) dM_greatest_22 ⟨Nat.zero_le _, Nat.zero_le _⟩ ?_
          refine lv_iload_n hx hb dM_greatest_25 rfl (lv_at hl 1 rfl) ?_
          refine nr_S (As := [.int (nI (jBest (fun set => mAl ed set how n) i))]) (rest := [.int (nI (pcN i))]) ⟨hx, hb, hml, hown, hw⟩ (cM_count_c l (jBest (fun set => mAl ed set how n) i) (by omega)) (va_cwS 1 hw (gS2 w2_224 w2_225 w1_2 w2_226) rfl rfl rfl ⟨by decide, by decide, by decide +kernel⟩ ⟨Nat.le_of_ble_eq_true rfl, Nat.le_of_ble_eq_true rfl⟩) gT_blind (gT_at _) rfl hl.1 rfl (Nat.le_of_ble_eq_true rfl) dM_greatest_26 ⟨Nat.zero_le _, Nat.zero_le _⟩ ?_
          have hq29 := pcN_le i
          have hq30 := pcN_le (jBest (fun set => mAl ed set how n) i)
          refine nv_icmp_le (x := pcN i) (y := pcN (jBest (fun set => mAl ed set how n) i)) (tgt := 36) hx hb dM_greatest_29 rfl (by omega) (by omega) (fun hc29 => ?_) (fun hc29 => ?_)
          · refine lv_iload_n hx hb dM_greatest_36 rfl (lv_at hl 1 rfl) ?_
            refine lv_istore_n hx hb dM_greatest_37 rfl hl (by decide) (lv' := [(2, .int (nI (jBest (fun set => mAl ed set how n) i))), (3, .int (nI i)), (0, .ref g0), (1, .int (nI how))]) rfl (fun ls hl => ?_)
            refine lv_iinc (k := 1) hx hb dM_greatest_38 hl rfl (nb_inc _) (by decide) (lv' := [(3, .int (nI (i + 1))), (2, .int (nI (jBest (fun set => mAl ed set how n) i))), (0, .ref g0), (1, .int (nI how))]) rfl (fun ls hl => ?_)
            refine lv_goto (tgt := 4) hx hb dM_greatest_41 rfl ?_
            have e9 : jBest (fun set => mAl ed set how n) (i + 1) = jBest (fun set => mAl ed set how n) i := if_neg (fun h9 => by first | exact absurd h9.1 (Nat.not_lt.mpr hc29) | exact Bool.false_ne_true (hc18.symm.trans h9.2))
            have hl : lv_has ls 4 [(3, .int (nI (i + 1))), (2, .int (nI (jBest (fun set => mAl ed set how n) (i + 1)))), (0, .ref g0), (1, .int (nI how))] := by rw [e9]; exact hl
            exact ih4 _ (by omega) (i + 1) rfl (by omega) (by omega) ls hl
          · refine lv_iload_n hx hb dM_greatest_32 rfl (lv_at hl 0 rfl) ?_
            refine lv_goto (tgt := 37) hx hb dM_greatest_33 rfl ?_
            refine lv_istore_n hx hb dM_greatest_37 rfl hl (by decide) (lv' := [(2, .int (nI i)), (3, .int (nI i)), (0, .ref g0), (1, .int (nI how))]) rfl (fun ls hl => ?_)
            refine lv_iinc (k := 1) hx hb dM_greatest_38 hl rfl (nb_inc _) (by decide) (lv' := [(3, .int (nI (i + 1))), (2, .int (nI i)), (0, .ref g0), (1, .int (nI how))]) rfl (fun ls hl => ?_)
            refine lv_goto (tgt := 4) hx hb dM_greatest_41 rfl ?_
            have e9 : jBest (fun set => mAl ed set how n) (i + 1) = i := if_pos ⟨hc29, hc18⟩
            have hl : lv_has ls 4 [(3, .int (nI (i + 1))), (2, .int (nI (jBest (fun set => mAl ed set how n) (i + 1)))), (0, .ref g0), (1, .int (nI how))] := by rw [e9]; exact hl
            exact ih4 _ (by omega) (i + 1) rfl (by omega) (by omega) ls hl
  have hl : lv_has ls 4 [(3, .int (nI 1)), (2, .int (nI (jBest (fun set => mAl ed set how n) 1))), (0, .ref g0), (1, .int (nI how))] := by rw [jBest_1]; exact hl
  exact L4 _ 1 rfl (by omega) (by omega) ls hl

set_option maxHeartbeats 4000000 in
set_option maxRecDepth 100000 in
theorem cM_apart_c (l : Launch) (D : va_G) (A : Nat → Prop) (g0 b1 b2 b3 b4 b5 : Nat) (cA : ClassId) (n ft : Nat) (ed lw hg od ud : Nat → Nat)  (hn : n ≤ 8)(hed1 : ∀ k, k < 64 → ed k ≤ 1) : Met l yM_apart (Cond.code yM_apart cM_apart 1 (some FieldType.int) :: bw) (rmL 3) (va_Pc [.ref g0] (gW D vwCl A [(g0, .inr (1, [.int (nI n), .ref b1, .int (nI ft), .ref b2, .ref b3, .ref b4, .ref b5])), (b1, .inl (cA, 64, .inl (fun j => nI (ed j)))), (b2, .inl (cA, 8, .inl (fun j => nI (lw j)))), (b3, .inl (cA, 8, .inl (fun j => nI (hg j)))), (b4, .inl (cA, 8, .inl (fun j => nI (od j)))), (b5, .inl (cA, 9, .inl (fun j => nI (ud j))))] [(cA, .int)])) (va_Qi (fun (r9 : Int32) (_ : Unit) => r9 = (nI (jBest (fun set => mAl ed set 0 n) (2 ^ n)))) (fun _ => gW D vwCl A [(g0, .inr (1, [.int (nI n), .ref b1, .int (nI 0), .ref b2, .ref b3, .ref b4, .ref b5])), (b1, .inl (cA, 64, .inl (fun j => nI (ed j)))), (b2, .inl (cA, 8, .inl (fun j => nI (lw j)))), (b3, .inl (cA, 8, .inl (fun j => nI (hg j)))), (b4, .inl (cA, 8, .inl (fun j => nI (od j)))), (b5, .inl (cA, 9, .inl (fun j => nI (ud j))))] [(cA, .int)]) A) 0 0 A := by
  refine Met.ofW (cc := cM_apart) (maxL := 1) (ret := (some FieldType.int)) (by decide) rfl ?_
  intro p e s m args below meth c s₁ B9 hml hv
  obtain ⟨rfl, hP, hK, hD⟩ := hv
  have hx := B9.exec
  have hb := B9.bytes
  have hr := B9.returns
  have hts := atoms_spec (ws := (Cond.code yM_apart cM_apart 1 (some FieldType.int) :: bw)) B9.pre
  have hw : ∀ w ∈ bw, w.before _ s = true := fun w h => hts w (List.mem_cons_of_mem _ h)
  have hown : s.vm.findClass RM = some m.cls := findClass_of_methodNamed B9.named
  have hlocks := B9.notSynchronized
  have hl := lv_entry ([.ref g0]) (n := 1) (Nat.le_of_ble_eq_true rfl)
  rw [lg_entry_eq]
  generalize (lg_sl ([.ref g0]) ++ List.replicate (1 - (lg_sl ([.ref g0])).length) Slot.unset).toArray = ls at hl ⊢
  have hl : lv_has ls 1 [(0, .ref g0)] := hl
  have hS : va_S A s.heap s.heap [] := va_S.rf
  refine lv_aload_n hx hb dM_apart_0 rfl (lv_at hl 0 rfl) ?_
  refine lv_iconst (v := nI 0) hx hb dM_apart_1 (by decide) ?_
  refine va_put (D := D) (ci := 1) (v := .int (nI 0)) (ty := .int) (C := RM) (T := TM) (N := 7) hx hb hw uM tyM tyM_ok nmM hown hK hP hD hS 0 rfl rfl 2 (by decide) (hw _ w2_100) (fun _ h9 => h9) rfl (by decide +kernel) rfl rfl (Nat.le_of_ble_eq_true rfl) dM_apart_2 (fun H locs hP hD hS => ?_)
  have hP : va_P D vwCl [(g0, .inr (1, [.int (nI n), .ref b1, .int (nI 0), .ref b2, .ref b3, .ref b4, .ref b5])), (b1, .inl (cA, 64, .inl (fun j => nI (ed j)))), (b2, .inl (cA, 8, .inl (fun j => nI (lw j)))), (b3, .inl (cA, 8, .inl (fun j => nI (hg j)))), (b4, .inl (cA, 8, .inl (fun j => nI (od j)))), (b5, .inl (cA, 9, .inl (fun j => nI (ud j))))] H := hP
  have hD : va_D A [(g0, .inr (1, [.int (nI n), .ref b1, .int (nI 0), .ref b2, .ref b3, .ref b4, .ref b5])), (b1, .inl (cA, 64, .inl (fun j => nI (ed j)))), (b2, .inl (cA, 8, .inl (fun j => nI (lw j)))), (b3, .inl (cA, 8, .inl (fun j => nI (hg j)))), (b4, .inl (cA, 8, .inl (fun j => nI (od j)))), (b5, .inl (cA, 9, .inl (fun j => nI (ud j))))] := hD
  refine lv_aload_n hx hb dM_apart_5 rfl (lv_at hl 0 rfl) ?_
  refine lv_iconst (v := nI 0) hx hb dM_apart_6 (by decide) ?_
  refine nr_V (b := g0) (As := [.int (nI 0)]) (C := RM) (rest := []) ⟨hx, hb, hml, hown, hw⟩ (cM_greatest_c l D A g0 b1 b2 b3 b4 b5 cA n 0 ed lw hg od ud 0 hn hed1 (by omega)) (cwV 1 hw (gV w2_216 w2_218 w0_25 w1_2 w2_219) rfl rfl rfl ⟨rfl, by decide, by decide, by decide +kernel⟩ ⟨Nat.le_of_ble_eq_true rfl, Nat.le_of_ble_eq_true rfl⟩) gB_blind (va_recv (q0 := 0) (ci := 1) hK hP rfl rfl) (gB_at hP hK _) rfl hl.1 rfl (Nat.le_of_ble_eq_true rfl) dM_apart_7 ⟨Nat.zero_le _, Nat.zero_le _⟩ ?_
  exact W.iret (v := (nI (jBest (fun set => mAl ed set 0 n) (2 ^ n)))) hx hb hr (fun t ht hW => ⟨⟨_, (), rfl, rfl, by rw [ht]; exact hP, va_K.moved hW.alike hK, hD⟩, hS.F ht⟩) hS.2.2 dM_apart_10

set_option maxHeartbeats 4000000 in
set_option maxRecDepth 100000 in
theorem cM_close_c (l : Launch) (D : va_G) (A : Nat → Prop) (g0 b1 b2 b3 b4 b5 : Nat) (cA : ClassId) (n ft : Nat) (ed lw hg od ud : Nat → Nat)  (hn : n ≤ 8)(hed1 : ∀ k, k < 64 → ed k ≤ 1) : Met l yM_close (Cond.code yM_close cM_close 1 (some FieldType.int) :: bw) (rmL 3) (va_Pc [.ref g0] (gW D vwCl A [(g0, .inr (1, [.int (nI n), .ref b1, .int (nI ft), .ref b2, .ref b3, .ref b4, .ref b5])), (b1, .inl (cA, 64, .inl (fun j => nI (ed j)))), (b2, .inl (cA, 8, .inl (fun j => nI (lw j)))), (b3, .inl (cA, 8, .inl (fun j => nI (hg j)))), (b4, .inl (cA, 8, .inl (fun j => nI (od j)))), (b5, .inl (cA, 9, .inl (fun j => nI (ud j))))] [(cA, .int)])) (va_Qi (fun (r9 : Int32) (_ : Unit) => r9 = (nI (jBest (fun set => mAl ed set 1 n) (2 ^ n)))) (fun _ => gW D vwCl A [(g0, .inr (1, [.int (nI n), .ref b1, .int (nI 0), .ref b2, .ref b3, .ref b4, .ref b5])), (b1, .inl (cA, 64, .inl (fun j => nI (ed j)))), (b2, .inl (cA, 8, .inl (fun j => nI (lw j)))), (b3, .inl (cA, 8, .inl (fun j => nI (hg j)))), (b4, .inl (cA, 8, .inl (fun j => nI (od j)))), (b5, .inl (cA, 9, .inl (fun j => nI (ud j))))] [(cA, .int)]) A) 0 0 A := by
  refine Met.ofW (cc := cM_close) (maxL := 1) (ret := (some FieldType.int)) (by decide) rfl ?_
  intro p e s m args below meth c s₁ B9 hml hv
  obtain ⟨rfl, hP, hK, hD⟩ := hv
  have hx := B9.exec
  have hb := B9.bytes
  have hr := B9.returns
  have hts := atoms_spec (ws := (Cond.code yM_close cM_close 1 (some FieldType.int) :: bw)) B9.pre
  have hw : ∀ w ∈ bw, w.before _ s = true := fun w h => hts w (List.mem_cons_of_mem _ h)
  have hown : s.vm.findClass RM = some m.cls := findClass_of_methodNamed B9.named
  have hlocks := B9.notSynchronized
  have hl := lv_entry ([.ref g0]) (n := 1) (Nat.le_of_ble_eq_true rfl)
  rw [lg_entry_eq]
  generalize (lg_sl ([.ref g0]) ++ List.replicate (1 - (lg_sl ([.ref g0])).length) Slot.unset).toArray = ls at hl ⊢
  have hl : lv_has ls 1 [(0, .ref g0)] := hl
  have hS : va_S A s.heap s.heap [] := va_S.rf
  refine lv_aload_n hx hb dM_close_0 rfl (lv_at hl 0 rfl) ?_
  refine lv_iconst (v := nI 0) hx hb dM_close_1 (by decide) ?_
  refine va_put (D := D) (ci := 1) (v := .int (nI 0)) (ty := .int) (C := RM) (T := TM) (N := 7) hx hb hw uM tyM tyM_ok nmM hown hK hP hD hS 0 rfl rfl 2 (by decide) (hw _ w2_100) (fun _ h9 => h9) rfl (by decide +kernel) rfl rfl (Nat.le_of_ble_eq_true rfl) dM_close_2 (fun H locs hP hD hS => ?_)
  have hP : va_P D vwCl [(g0, .inr (1, [.int (nI n), .ref b1, .int (nI 0), .ref b2, .ref b3, .ref b4, .ref b5])), (b1, .inl (cA, 64, .inl (fun j => nI (ed j)))), (b2, .inl (cA, 8, .inl (fun j => nI (lw j)))), (b3, .inl (cA, 8, .inl (fun j => nI (hg j)))), (b4, .inl (cA, 8, .inl (fun j => nI (od j)))), (b5, .inl (cA, 9, .inl (fun j => nI (ud j))))] H := hP
  have hD : va_D A [(g0, .inr (1, [.int (nI n), .ref b1, .int (nI 0), .ref b2, .ref b3, .ref b4, .ref b5])), (b1, .inl (cA, 64, .inl (fun j => nI (ed j)))), (b2, .inl (cA, 8, .inl (fun j => nI (lw j)))), (b3, .inl (cA, 8, .inl (fun j => nI (hg j)))), (b4, .inl (cA, 8, .inl (fun j => nI (od j)))), (b5, .inl (cA, 9, .inl (fun j => nI (ud j))))] := hD
  refine lv_aload_n hx hb dM_close_5 rfl (lv_at hl 0 rfl) ?_
  refine lv_iconst (v := nI 1) hx hb dM_close_6 (by decide) ?_
  refine nr_V (b := g0) (As := [.int (nI 1)]) (C := RM) (rest := []) ⟨hx, hb, hml, hown, hw⟩ (cM_greatest_c l D A g0 b1 b2 b3 b4 b5 cA n 0 ed lw hg od ud 1 hn hed1 (by omega)) (cwV 1 hw (gV w2_216 w2_218 w0_25 w1_2 w2_219) rfl rfl rfl ⟨rfl, by decide, by decide, by decide +kernel⟩ ⟨Nat.le_of_ble_eq_true rfl, Nat.le_of_ble_eq_true rfl⟩) gB_blind (va_recv (q0 := 0) (ci := 1) hK hP rfl rfl) (gB_at hP hK _) rfl hl.1 rfl (Nat.le_of_ble_eq_true rfl) dM_close_7 ⟨Nat.zero_le _, Nat.zero_le _⟩ ?_
  exact W.iret (v := (nI (jBest (fun set => mAl ed set 1 n) (2 ^ n)))) hx hb hr (fun t ht hW => ⟨⟨_, (), rfl, rfl, by rw [ht]; exact hP, va_K.moved hW.alike hK, hD⟩, hS.F ht⟩) hS.2.2 dM_close_10

set_option maxHeartbeats 4000000 in
set_option maxRecDepth 100000 in
theorem cM_vertices_c (l : Launch) (D : va_G) (A : Nat → Prop) (g0 b1 b2 b3 b4 b5 : Nat) (cA : ClassId) (n ft : Nat) (ed lw hg od ud : Nat → Nat)   : Met l yM_vertices (Cond.code yM_vertices cM_vertices 1 (some FieldType.int) :: bw) (rmL 1) (va_Pc [.ref g0] (gW D vwCl A [(g0, .inr (1, [.int (nI n), .ref b1, .int (nI ft), .ref b2, .ref b3, .ref b4, .ref b5])), (b1, .inl (cA, 64, .inl (fun j => nI (ed j)))), (b2, .inl (cA, 8, .inl (fun j => nI (lw j)))), (b3, .inl (cA, 8, .inl (fun j => nI (hg j)))), (b4, .inl (cA, 8, .inl (fun j => nI (od j)))), (b5, .inl (cA, 9, .inl (fun j => nI (ud j))))] [(cA, .int)])) (va_Qi (fun (r9 : Int32) (_ : Unit) => r9 = (nI n)) (fun _ => gW D vwCl A [(g0, .inr (1, [.int (nI n), .ref b1, .int (nI 0), .ref b2, .ref b3, .ref b4, .ref b5])), (b1, .inl (cA, 64, .inl (fun j => nI (ed j)))), (b2, .inl (cA, 8, .inl (fun j => nI (lw j)))), (b3, .inl (cA, 8, .inl (fun j => nI (hg j)))), (b4, .inl (cA, 8, .inl (fun j => nI (od j)))), (b5, .inl (cA, 9, .inl (fun j => nI (ud j))))] [(cA, .int)]) A) 0 0 A := by
  refine Met.ofW (cc := cM_vertices) (maxL := 1) (ret := (some FieldType.int)) (by decide) rfl ?_
  intro p e s m args below meth c s₁ B9 hml hv
  obtain ⟨rfl, hP, hK, hD⟩ := hv
  have hx := B9.exec
  have hb := B9.bytes
  have hr := B9.returns
  have hts := atoms_spec (ws := (Cond.code yM_vertices cM_vertices 1 (some FieldType.int) :: bw)) B9.pre
  have hw : ∀ w ∈ bw, w.before _ s = true := fun w h => hts w (List.mem_cons_of_mem _ h)
  have hown : s.vm.findClass RM = some m.cls := findClass_of_methodNamed B9.named
  have hlocks := B9.notSynchronized
  have hl := lv_entry ([.ref g0]) (n := 1) (Nat.le_of_ble_eq_true rfl)
  rw [lg_entry_eq]
  generalize (lg_sl ([.ref g0]) ++ List.replicate (1 - (lg_sl ([.ref g0])).length) Slot.unset).toArray = ls at hl ⊢
  have hl : lv_has ls 1 [(0, .ref g0)] := hl
  have hS : va_S A s.heap s.heap [] := va_S.rf
  refine lv_aload_n hx hb dM_vertices_0 rfl (lv_at hl 0 rfl) ?_
  refine lv_iconst (v := nI 0) hx hb dM_vertices_1 (by decide) ?_
  refine va_put (D := D) (ci := 1) (v := .int (nI 0)) (ty := .int) (C := RM) (T := TM) (N := 7) hx hb hw uM tyM tyM_ok nmM hown hK hP hD hS 0 rfl rfl 2 (by decide) (hw _ w2_100) (fun _ h9 => h9) rfl (by decide +kernel) rfl rfl (Nat.le_of_ble_eq_true rfl) dM_vertices_2 (fun H locs hP hD hS => ?_)
  have hP : va_P D vwCl [(g0, .inr (1, [.int (nI n), .ref b1, .int (nI 0), .ref b2, .ref b3, .ref b4, .ref b5])), (b1, .inl (cA, 64, .inl (fun j => nI (ed j)))), (b2, .inl (cA, 8, .inl (fun j => nI (lw j)))), (b3, .inl (cA, 8, .inl (fun j => nI (hg j)))), (b4, .inl (cA, 8, .inl (fun j => nI (od j)))), (b5, .inl (cA, 9, .inl (fun j => nI (ud j))))] H := hP
  have hD : va_D A [(g0, .inr (1, [.int (nI n), .ref b1, .int (nI 0), .ref b2, .ref b3, .ref b4, .ref b5])), (b1, .inl (cA, 64, .inl (fun j => nI (ed j)))), (b2, .inl (cA, 8, .inl (fun j => nI (lw j)))), (b3, .inl (cA, 8, .inl (fun j => nI (hg j)))), (b4, .inl (cA, 8, .inl (fun j => nI (od j)))), (b5, .inl (cA, 9, .inl (fun j => nI (ud j))))] := hD
  refine lv_aload_n hx hb dM_vertices_5 rfl (lv_at hl 0 rfl) ?_
  refine va_get (D := D) (ci := 1) (v := .int (nI n)) (C := RM) (T := TM) (N := 7) hx hb hw uM hown hK hP 0 rfl rfl 0 (by decide) (hw _ w2_98) (fun _ h9 => h9) rfl dM_vertices_6 ?_
  exact W.iret (v := (nI n)) hx hb hr (fun t ht hW => ⟨⟨_, (), rfl, rfl, by rw [ht]; exact hP, va_K.moved hW.alike hK, hD⟩, hS.F ht⟩) hS.2.2 dM_vertices_9

set_option maxHeartbeats 4000000 in
set_option maxRecDepth 100000 in
theorem cM_edges_c (l : Launch) (D : va_G) (A : Nat → Prop) (g0 b1 b2 b3 b4 b5 : Nat) (cA : ClassId) (n ft : Nat) (ed lw hg od ud : Nat → Nat)  (hed1 : ∀ k, k < 64 → ed k ≤ 1) : Met l yM_edges (Cond.code yM_edges cM_edges 3 (some FieldType.int) :: bw) (rmL 1) (va_Pc [.ref g0] (gW D vwCl A [(g0, .inr (1, [.int (nI n), .ref b1, .int (nI ft), .ref b2, .ref b3, .ref b4, .ref b5])), (b1, .inl (cA, 64, .inl (fun j => nI (ed j)))), (b2, .inl (cA, 8, .inl (fun j => nI (lw j)))), (b3, .inl (cA, 8, .inl (fun j => nI (hg j)))), (b4, .inl (cA, 8, .inl (fun j => nI (od j)))), (b5, .inl (cA, 9, .inl (fun j => nI (ud j))))] [(cA, .int)])) (va_Qi (fun (r9 : Int32) (_ : Unit) => r9 = (nI (jF (fun k s => s + ed k) 0 64 / 2))) (fun _ => gW D vwCl A [(g0, .inr (1, [.int (nI n), .ref b1, .int (nI 0), .ref b2, .ref b3, .ref b4, .ref b5])), (b1, .inl (cA, 64, .inl (fun j => nI (ed j)))), (b2, .inl (cA, 8, .inl (fun j => nI (lw j)))), (b3, .inl (cA, 8, .inl (fun j => nI (hg j)))), (b4, .inl (cA, 8, .inl (fun j => nI (od j)))), (b5, .inl (cA, 9, .inl (fun j => nI (ud j))))] [(cA, .int)]) A) 0 0 A := by
  refine Met.ofW (cc := cM_edges) (maxL := 3) (ret := (some FieldType.int)) (by decide) rfl ?_
  intro p e s m args below meth c s₁ B9 hml hv
  obtain ⟨rfl, hP, hK, hD⟩ := hv
  have hx := B9.exec
  have hb := B9.bytes
  have hr := B9.returns
  have hts := atoms_spec (ws := (Cond.code yM_edges cM_edges 3 (some FieldType.int) :: bw)) B9.pre
  have hw : ∀ w ∈ bw, w.before _ s = true := fun w h => hts w (List.mem_cons_of_mem _ h)
  have hown : s.vm.findClass RM = some m.cls := findClass_of_methodNamed B9.named
  have hlocks := B9.notSynchronized
  have hl := lv_entry ([.ref g0]) (n := 3) (Nat.le_of_ble_eq_true rfl)
  rw [lg_entry_eq]
  generalize (lg_sl ([.ref g0]) ++ List.replicate (3 - (lg_sl ([.ref g0])).length) Slot.unset).toArray = ls at hl ⊢
  have hl : lv_has ls 3 [(0, .ref g0)] := hl
  have hS : va_S A s.heap s.heap [] := va_S.rf
  refine lv_aload_n hx hb dM_edges_0 rfl (lv_at hl 0 rfl) ?_
  refine lv_iconst (v := nI 0) hx hb dM_edges_1 (by decide) ?_
  refine va_put (D := D) (ci := 1) (v := .int (nI 0)) (ty := .int) (C := RM) (T := TM) (N := 7) hx hb hw uM tyM tyM_ok nmM hown hK hP hD hS 0 rfl rfl 2 (by decide) (hw _ w2_100) (fun _ h9 => h9) rfl (by decide +kernel) rfl rfl (Nat.le_of_ble_eq_true rfl) dM_edges_2 (fun H locs hP hD hS => ?_)
  have hP : va_P D vwCl [(g0, .inr (1, [.int (nI n), .ref b1, .int (nI 0), .ref b2, .ref b3, .ref b4, .ref b5])), (b1, .inl (cA, 64, .inl (fun j => nI (ed j)))), (b2, .inl (cA, 8, .inl (fun j => nI (lw j)))), (b3, .inl (cA, 8, .inl (fun j => nI (hg j)))), (b4, .inl (cA, 8, .inl (fun j => nI (od j)))), (b5, .inl (cA, 9, .inl (fun j => nI (ud j))))] H := hP
  have hD : va_D A [(g0, .inr (1, [.int (nI n), .ref b1, .int (nI 0), .ref b2, .ref b3, .ref b4, .ref b5])), (b1, .inl (cA, 64, .inl (fun j => nI (ed j)))), (b2, .inl (cA, 8, .inl (fun j => nI (lw j)))), (b3, .inl (cA, 8, .inl (fun j => nI (hg j)))), (b4, .inl (cA, 8, .inl (fun j => nI (od j)))), (b5, .inl (cA, 9, .inl (fun j => nI (ud j))))] := hD
  refine lv_iconst (v := nI 0) hx hb dM_edges_5 (by decide) ?_
  refine lv_istore_n hx hb dM_edges_6 rfl hl (by decide) (lv' := [(1, .int (nI 0)), (0, .ref g0)]) rfl (fun ls hl => ?_)
  refine lv_iconst (v := nI 0) hx hb dM_edges_7 (by decide) ?_
  refine lv_istore_n hx hb dM_edges_8 rfl hl (by decide) (lv' := [(2, .int (nI 0)), (1, .int (nI 0)), (0, .ref g0)]) rfl (fun ls hl => ?_)
  have L9 : ∀ (k9 : Nat) (i : Nat), k9 = 64 - i → i ≤ 64 → jF (fun k s => s + ed k) 0 i ≤ i → ∀ (ls : Array Slot), lv_has ls 3 [(2, .int (nI i)), (1, .int (nI (jF (fun k s => s + ed k) 0 i))), (0, .ref g0)] → ∀ (H : Heap) (locs : List Loc), va_P D vwCl [(g0, .inr (1, [.int (nI n), .ref b1, .int (nI 0), .ref b2, .ref b3, .ref b4, .ref b5])), (b1, .inl (cA, 64, .inl (fun j => nI (ed j)))), (b2, .inl (cA, 8, .inl (fun j => nI (lw j)))), (b3, .inl (cA, 8, .inl (fun j => nI (hg j)))), (b4, .inl (cA, 8, .inl (fun j => nI (od j)))), (b5, .inl (cA, 9, .inl (fun j => nI (ud j))))] H → va_D A [(g0, .inr (1, [.int (nI n), .ref b1, .int (nI 0), .ref b2, .ref b3, .ref b4, .ref b5])), (b1, .inl (cA, 64, .inl (fun j => nI (ed j)))), (b2, .inl (cA, 8, .inl (fun j => nI (lw j)))), (b3, .inl (cA, 8, .inl (fun j => nI (hg j)))), (b4, .inl (cA, 8, .inl (fun j => nI (od j)))), (b5, .inl (cA, 9, .inl (fun j => nI (ud j))))] → va_S A s.heap H locs → W p l e (headSpec (Cond.code yM_edges cM_edges 3 (some FieldType.int) :: bw) (rmL 1)).room s m ([.ref g0] : List Value).toArray below meth c H locs 0 0 (MQ below (va_Qi (fun (r9 : Int32) (_ : Unit) => r9 = (nI (jF (fun k s => s + ed k) 0 64 / 2))) (fun _ => gW D vwCl A [(g0, .inr (1, [.int (nI n), .ref b1, .int (nI 0), .ref b2, .ref b3, .ref b4, .ref b5])), (b1, .inl (cA, 64, .inl (fun j => nI (ed j)))), (b2, .inl (cA, 8, .inl (fun j => nI (lw j)))), (b3, .inl (cA, 8, .inl (fun j => nI (hg j)))), (b4, .inl (cA, 8, .inl (fun j => nI (od j)))), (b5, .inl (cA, 9, .inl (fun j => nI (ud j))))] [(cA, .int)]) A) ([.ref g0] : List Value).toArray s 0 0 A) (F0 m 9 ls []) := by
    intro k9
    induction k9 using Nat.strongRecOn with
    | _ k9 ih9 =>
      intro i hk9 hi9 hs9 ls hl H locs hP hD hS
      refine lv_iload_n hx hb dM_edges_9 rfl (lv_at hl 0 rfl) ?_
      refine lv_bipush (v := nI 64) hx hb dM_edges_10 (by decide) ?_
      refine nv_icmp_ge (x := i) (y := 64) (tgt := 30) hx hb dM_edges_12 rfl (by omega) (by omega) (fun hc12 => ?_) (fun hc12 => ?_)
      · refine lv_iload_n hx hb dM_edges_30 rfl (lv_at hl 1 rfl) ?_
        refine lv_iconst (v := nI 2) hx hb dM_edges_31 (by decide) ?_
        refine nv_idiv (x := jF (fun k s => s + ed k) 0 i) (y := 2) hx hb dM_edges_32 (by omega) (by omega) (by omega) ?_
        exact W.iret (v := (nI ((jF (fun k s => s + ed k) 0 i) / 2))) hx hb hr (fun t ht hW => ⟨⟨_, (), rfl, by rw [show i = 64 by omega], by rw [ht]; exact hP, va_K.moved hW.alike hK, hD⟩, hS.F ht⟩) hS.2.2 dM_edges_33
      · refine lv_iload_n hx hb dM_edges_15 rfl (lv_at hl 1 rfl) ?_
        refine lv_aload_n hx hb dM_edges_16 rfl (lv_at hl 2 rfl) ?_
        refine va_get (D := D) (ci := 1) (v := .ref b1) (C := RM) (T := TM) (N := 7) hx hb hw uM hown hK hP 0 rfl rfl 1 (by decide) (hw _ w2_99) (fun _ h9 => h9) rfl dM_edges_17 ?_
        refine lv_iload_n hx hb dM_edges_20 rfl (lv_at hl 0 rfl) ?_
        refine nv_iald (i := i) (f := ed) hx hb hK hP 1 0 rfl rfl (by omega) (by omega) dM_edges_21 ?_
        refine nv_iadd (x := jF (fun k s => s + ed k) 0 i) (y := ed i) hx hb dM_edges_22 ?_
        refine lv_istore_n hx hb dM_edges_23 rfl hl (by decide) (lv' := [(1, .int (nI ((jF (fun k s => s + ed k) 0 i) + (ed i)))), (2, .int (nI i)), (0, .ref g0)]) rfl (fun ls hl => ?_)
        refine lv_iinc (k := 1) hx hb dM_edges_24 hl rfl (nb_inc _) (by decide) (lv' := [(2, .int (nI (i + 1))), (1, .int (nI ((jF (fun k s => s + ed k) 0 i) + (ed i)))), (0, .ref g0)]) rfl (fun ls hl => ?_)
        refine lv_goto (tgt := 9) hx hb dM_edges_27 rfl ?_
        exact ih9 _ (by omega) (i + 1) rfl (by omega) (by have h8 := hed1 i (by omega); show jF (fun k s => s + ed k) 0 i + ed i ≤ i + 1; omega) ls hl _ _ hP hD hS
  exact L9 _ 0 rfl (Nat.zero_le _) (Nat.le_refl _) ls hl _ _ hP hD hS

set_option maxHeartbeats 4000000 in
set_option maxRecDepth 100000 in
theorem cM_grow_y (l : Launch) (D : va_G) (A : Nat → Prop) (g0 b1 b2 b3 b4 b5 : Nat) (cA : ClassId) (n ft : Nat) (ed lw hg od ud : Nat → Nat)  (hn : n < 8) : Met l yM_grow (Cond.code yM_grow cM_grow 1 (some FieldType.int) :: bw) (rmL 1) (va_Pc [.ref g0] (gW D vwCl A [(g0, .inr (1, [.int (nI n), .ref b1, .int (nI ft), .ref b2, .ref b3, .ref b4, .ref b5])), (b1, .inl (cA, 64, .inl (fun j => nI (ed j)))), (b2, .inl (cA, 8, .inl (fun j => nI (lw j)))), (b3, .inl (cA, 8, .inl (fun j => nI (hg j)))), (b4, .inl (cA, 8, .inl (fun j => nI (od j)))), (b5, .inl (cA, 9, .inl (fun j => nI (ud j))))] [(cA, .int)])) (va_Qi (fun (r9 : Int32) (_ : Unit) => r9 = (nI n)) (fun _ => gW D vwCl A [(g0, .inr (1, [.int (nI (n + 1)), .ref b1, .int (nI 0), .ref b2, .ref b3, .ref b4, .ref b5])), (b1, .inl (cA, 64, .inl (fun j => nI (ed j)))), (b2, .inl (cA, 8, .inl (fun j => nI (lw j)))), (b3, .inl (cA, 8, .inl (fun j => nI (hg j)))), (b4, .inl (cA, 8, .inl (fun j => nI (od j)))), (b5, .inl (cA, 9, .inl (fun j => nI (ud j))))] [(cA, .int)]) A) 0 0 A := by
  refine Met.ofW (cc := cM_grow) (maxL := 1) (ret := (some FieldType.int)) (by decide) rfl ?_
  intro p e s m args below meth c s₁ B9 hml hv
  obtain ⟨rfl, hP, hK, hD⟩ := hv
  have hx := B9.exec
  have hb := B9.bytes
  have hr := B9.returns
  have hts := atoms_spec (ws := (Cond.code yM_grow cM_grow 1 (some FieldType.int) :: bw)) B9.pre
  have hw : ∀ w ∈ bw, w.before _ s = true := fun w h => hts w (List.mem_cons_of_mem _ h)
  have hown : s.vm.findClass RM = some m.cls := findClass_of_methodNamed B9.named
  have hlocks := B9.notSynchronized
  have hl := lv_entry ([.ref g0]) (n := 1) (Nat.le_of_ble_eq_true rfl)
  rw [lg_entry_eq]
  generalize (lg_sl ([.ref g0]) ++ List.replicate (1 - (lg_sl ([.ref g0])).length) Slot.unset).toArray = ls at hl ⊢
  have hl : lv_has ls 1 [(0, .ref g0)] := hl
  have hS : va_S A s.heap s.heap [] := va_S.rf
  refine lv_aload_n hx hb dM_grow_0 rfl (lv_at hl 0 rfl) ?_
  refine lv_aload_n hx hb dM_grow_1 rfl (lv_at hl 0 rfl) ?_
  refine va_get (D := D) (ci := 1) (v := .int (nI n)) (C := RM) (T := TM) (N := 7) hx hb hw uM hown hK hP 0 rfl rfl 0 (by decide) (hw _ w2_98) (fun _ h9 => h9) rfl dM_grow_2 ?_
  refine lv_bipush (v := nI 8) hx hb dM_grow_5 (by decide) ?_
  refine nv_icmp_ne (x := n) (y := 8) (tgt := 14) hx hb dM_grow_7 rfl (by omega) (by omega) (fun hc7 => ?_) (fun hc7 => ?_)
  · refine lv_iconst (v := nI 0) hx hb dM_grow_14 (by decide) ?_
    refine va_put (D := D) (ci := 1) (v := .int (nI 0)) (ty := .int) (C := RM) (T := TM) (N := 7) hx hb hw uM tyM tyM_ok nmM hown hK hP hD hS 0 rfl rfl 2 (by decide) (hw _ w2_100) (fun _ h9 => h9) rfl (by decide +kernel) rfl rfl (Nat.le_of_ble_eq_true rfl) dM_grow_15 (fun H locs hP hD hS => ?_)
    have hP : va_P D vwCl [(g0, .inr (1, [.int (nI n), .ref b1, .int (nI 0), .ref b2, .ref b3, .ref b4, .ref b5])), (b1, .inl (cA, 64, .inl (fun j => nI (ed j)))), (b2, .inl (cA, 8, .inl (fun j => nI (lw j)))), (b3, .inl (cA, 8, .inl (fun j => nI (hg j)))), (b4, .inl (cA, 8, .inl (fun j => nI (od j)))), (b5, .inl (cA, 9, .inl (fun j => nI (ud j))))] H := hP
    have hD : va_D A [(g0, .inr (1, [.int (nI n), .ref b1, .int (nI 0), .ref b2, .ref b3, .ref b4, .ref b5])), (b1, .inl (cA, 64, .inl (fun j => nI (ed j)))), (b2, .inl (cA, 8, .inl (fun j => nI (lw j)))), (b3, .inl (cA, 8, .inl (fun j => nI (hg j)))), (b4, .inl (cA, 8, .inl (fun j => nI (od j)))), (b5, .inl (cA, 9, .inl (fun j => nI (ud j))))] := hD
    refine lv_aload_n hx hb dM_grow_18 rfl (lv_at hl 0 rfl) ?_
    refine va_get (D := D) (ci := 1) (v := .int (nI 0)) (C := RM) (T := TM) (N := 7) hx hb hw uM hown hK hP 0 rfl rfl 2 (by decide) (hw _ w2_100) (fun _ h9 => h9) rfl dM_grow_19 ?_
    refine nv_if_le (x := 0) (tgt := 27) hx hb dM_grow_22 rfl (by omega) (fun hc22 => ?_) (fun hc22 => ?_)
    · refine lv_aload_n hx hb dM_grow_27 rfl (lv_at hl 0 rfl) ?_
      refine lv_dup hx hb dM_grow_28 rfl ?_
      refine va_get (D := D) (ci := 1) (v := .int (nI n)) (C := RM) (T := TM) (N := 7) hx hb hw uM hown hK hP 0 rfl rfl 0 (by decide) (hw _ w2_98) (fun _ h9 => h9) rfl dM_grow_29 ?_
      refine lv_iconst (v := nI 1) hx hb dM_grow_32 (by decide) ?_
      refine nv_iadd (x := n) (y := 1) hx hb dM_grow_33 ?_
      refine va_put (D := D) (ci := 1) (v := .int (nI (n + 1))) (ty := .int) (C := RM) (T := TM) (N := 7) hx hb hw uM tyM tyM_ok nmM hown hK hP hD hS 0 rfl rfl 0 (by decide) (hw _ w2_98) (fun _ h9 => h9) rfl (by decide +kernel) rfl rfl (Nat.le_of_ble_eq_true rfl) dM_grow_34 (fun H locs hP hD hS => ?_)
      have hP : va_P D vwCl [(g0, .inr (1, [.int (nI (n + 1)), .ref b1, .int (nI 0), .ref b2, .ref b3, .ref b4, .ref b5])), (b1, .inl (cA, 64, .inl (fun j => nI (ed j)))), (b2, .inl (cA, 8, .inl (fun j => nI (lw j)))), (b3, .inl (cA, 8, .inl (fun j => nI (hg j)))), (b4, .inl (cA, 8, .inl (fun j => nI (od j)))), (b5, .inl (cA, 9, .inl (fun j => nI (ud j))))] H := hP
      have hD : va_D A [(g0, .inr (1, [.int (nI (n + 1)), .ref b1, .int (nI 0), .ref b2, .ref b3, .ref b4, .ref b5])), (b1, .inl (cA, 64, .inl (fun j => nI (ed j)))), (b2, .inl (cA, 8, .inl (fun j => nI (lw j)))), (b3, .inl (cA, 8, .inl (fun j => nI (hg j)))), (b4, .inl (cA, 8, .inl (fun j => nI (od j)))), (b5, .inl (cA, 9, .inl (fun j => nI (ud j))))] := hD
      refine lv_aload_n hx hb dM_grow_37 rfl (lv_at hl 0 rfl) ?_
      refine va_get (D := D) (ci := 1) (v := .int (nI (n + 1))) (C := RM) (T := TM) (N := 7) hx hb hw uM hown hK hP 0 rfl rfl 0 (by decide) (hw _ w2_98) (fun _ h9 => h9) rfl dM_grow_38 ?_
      refine lv_iconst (v := nI 1) hx hb dM_grow_41 (by decide) ?_
      refine nv_isub (x := n + 1) (y := 1) hx hb dM_grow_42 (by omega) ?_
      exact W.iret (v := (nI ((n + 1) - 1))) hx hb hr (fun t ht hW => ⟨⟨_, (), rfl, rfl, by rw [ht]; exact hP, va_K.moved hW.alike hK, hD⟩, hS.F ht⟩) hS.2.2 dM_grow_43
    · exact absurd hc22 (by omega)
  · exact absurd hc7 (by omega)

set_option maxHeartbeats 4000000 in
set_option maxRecDepth 100000 in
theorem cM_grow_n (l : Launch) (D : va_G) (A : Nat → Prop) (g0 b1 b2 b3 b4 b5 : Nat) (cA : ClassId) (n ft : Nat) (ed lw hg od ud : Nat → Nat)  (hn : n = 8) : Met l yM_grow (Cond.code yM_grow cM_grow 1 (some FieldType.int) :: bw) (rmL 1) (va_Pc [.ref g0] (gW D vwCl A [(g0, .inr (1, [.int (nI n), .ref b1, .int (nI ft), .ref b2, .ref b3, .ref b4, .ref b5])), (b1, .inl (cA, 64, .inl (fun j => nI (ed j)))), (b2, .inl (cA, 8, .inl (fun j => nI (lw j)))), (b3, .inl (cA, 8, .inl (fun j => nI (hg j)))), (b4, .inl (cA, 8, .inl (fun j => nI (od j)))), (b5, .inl (cA, 9, .inl (fun j => nI (ud j))))] [(cA, .int)])) (va_Qi (fun (r9 : Int32) (_ : Unit) => r9 = (nI 0)) (fun _ => gW D vwCl A [(g0, .inr (1, [.int (nI n), .ref b1, .int (nI 1), .ref b2, .ref b3, .ref b4, .ref b5])), (b1, .inl (cA, 64, .inl (fun j => nI (ed j)))), (b2, .inl (cA, 8, .inl (fun j => nI (lw j)))), (b3, .inl (cA, 8, .inl (fun j => nI (hg j)))), (b4, .inl (cA, 8, .inl (fun j => nI (od j)))), (b5, .inl (cA, 9, .inl (fun j => nI (ud j))))] [(cA, .int)]) A) 0 0 A := by
  refine Met.ofW (cc := cM_grow) (maxL := 1) (ret := (some FieldType.int)) (by decide) rfl ?_
  intro p e s m args below meth c s₁ B9 hml hv
  obtain ⟨rfl, hP, hK, hD⟩ := hv
  have hx := B9.exec
  have hb := B9.bytes
  have hr := B9.returns
  have hts := atoms_spec (ws := (Cond.code yM_grow cM_grow 1 (some FieldType.int) :: bw)) B9.pre
  have hw : ∀ w ∈ bw, w.before _ s = true := fun w h => hts w (List.mem_cons_of_mem _ h)
  have hown : s.vm.findClass RM = some m.cls := findClass_of_methodNamed B9.named
  have hlocks := B9.notSynchronized
  have hl := lv_entry ([.ref g0]) (n := 1) (Nat.le_of_ble_eq_true rfl)
  rw [lg_entry_eq]
  generalize (lg_sl ([.ref g0]) ++ List.replicate (1 - (lg_sl ([.ref g0])).length) Slot.unset).toArray = ls at hl ⊢
  have hl : lv_has ls 1 [(0, .ref g0)] := hl
  have hS : va_S A s.heap s.heap [] := va_S.rf
  refine lv_aload_n hx hb dM_grow_0 rfl (lv_at hl 0 rfl) ?_
  refine lv_aload_n hx hb dM_grow_1 rfl (lv_at hl 0 rfl) ?_
  refine va_get (D := D) (ci := 1) (v := .int (nI n)) (C := RM) (T := TM) (N := 7) hx hb hw uM hown hK hP 0 rfl rfl 0 (by decide) (hw _ w2_98) (fun _ h9 => h9) rfl dM_grow_2 ?_
  refine lv_bipush (v := nI 8) hx hb dM_grow_5 (by decide) ?_
  refine nv_icmp_ne (x := n) (y := 8) (tgt := 14) hx hb dM_grow_7 rfl (by omega) (by omega) (fun hc7 => ?_) (fun hc7 => ?_)
  · exact absurd hn hc7
  · refine lv_iconst (v := nI 1) hx hb dM_grow_10 (by decide) ?_
    refine lv_goto (tgt := 15) hx hb dM_grow_11 rfl ?_
    refine va_put (D := D) (ci := 1) (v := .int (nI 1)) (ty := .int) (C := RM) (T := TM) (N := 7) hx hb hw uM tyM tyM_ok nmM hown hK hP hD hS 0 rfl rfl 2 (by decide) (hw _ w2_100) (fun _ h9 => h9) rfl (by decide +kernel) rfl rfl (Nat.le_of_ble_eq_true rfl) dM_grow_15 (fun H locs hP hD hS => ?_)
    have hP : va_P D vwCl [(g0, .inr (1, [.int (nI n), .ref b1, .int (nI 1), .ref b2, .ref b3, .ref b4, .ref b5])), (b1, .inl (cA, 64, .inl (fun j => nI (ed j)))), (b2, .inl (cA, 8, .inl (fun j => nI (lw j)))), (b3, .inl (cA, 8, .inl (fun j => nI (hg j)))), (b4, .inl (cA, 8, .inl (fun j => nI (od j)))), (b5, .inl (cA, 9, .inl (fun j => nI (ud j))))] H := hP
    have hD : va_D A [(g0, .inr (1, [.int (nI n), .ref b1, .int (nI 1), .ref b2, .ref b3, .ref b4, .ref b5])), (b1, .inl (cA, 64, .inl (fun j => nI (ed j)))), (b2, .inl (cA, 8, .inl (fun j => nI (lw j)))), (b3, .inl (cA, 8, .inl (fun j => nI (hg j)))), (b4, .inl (cA, 8, .inl (fun j => nI (od j)))), (b5, .inl (cA, 9, .inl (fun j => nI (ud j))))] := hD
    refine lv_aload_n hx hb dM_grow_18 rfl (lv_at hl 0 rfl) ?_
    refine va_get (D := D) (ci := 1) (v := .int (nI 1)) (C := RM) (T := TM) (N := 7) hx hb hw uM hown hK hP 0 rfl rfl 2 (by decide) (hw _ w2_100) (fun _ h9 => h9) rfl dM_grow_19 ?_
    refine nv_if_le (x := 1) (tgt := 27) hx hb dM_grow_22 rfl (by omega) (fun hc22 => ?_) (fun hc22 => ?_)
    · exact absurd hc22 (by omega)
    · refine lv_iconst (v := nI 0) hx hb dM_grow_25 (by decide) ?_
      exact W.iret (v := (nI 0)) hx hb hr (fun t ht hW => ⟨⟨_, (), rfl, rfl, by rw [ht]; exact hP, va_K.moved hW.alike hK, hD⟩, hS.F ht⟩) hS.2.2 dM_grow_26

set_option maxHeartbeats 4000000 in
set_option maxRecDepth 100000 in
theorem cM_shrink_y (l : Launch) (D : va_G) (A : Nat → Prop) (g0 b1 b2 b3 b4 b5 : Nat) (cA : ClassId) (n ft : Nat) (ed lw hg od ud : Nat → Nat)  (hn : n < 8) : Met l yM_shrink (Cond.code yM_shrink cM_shrink 2 none :: bw) (rmL 1) (va_Pc [.ref g0] (gW D vwCl A [(g0, .inr (1, [.int (nI (n + 1)), .ref b1, .int (nI ft), .ref b2, .ref b3, .ref b4, .ref b5])), (b1, .inl (cA, 64, .inl (fun j => nI (ed j)))), (b2, .inl (cA, 8, .inl (fun j => nI (lw j)))), (b3, .inl (cA, 8, .inl (fun j => nI (hg j)))), (b4, .inl (cA, 8, .inl (fun j => nI (od j)))), (b5, .inl (cA, 9, .inl (fun j => nI (ud j))))] [(cA, .int)])) (va_Qv (fun _ : Unit => True) (fun _ => gW D vwCl A [(g0, .inr (1, [.int (nI n), .ref b1, .int (nI 0), .ref b2, .ref b3, .ref b4, .ref b5])), (b1, .inl (cA, 64, .inl (fun j => nI ((mSh ed n 8) j)))), (b2, .inl (cA, 8, .inl (fun j => nI (lw j)))), (b3, .inl (cA, 8, .inl (fun j => nI (hg j)))), (b4, .inl (cA, 8, .inl (fun j => nI (od j)))), (b5, .inl (cA, 9, .inl (fun j => nI (ud j))))] [(cA, .int)]) A) 0 0 A := by
  refine Met.ofW (cc := cM_shrink) (maxL := 2) (ret := none) (by decide) rfl ?_
  intro p e s m args below meth c s₁ B9 hml hv
  obtain ⟨rfl, hP, hK, hD⟩ := hv
  have hx := B9.exec
  have hb := B9.bytes
  have hr := B9.returns
  have hts := atoms_spec (ws := (Cond.code yM_shrink cM_shrink 2 none :: bw)) B9.pre
  have hw : ∀ w ∈ bw, w.before _ s = true := fun w h => hts w (List.mem_cons_of_mem _ h)
  have hown : s.vm.findClass RM = some m.cls := findClass_of_methodNamed B9.named
  have hlocks := B9.notSynchronized
  have hl := lv_entry ([.ref g0]) (n := 2) (Nat.le_of_ble_eq_true rfl)
  rw [lg_entry_eq]
  generalize (lg_sl ([.ref g0]) ++ List.replicate (2 - (lg_sl ([.ref g0])).length) Slot.unset).toArray = ls at hl ⊢
  have hl : lv_has ls 2 [(0, .ref g0)] := hl
  have hS : va_S A s.heap s.heap [] := va_S.rf
  refine lv_aload_n hx hb dM_shrink_0 rfl (lv_at hl 0 rfl) ?_
  refine lv_aload_n hx hb dM_shrink_1 rfl (lv_at hl 0 rfl) ?_
  refine va_get (D := D) (ci := 1) (v := .int (nI (n + 1))) (C := RM) (T := TM) (N := 7) hx hb hw uM hown hK hP 0 rfl rfl 0 (by decide) (hw _ w2_98) (fun _ h9 => h9) rfl dM_shrink_2 ?_
  refine nv_if_ne (x := n + 1) (tgt := 12) hx hb dM_shrink_5 rfl (by omega) (fun hc5 => ?_) (fun hc5 => ?_)
  · refine lv_iconst (v := nI 0) hx hb dM_shrink_12 (by decide) ?_
    refine va_put (D := D) (ci := 1) (v := .int (nI 0)) (ty := .int) (C := RM) (T := TM) (N := 7) hx hb hw uM tyM tyM_ok nmM hown hK hP hD hS 0 rfl rfl 2 (by decide) (hw _ w2_100) (fun _ h9 => h9) rfl (by decide +kernel) rfl rfl (Nat.le_of_ble_eq_true rfl) dM_shrink_13 (fun H locs hP hD hS => ?_)
    have hP : va_P D vwCl [(g0, .inr (1, [.int (nI (n + 1)), .ref b1, .int (nI 0), .ref b2, .ref b3, .ref b4, .ref b5])), (b1, .inl (cA, 64, .inl (fun j => nI (ed j)))), (b2, .inl (cA, 8, .inl (fun j => nI (lw j)))), (b3, .inl (cA, 8, .inl (fun j => nI (hg j)))), (b4, .inl (cA, 8, .inl (fun j => nI (od j)))), (b5, .inl (cA, 9, .inl (fun j => nI (ud j))))] H := hP
    have hD : va_D A [(g0, .inr (1, [.int (nI (n + 1)), .ref b1, .int (nI 0), .ref b2, .ref b3, .ref b4, .ref b5])), (b1, .inl (cA, 64, .inl (fun j => nI (ed j)))), (b2, .inl (cA, 8, .inl (fun j => nI (lw j)))), (b3, .inl (cA, 8, .inl (fun j => nI (hg j)))), (b4, .inl (cA, 8, .inl (fun j => nI (od j)))), (b5, .inl (cA, 9, .inl (fun j => nI (ud j))))] := hD
    refine lv_aload_n hx hb dM_shrink_16 rfl (lv_at hl 0 rfl) ?_
    refine va_get (D := D) (ci := 1) (v := .int (nI 0)) (C := RM) (T := TM) (N := 7) hx hb hw uM hown hK hP 0 rfl rfl 2 (by decide) (hw _ w2_100) (fun _ h9 => h9) rfl dM_shrink_17 ?_
    refine nv_if_le (x := 0) (tgt := 24) hx hb dM_shrink_20 rfl (by omega) (fun hc20 => ?_) (fun hc20 => ?_)
    · refine lv_aload_n hx hb dM_shrink_24 rfl (lv_at hl 0 rfl) ?_
      refine lv_dup hx hb dM_shrink_25 rfl ?_
      refine va_get (D := D) (ci := 1) (v := .int (nI (n + 1))) (C := RM) (T := TM) (N := 7) hx hb hw uM hown hK hP 0 rfl rfl 0 (by decide) (hw _ w2_98) (fun _ h9 => h9) rfl dM_shrink_26 ?_
      refine lv_iconst (v := nI 1) hx hb dM_shrink_29 (by decide) ?_
      refine nv_isub (x := n + 1) (y := 1) hx hb dM_shrink_30 (by omega) ?_
      refine va_put (D := D) (ci := 1) (v := .int (nI ((n + 1) - 1))) (ty := .int) (C := RM) (T := TM) (N := 7) hx hb hw uM tyM tyM_ok nmM hown hK hP hD hS 0 rfl rfl 0 (by decide) (hw _ w2_98) (fun _ h9 => h9) rfl (by decide +kernel) rfl rfl (Nat.le_of_ble_eq_true rfl) dM_shrink_31 (fun H locs hP hD hS => ?_)
      have hP : va_P D vwCl [(g0, .inr (1, [.int (nI ((n + 1) - 1)), .ref b1, .int (nI 0), .ref b2, .ref b3, .ref b4, .ref b5])), (b1, .inl (cA, 64, .inl (fun j => nI (ed j)))), (b2, .inl (cA, 8, .inl (fun j => nI (lw j)))), (b3, .inl (cA, 8, .inl (fun j => nI (hg j)))), (b4, .inl (cA, 8, .inl (fun j => nI (od j)))), (b5, .inl (cA, 9, .inl (fun j => nI (ud j))))] H := hP
      have hD : va_D A [(g0, .inr (1, [.int (nI ((n + 1) - 1)), .ref b1, .int (nI 0), .ref b2, .ref b3, .ref b4, .ref b5])), (b1, .inl (cA, 64, .inl (fun j => nI (ed j)))), (b2, .inl (cA, 8, .inl (fun j => nI (lw j)))), (b3, .inl (cA, 8, .inl (fun j => nI (hg j)))), (b4, .inl (cA, 8, .inl (fun j => nI (od j)))), (b5, .inl (cA, 9, .inl (fun j => nI (ud j))))] := hD
      have hP : va_P D vwCl [(g0, .inr (1, [.int (nI n), .ref b1, .int (nI 0), .ref b2, .ref b3, .ref b4, .ref b5])), (b1, .inl (cA, 64, .inl (fun j => nI (ed j)))), (b2, .inl (cA, 8, .inl (fun j => nI (lw j)))), (b3, .inl (cA, 8, .inl (fun j => nI (hg j)))), (b4, .inl (cA, 8, .inl (fun j => nI (od j)))), (b5, .inl (cA, 9, .inl (fun j => nI (ud j))))] H := hP
      have hD : va_D A [(g0, .inr (1, [.int (nI n), .ref b1, .int (nI 0), .ref b2, .ref b3, .ref b4, .ref b5])), (b1, .inl (cA, 64, .inl (fun j => nI (ed j)))), (b2, .inl (cA, 8, .inl (fun j => nI (lw j)))), (b3, .inl (cA, 8, .inl (fun j => nI (hg j)))), (b4, .inl (cA, 8, .inl (fun j => nI (od j)))), (b5, .inl (cA, 9, .inl (fun j => nI (ud j))))] := hD
      refine lv_iconst (v := nI 0) hx hb dM_shrink_34 (by decide) ?_
      refine lv_istore_n hx hb dM_shrink_35 rfl hl (by decide) (lv' := [(1, .int (nI 0)), (0, .ref g0)]) rfl (fun ls hl => ?_)
      have L36 : ∀ (k9 : Nat) (i : Nat), k9 = 8 - i → i ≤ 8 → ∀ (ls : Array Slot), lv_has ls 2 [(1, .int (nI i)), (0, .ref g0)] → ∀ (H : Heap) (locs : List Loc), va_P D vwCl [(g0, .inr (1, [.int (nI n), .ref b1, .int (nI 0), .ref b2, .ref b3, .ref b4, .ref b5])), (b1, .inl (cA, 64, .inl (fun j => nI ((mSh ed n i) j)))), (b2, .inl (cA, 8, .inl (fun j => nI (lw j)))), (b3, .inl (cA, 8, .inl (fun j => nI (hg j)))), (b4, .inl (cA, 8, .inl (fun j => nI (od j)))), (b5, .inl (cA, 9, .inl (fun j => nI (ud j))))] H → va_D A [(g0, .inr (1, [.int (nI n), .ref b1, .int (nI 0), .ref b2, .ref b3, .ref b4, .ref b5])), (b1, .inl (cA, 64, .inl (fun j => nI ((mSh ed n i) j)))), (b2, .inl (cA, 8, .inl (fun j => nI (lw j)))), (b3, .inl (cA, 8, .inl (fun j => nI (hg j)))), (b4, .inl (cA, 8, .inl (fun j => nI (od j)))), (b5, .inl (cA, 9, .inl (fun j => nI (ud j))))] → va_S A s.heap H locs → W p l e (headSpec (Cond.code yM_shrink cM_shrink 2 none :: bw) (rmL 1)).room s m ([.ref g0] : List Value).toArray below meth c H locs 0 0 (MQ below (va_Qv (fun _ : Unit => True) (fun _ => gW D vwCl A [(g0, .inr (1, [.int (nI n), .ref b1, .int (nI 0), .ref b2, .ref b3, .ref b4, .ref b5])), (b1, .inl (cA, 64, .inl (fun j => nI ((mSh ed n 8) j)))), (b2, .inl (cA, 8, .inl (fun j => nI (lw j)))), (b3, .inl (cA, 8, .inl (fun j => nI (hg j)))), (b4, .inl (cA, 8, .inl (fun j => nI (od j)))), (b5, .inl (cA, 9, .inl (fun j => nI (ud j))))] [(cA, .int)]) A) ([.ref g0] : List Value).toArray s 0 0 A) (F0 m 36 ls []) := by
        intro k9
        induction k9 using Nat.strongRecOn with
        | _ k9 ih36 =>
          intro i hk9 hi9 ls hl H locs hP hD hS
          refine lv_iload_n hx hb dM_shrink_36 rfl (lv_at hl 0 rfl) ?_
          refine lv_bipush (v := nI 8) hx hb dM_shrink_37 (by decide) ?_
          refine nv_icmp_ge (x := i) (y := 8) (tgt := 78) hx hb dM_shrink_39 rfl (by omega) (by omega) (fun hc39 => ?_) (fun hc39 => ?_)
          · rw [show i = 8 by omega] at hP
            rw [show i = 8 by omega] at hD
            exact W.vret hx hb hr (fun t ht hW => ⟨⟨(), rfl, trivial, by rw [ht]; exact hP, va_K.moved hW.alike hK, hD⟩, hS.F ht⟩) hS.2.2 dM_shrink_78
          · refine lv_aload_n hx hb dM_shrink_42 rfl (lv_at hl 1 rfl) ?_
            refine va_get (D := D) (ci := 1) (v := .ref b1) (C := RM) (T := TM) (N := 7) hx hb hw uM hown hK hP 0 rfl rfl 1 (by decide) (hw _ w2_99) (fun _ h9 => h9) rfl dM_shrink_43 ?_
            refine lv_bipush (v := nI 8) hx hb dM_shrink_46 (by decide) ?_
            refine lv_aload_n hx hb dM_shrink_48 rfl (lv_at hl 1 rfl) ?_
            refine va_get (D := D) (ci := 1) (v := .int (nI n)) (C := RM) (T := TM) (N := 7) hx hb hw uM hown hK hP 0 rfl rfl 0 (by decide) (hw _ w2_98) (fun _ h9 => h9) rfl dM_shrink_49 ?_
            refine nv_imul (x := 8) (y := n) hx hb dM_shrink_52 ?_
            refine lv_iload_n hx hb dM_shrink_53 rfl (lv_at hl 0 rfl) ?_
            refine nv_iadd (x := 8 * n) (y := i) hx hb dM_shrink_54 ?_
            refine lv_iconst (v := nI 0) hx hb dM_shrink_55 (by decide) ?_
            refine nv_iast (i := (8 * n) + i) (x := 0) (f := mSh ed n i) hx hb hK hP hD hS 1 0 rfl rfl (by omega) (by omega) dM_shrink_56 (fun H locs hP hD hS => ?_)
            have hP : va_P D vwCl [(g0, .inr (1, [.int (nI n), .ref b1, .int (nI 0), .ref b2, .ref b3, .ref b4, .ref b5])), (b1, .inl (cA, 64, .inl (fun j => nI ((upN (mSh ed n i) ((8 * n) + i) 0) j)))), (b2, .inl (cA, 8, .inl (fun j => nI (lw j)))), (b3, .inl (cA, 8, .inl (fun j => nI (hg j)))), (b4, .inl (cA, 8, .inl (fun j => nI (od j)))), (b5, .inl (cA, 9, .inl (fun j => nI (ud j))))] H := hP
            have hD : va_D A [(g0, .inr (1, [.int (nI n), .ref b1, .int (nI 0), .ref b2, .ref b3, .ref b4, .ref b5])), (b1, .inl (cA, 64, .inl (fun j => nI ((upN (mSh ed n i) ((8 * n) + i) 0) j)))), (b2, .inl (cA, 8, .inl (fun j => nI (lw j)))), (b3, .inl (cA, 8, .inl (fun j => nI (hg j)))), (b4, .inl (cA, 8, .inl (fun j => nI (od j)))), (b5, .inl (cA, 9, .inl (fun j => nI (ud j))))] := hD
            refine lv_aload_n hx hb dM_shrink_57 rfl (lv_at hl 1 rfl) ?_
            refine va_get (D := D) (ci := 1) (v := .ref b1) (C := RM) (T := TM) (N := 7) hx hb hw uM hown hK hP 0 rfl rfl 1 (by decide) (hw _ w2_99) (fun _ h9 => h9) rfl dM_shrink_58 ?_
            refine lv_bipush (v := nI 8) hx hb dM_shrink_61 (by decide) ?_
            refine lv_iload_n hx hb dM_shrink_63 rfl (lv_at hl 0 rfl) ?_
            refine nv_imul (x := 8) (y := i) hx hb dM_shrink_64 ?_
            refine lv_aload_n hx hb dM_shrink_65 rfl (lv_at hl 1 rfl) ?_
            refine va_get (D := D) (ci := 1) (v := .int (nI n)) (C := RM) (T := TM) (N := 7) hx hb hw uM hown hK hP 0 rfl rfl 0 (by decide) (hw _ w2_98) (fun _ h9 => h9) rfl dM_shrink_66 ?_
            refine nv_iadd (x := 8 * i) (y := n) hx hb dM_shrink_69 ?_
            refine lv_iconst (v := nI 0) hx hb dM_shrink_70 (by decide) ?_
            refine nv_iast (i := (8 * i) + n) (x := 0) (f := upN (mSh ed n i) ((8 * n) + i) 0) hx hb hK hP hD hS 1 0 rfl rfl (by omega) (by omega) dM_shrink_71 (fun H locs hP hD hS => ?_)
            have hP : va_P D vwCl [(g0, .inr (1, [.int (nI n), .ref b1, .int (nI 0), .ref b2, .ref b3, .ref b4, .ref b5])), (b1, .inl (cA, 64, .inl (fun j => nI ((upN (upN (mSh ed n i) ((8 * n) + i) 0) ((8 * i) + n) 0) j)))), (b2, .inl (cA, 8, .inl (fun j => nI (lw j)))), (b3, .inl (cA, 8, .inl (fun j => nI (hg j)))), (b4, .inl (cA, 8, .inl (fun j => nI (od j)))), (b5, .inl (cA, 9, .inl (fun j => nI (ud j))))] H := hP
            have hD : va_D A [(g0, .inr (1, [.int (nI n), .ref b1, .int (nI 0), .ref b2, .ref b3, .ref b4, .ref b5])), (b1, .inl (cA, 64, .inl (fun j => nI ((upN (upN (mSh ed n i) ((8 * n) + i) 0) ((8 * i) + n) 0) j)))), (b2, .inl (cA, 8, .inl (fun j => nI (lw j)))), (b3, .inl (cA, 8, .inl (fun j => nI (hg j)))), (b4, .inl (cA, 8, .inl (fun j => nI (od j)))), (b5, .inl (cA, 9, .inl (fun j => nI (ud j))))] := hD
            refine lv_iinc (k := 0) hx hb dM_shrink_72 hl rfl (nb_inc _) (by decide) (lv' := [(1, .int (nI (i + 1))), (0, .ref g0)]) rfl (fun ls hl => ?_)
            refine lv_goto (tgt := 36) hx hb dM_shrink_75 rfl ?_
            exact ih36 _ (by omega) (i + 1) rfl (by omega) ls hl _ _ hP hD hS
      exact L36 _ 0 rfl (Nat.zero_le _) ls hl _ _ hP hD hS
    · exact absurd hc20 (by omega)
  · exact absurd hc5 (by omega)

set_option maxHeartbeats 4000000 in
set_option maxRecDepth 100000 in
theorem cM_shrink_n (l : Launch) (D : va_G) (A : Nat → Prop) (g0 b1 b2 b3 b4 b5 : Nat) (cA : ClassId) (n ft : Nat) (ed lw hg od ud : Nat → Nat)  (hn : n = 0) : Met l yM_shrink (Cond.code yM_shrink cM_shrink 2 none :: bw) (rmL 1) (va_Pc [.ref g0] (gW D vwCl A [(g0, .inr (1, [.int (nI n), .ref b1, .int (nI ft), .ref b2, .ref b3, .ref b4, .ref b5])), (b1, .inl (cA, 64, .inl (fun j => nI (ed j)))), (b2, .inl (cA, 8, .inl (fun j => nI (lw j)))), (b3, .inl (cA, 8, .inl (fun j => nI (hg j)))), (b4, .inl (cA, 8, .inl (fun j => nI (od j)))), (b5, .inl (cA, 9, .inl (fun j => nI (ud j))))] [(cA, .int)])) (va_Qv (fun _ : Unit => True) (fun _ => gW D vwCl A [(g0, .inr (1, [.int (nI n), .ref b1, .int (nI 1), .ref b2, .ref b3, .ref b4, .ref b5])), (b1, .inl (cA, 64, .inl (fun j => nI (ed j)))), (b2, .inl (cA, 8, .inl (fun j => nI (lw j)))), (b3, .inl (cA, 8, .inl (fun j => nI (hg j)))), (b4, .inl (cA, 8, .inl (fun j => nI (od j)))), (b5, .inl (cA, 9, .inl (fun j => nI (ud j))))] [(cA, .int)]) A) 0 0 A := by
  refine Met.ofW (cc := cM_shrink) (maxL := 2) (ret := none) (by decide) rfl ?_
  intro p e s m args below meth c s₁ B9 hml hv
  obtain ⟨rfl, hP, hK, hD⟩ := hv
  have hx := B9.exec
  have hb := B9.bytes
  have hr := B9.returns
  have hts := atoms_spec (ws := (Cond.code yM_shrink cM_shrink 2 none :: bw)) B9.pre
  have hw : ∀ w ∈ bw, w.before _ s = true := fun w h => hts w (List.mem_cons_of_mem _ h)
  have hown : s.vm.findClass RM = some m.cls := findClass_of_methodNamed B9.named
  have hlocks := B9.notSynchronized
  have hl := lv_entry ([.ref g0]) (n := 2) (Nat.le_of_ble_eq_true rfl)
  rw [lg_entry_eq]
  generalize (lg_sl ([.ref g0]) ++ List.replicate (2 - (lg_sl ([.ref g0])).length) Slot.unset).toArray = ls at hl ⊢
  have hl : lv_has ls 2 [(0, .ref g0)] := hl
  have hS : va_S A s.heap s.heap [] := va_S.rf
  refine lv_aload_n hx hb dM_shrink_0 rfl (lv_at hl 0 rfl) ?_
  refine lv_aload_n hx hb dM_shrink_1 rfl (lv_at hl 0 rfl) ?_
  refine va_get (D := D) (ci := 1) (v := .int (nI n)) (C := RM) (T := TM) (N := 7) hx hb hw uM hown hK hP 0 rfl rfl 0 (by decide) (hw _ w2_98) (fun _ h9 => h9) rfl dM_shrink_2 ?_
  refine nv_if_ne (x := n) (tgt := 12) hx hb dM_shrink_5 rfl (by omega) (fun hc5 => ?_) (fun hc5 => ?_)
  · exact absurd hn hc5
  · refine lv_iconst (v := nI 1) hx hb dM_shrink_8 (by decide) ?_
    refine lv_goto (tgt := 13) hx hb dM_shrink_9 rfl ?_
    refine va_put (D := D) (ci := 1) (v := .int (nI 1)) (ty := .int) (C := RM) (T := TM) (N := 7) hx hb hw uM tyM tyM_ok nmM hown hK hP hD hS 0 rfl rfl 2 (by decide) (hw _ w2_100) (fun _ h9 => h9) rfl (by decide +kernel) rfl rfl (Nat.le_of_ble_eq_true rfl) dM_shrink_13 (fun H locs hP hD hS => ?_)
    have hP : va_P D vwCl [(g0, .inr (1, [.int (nI n), .ref b1, .int (nI 1), .ref b2, .ref b3, .ref b4, .ref b5])), (b1, .inl (cA, 64, .inl (fun j => nI (ed j)))), (b2, .inl (cA, 8, .inl (fun j => nI (lw j)))), (b3, .inl (cA, 8, .inl (fun j => nI (hg j)))), (b4, .inl (cA, 8, .inl (fun j => nI (od j)))), (b5, .inl (cA, 9, .inl (fun j => nI (ud j))))] H := hP
    have hD : va_D A [(g0, .inr (1, [.int (nI n), .ref b1, .int (nI 1), .ref b2, .ref b3, .ref b4, .ref b5])), (b1, .inl (cA, 64, .inl (fun j => nI (ed j)))), (b2, .inl (cA, 8, .inl (fun j => nI (lw j)))), (b3, .inl (cA, 8, .inl (fun j => nI (hg j)))), (b4, .inl (cA, 8, .inl (fun j => nI (od j)))), (b5, .inl (cA, 9, .inl (fun j => nI (ud j))))] := hD
    refine lv_aload_n hx hb dM_shrink_16 rfl (lv_at hl 0 rfl) ?_
    refine va_get (D := D) (ci := 1) (v := .int (nI 1)) (C := RM) (T := TM) (N := 7) hx hb hw uM hown hK hP 0 rfl rfl 2 (by decide) (hw _ w2_100) (fun _ h9 => h9) rfl dM_shrink_17 ?_
    refine nv_if_le (x := 1) (tgt := 24) hx hb dM_shrink_20 rfl (by omega) (fun hc20 => ?_) (fun hc20 => ?_)
    · exact absurd hc20 (by omega)
    · exact W.vret hx hb hr (fun t ht hW => ⟨⟨(), rfl, trivial, by rw [ht]; exact hP, va_K.moved hW.alike hK, hD⟩, hS.F ht⟩) hS.2.2 dM_shrink_23
