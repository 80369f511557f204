theorem me_app {set : Nat} : ∀ k v, meN set (k + 1) v = meN set k v ++ (if set.testBit (v + k) = true then [v + k] else [])
  | 0, v => by
    show (if set.testBit v = true then [v] else []) = [] ++ (if set.testBit (v + 0) = true then [v + 0] else [])
    rw [Nat.add_zero, List.nil_append]
  | k + 1, v => by
    have ih := me_app (set := set) k (v + 1)
    have e : ∀ j, meN set (j + 1) v = if set.testBit v = true then v :: meN set j (v + 1) else meN set j (v + 1) := fun j => rfl
    rw [e (k + 1), e k, ih, show v + 1 + k = v + (k + 1) by omega]
    by_cases h : set.testBit v = true
    · rw [if_pos h, if_pos h]; rfl
    · rw [if_neg h, if_neg h]
def PO (k : Nat) (nm : List (Nat × Nat × Nat)) (od lw hg : Nat → Nat) : Prop := (∀ j, j < k → (od j, lw j, hg j) ∈ nm) ∧ ∀ q, q ∈ nm → ∃ j, j < k ∧ q = (od j, lw j, hg j)
theorem po_nil {od lw hg : Nat → Nat} : PO 0 [] od lw hg := ⟨fun j hj => by omega, fun q hq => by cases hq⟩
theorem po_congr {k : Nat} {nm : List (Nat × Nat × Nat)} {od lw hg lw' hg' : Nat → Nat} (h : PO k nm od lw hg) (he : ∀ j, j < k → lw' j = lw j ∧ hg' j = hg j) : PO k nm od lw' hg' := by
  refine ⟨fun j hj => ?_, fun q hq => ?_⟩
  · rw [(he j hj).1, (he j hj).2]; exact h.1 j hj
  · obtain ⟨j, hj, e⟩ := h.2 q hq
    exact ⟨j, hj, by rw [(he j hj).1, (he j hj).2]; exact e⟩
theorem po_add {k v a b : Nat} {nm : List (Nat × Nat × Nat)} {od lw hg : Nat → Nat} (h : PO k nm od lw hg) (h1 : od k = v) (h2 : lw k = a) (h3 : hg k = b) : PO (k + 1) ((v, a, b) :: nm) od lw hg := by
  refine ⟨fun j hj => ?_, fun q hq => ?_⟩
  · by_cases e : j = k
    · rw [e, h1, h2, h3]; exact List.mem_cons_self
    · exact List.mem_cons_of_mem _ (h.1 j (by omega))
  · rcases List.mem_cons.mp hq with rfl | hq
    · exact ⟨k, by omega, by rw [h1, h2, h3]⟩
    · obtain ⟨j, hj, e⟩ := h.2 q hq
      exact ⟨j, by omega, e⟩
theorem su_ok {k v : Nat} {nm : List (Nat × Nat × Nat)} {ed od lw hg : Nat → Nat} (h : PO k nm od lw hg) (hv : od k = v) : suN ed lw hg od k k = okN (fun v j => ed (8 * v + j)) v nm (lw k) (hg k) := by
  apply Bool.eq_iff_iff.mpr
  unfold suN okN
  rw [jF_and, List.all_eq_true]
  constructor
  · rintro ⟨-, h2⟩ q hq
    obtain ⟨j, hj, rfl⟩ := h.2 q hq
    have h3 := h2 j hj
    rw [hv] at h3
    exact h3
  · intro h2
    refine ⟨rfl, fun j hj => ?_⟩
    have h3 := h2 _ (h.1 j hj)
    rw [hv]
    exact h3
theorem ad_y {β : Type} {t : Nat → Nat → Option β} {us a b : Nat} (h : adA us a b ≤ us) : sIn t us a (b + 1) = sIn t us (adA us a b) (adB us a b) := by
  by_cases hb : b < max us (a + 1)
  · obtain ⟨e1, e2⟩ := ad_in hb
    rw [e1, e2]
  · obtain ⟨e1, e2⟩ := ad_out hb
    rw [e1] at h
    rw [e1, e2, sIn_end (by omega)]
    exact sIn_0 h
theorem ad_n {β : Type} {t : Nat → Nat → Option β} {us a b : Nat} (ha : a ≤ us) (h : ¬ adA us a b ≤ us) : sIn t us a (b + 1) = none := by
  by_cases hb : b < max us (a + 1)
  · obtain ⟨e1, e2⟩ := ad_in hb
    rw [e1] at h
    exact absurd ha h
  · obtain ⟨e1, e2⟩ := ad_out hb
    rw [e1] at h
    rw [sIn_end (by omega)]
    exact scA_end (by omega)
theorem ad_b {us a b : Nat} (ha : a ≤ us) (hab : a ≤ b) (h : adA us a b ≤ us) : adA us a b < adB us a b ∧ adB us a b ≤ max us (adA us a b + 1) ∧ a ≤ adA us a b ∧ adA us a b ≤ a + 1 := by
  by_cases hb : b < max us (a + 1)
  · obtain ⟨e1, e2⟩ := ad_in hb
    rw [e1, e2]; omega
  · obtain ⟨e1, e2⟩ := ad_out hb
    rw [e1, e2]; omega
theorem ad_lt {us a b : Nat} (ha : a ≤ us) (hu : us ≤ 16) (hb9 : b ≤ max us (a + 1)) : (us + 1 - adA us a b) * 64 + (64 - adB us a b) < (us + 1 - a) * 64 + (64 - b) := by
  by_cases hb : b < max us (a + 1)
  · obtain ⟨e1, e2⟩ := ad_in hb
    rw [e1, e2]; omega
  · obtain ⟨e1, e2⟩ := ad_out hb
    rw [e1, e2]; omega
def nmP (mem : List Nat) (res : Option (List (Nat × Nat × Nat) × Nat)) (r : Int32) (u : (Nat → Nat) × (Nat → Nat) × (Nat → Nat) × (Nat → Nat)) : Prop :=
  (res = none → r = nI 4294967295) ∧ ∀ x, res = some x → r = nI x.2 ∧ u.2.2.2 mem.length = x.2 ∧ PO mem.length x.1 u.2.2.1 u.1 u.2.1 ∧ ∀ i, i < mem.length → mem[i]? = some (u.2.2.1 i)
abbrev mW9 (g0 b1 b2 b3 b4 b5 : Nat) (cA : ClassId) (n ft : Nat) (ed : Nat → Nat) (u : (Nat → Nat) × (Nat → Nat) × (Nat → Nat) × (Nat → Nat)) : va_W := [(g0, .inr (1, [.int (nI n), .ref b1, .int (nI ft), .ref b2, .ref b3, .ref b4, .ref b5])), (b1, .inl (cA, 64, .inl (fun j => nI (ed j)))), (b2, .inl (cA, 8, .inl (fun j => nI (u.1 j)))), (b3, .inl (cA, 8, .inl (fun j => nI (u.2.1 j)))), (b4, .inl (cA, 8, .inl (fun j => nI (u.2.2.1 j)))), (b5, .inl (cA, 9, .inl (fun j => nI (u.2.2.2 j))))]

set_option maxHeartbeats 4000000 in
set_option maxRecDepth 100000 in
theorem cM_name_c (l : Launch) (D : va_G) (A : Nat → Prop) (g0 b1 b2 b3 b4 b5 : Nat) (cA : ClassId) (n ft : Nat) (ed lw hg od ud : Nat → Nat) (set : Nat) (hn : n ≤ 8)(hed1 : ∀ k, k < 64 → ed k ≤ 1)(hset : set < 256) : Met l yM_name (Cond.code yM_name cM_name 5 (some FieldType.int) :: bw) (rmL 3) (va_Pc [.ref g0, .int (nI set)] (gW D vwCl A [(g0, .inr (1, [.int (nI n), .ref b1, .int (nI ft), .ref b2, .ref b3, .ref b4, .ref b5])), (b1, .inl (cA, 64, .inl (fun j => nI (ed j)))), (b2, .inl (cA, 8, .inl (fun j => nI (lw j)))), (b3, .inl (cA, 8, .inl (fun j => nI (hg j)))), (b4, .inl (cA, 8, .inl (fun j => nI (od j)))), (b5, .inl (cA, 9, .inl (fun j => nI (ud j))))] [(cA, .int)])) (va_Qi (nmP (meN set n 0) (srN (fun v j => ed (8 * v + j)) (meN set n 0) [] 0)) (fun u => gW D vwCl A (mW9 g0 b1 b2 b3 b4 b5 cA n ft ed u) [(cA, .int)]) A) 0 0 A := by
  refine Met.ofW (cc := cM_name) (maxL := 5) (ret := (some FieldType.int)) (by decide) rfl ?_
  intro p e s m args below meth c s₁ B9 hml hv9
  obtain ⟨rfl, hP, hK, hD⟩ := hv9
  have hx := B9.exec
  have hb := B9.bytes
  have hr := B9.returns
  have hts := atoms_spec (ws := (Cond.code yM_name cM_name 5 (some FieldType.int) :: bw)) B9.pre
  have hw : ∀ w ∈ bw, w.before _ s = true := fun w h => hts w (List.mem_cons_of_mem _ h)
  have hown : s.vm.findClass RM = some m.cls := findClass_of_methodNamed B9.named
  have hlocks := B9.notSynchronized
  have hl := lv_entry ([.ref g0, .int (nI set)]) (n := 5) (Nat.le_of_ble_eq_true rfl)
  rw [lg_entry_eq]
  generalize (lg_sl ([.ref g0, .int (nI set)]) ++ List.replicate (5 - (lg_sl ([.ref g0, .int (nI set)])).length) Slot.unset).toArray = ls at hl ⊢
  have hl : lv_has ls 5 [(0, .ref g0), (1, .int (nI set))] := hl
  have hS : va_S A s.heap s.heap [] := va_S.rf
  refine lv_iconst (v := nI 0) hx hb dM_name_0 (by decide) ?_
  refine lv_istore_n hx hb dM_name_1 rfl hl (by decide) (lv' := [(2, .int (nI 0)), (0, .ref g0), (1, .int (nI set))]) rfl (fun ls hl => ?_)
  refine lv_iconst (v := nI 0) hx hb dM_name_2 (by decide) ?_
  refine lv_istore_n hx hb dM_name_3 rfl hl (by decide) (lv' := [(3, .int (nI 0)), (2, .int (nI 0)), (0, .ref g0), (1, .int (nI set))]) rfl (fun ls hl => ?_)
  have L4 : ∀ (k9 : Nat) (i : Nat) (od1 : Nat → Nat), k9 = n - i → i ≤ n → (∀ j, j < (meN set i 0).length → (meN set i 0)[j]? = some (od1 j)) → ∀ (ls : Array Slot), lv_has ls 5 [(3, .int (nI i)), (2, .int (nI ((meN set i 0).length))), (0, .ref g0), (1, .int (nI set))] → ∀ (H : Heap) (locs : List Loc), va_P D vwCl [(g0, .inr (1, [.int (nI n), .ref b1, .int (nI ft), .ref b2, .ref b3, .ref b4, .ref b5])), (b1, .inl (cA, 64, .inl (fun j => nI (ed j)))), (b2, .inl (cA, 8, .inl (fun j => nI (lw j)))), (b3, .inl (cA, 8, .inl (fun j => nI (hg j)))), (b4, .inl (cA, 8, .inl (fun j => nI (od1 j)))), (b5, .inl (cA, 9, .inl (fun j => nI (ud j))))] H → va_D A [(g0, .inr (1, [.int (nI n), .ref b1, .int (nI ft), .ref b2, .ref b3, .ref b4, .ref b5])), (b1, .inl (cA, 64, .inl (fun j => nI (ed j)))), (b2, .inl (cA, 8, .inl (fun j => nI (lw j)))), (b3, .inl (cA, 8, .inl (fun j => nI (hg j)))), (b4, .inl (cA, 8, .inl (fun j => nI (od1 j)))), (b5, .inl (cA, 9, .inl (fun j => nI (ud j))))] → va_S A s.heap H locs → W p l e (headSpec (Cond.code yM_name cM_name 5 (some FieldType.int) :: bw) (rmL 3)).room s m ([.ref g0, .int (nI set)] : List Value).toArray below meth c H locs 0 0 (MQ below (va_Qi (nmP (meN set n 0) (srN (fun v j => ed (8 * v + j)) (meN set n 0) [] 0)) (fun u => gW D vwCl A (mW9 g0 b1 b2 b3 b4 b5 cA n ft ed u) [(cA, .int)]) A) ([.ref g0, .int (nI set)] : List Value).toArray s 0 0 A) (F0 m 4 ls []) := by
    intro k9
    induction k9 using Nat.strongRecOn with
    | _ k9 ih4 =>
      intro i od1 hk9 hi9 hod1 ls hl H locs hP hD hS
      refine lv_iload_n hx hb dM_name_4 rfl (lv_at hl 0 rfl) ?_
      refine lv_aload_n hx hb dM_name_5 rfl (lv_at hl 2 rfl) ?_
      refine va_get (D := D) (ci := 1) (v := .int (nI n)) (C := RM) (T := TM) (N := 7) hx hb hw uM hown hK hP 0 rfl rfl 0 (by decide) (hw _ w2_98) (fun _ h9 => h9) rfl dM_name_6 ?_
      refine nv_icmp_ge (x := i) (y := n) (tgt := 37) hx hb dM_name_9 rfl (by omega) (by omega) (fun hc9 => ?_) (fun hc9 => ?_)
      · have hin : n = i := by omega
        subst hin
        obtain ⟨sz, hsz⟩ : ∃ sz, (meN set n 0).length = sz := ⟨_, rfl⟩
        have hszn := me_len (set := set) (k := n) (v := 0)
        rw [hsz] at hl hszn hod1
        have hod8 : ∀ j, j < sz → od1 j < 8 := fun j hj => by have h8 := me_mem.mp (List.mem_of_getElem? (hod1 j hj)); omega
        refine lv_aload_n hx hb dM_name_37 rfl (lv_at hl 2 rfl) ?_
        refine va_get (D := D) (ci := 1) (v := .ref b5) (C := RM) (T := TM) (N := 7) hx hb hw uM hown hK hP 0 rfl rfl 6 (by decide) (hw _ w2_104) (fun _ h9 => h9) rfl dM_name_38 ?_
        refine lv_iconst (v := nI 0) hx hb dM_name_41 (by decide) ?_
        refine lv_iconst (v := nI 0) hx hb dM_name_42 (by decide) ?_
        refine nv_iast (i := 0) (x := 0) (f := ud) hx hb hK hP hD hS 5 0 rfl rfl (by omega) (by omega) dM_name_43 (fun H locs hP hD hS => ?_)
        have hP : va_P D vwCl [(g0, .inr (1, [.int (nI n), .ref b1, .int (nI ft), .ref b2, .ref b3, .ref b4, .ref b5])), (b1, .inl (cA, 64, .inl (fun j => nI (ed j)))), (b2, .inl (cA, 8, .inl (fun j => nI (lw j)))), (b3, .inl (cA, 8, .inl (fun j => nI (hg j)))), (b4, .inl (cA, 8, .inl (fun j => nI (od1 j)))), (b5, .inl (cA, 9, .inl (fun j => nI ((upN ud 0 0) j))))] H := hP
        have hD : va_D A [(g0, .inr (1, [.int (nI n), .ref b1, .int (nI ft), .ref b2, .ref b3, .ref b4, .ref b5])), (b1, .inl (cA, 64, .inl (fun j => nI (ed j)))), (b2, .inl (cA, 8, .inl (fun j => nI (lw j)))), (b3, .inl (cA, 8, .inl (fun j => nI (hg j)))), (b4, .inl (cA, 8, .inl (fun j => nI (od1 j)))), (b5, .inl (cA, 9, .inl (fun j => nI ((upN ud 0 0) j))))] := hD
        refine lv_iconst (v := nI 0) hx hb dM_name_44 (by decide) ?_
        refine lv_istore_n hx hb dM_name_45 rfl hl (by decide) (lv' := [(3, .int (nI 0)), (2, .int (nI sz)), (0, .ref g0), (1, .int (nI set))]) rfl (fun ls hl => ?_)
        refine lv_iload_n hx hb dM_name_46 rfl (lv_at hl 1 rfl) ?_
        refine nv_if_le (x := sz) (tgt := 55) hx hb dM_name_47 rfl (by omega) (fun hc47 => ?_) (fun hc47 => ?_)
        · refine lv_iload_n hx hb dM_name_55 rfl (lv_at hl 0 rfl) ?_
          refine nv_if_lt (x := 0) (tgt := 148) hx hb dM_name_56 rfl (by omega) ?_
          refine lv_iload_n hx hb dM_name_59 rfl (lv_at hl 0 rfl) ?_
          refine lv_iload_n hx hb dM_name_60 rfl (lv_at hl 1 rfl) ?_
          refine nv_icmp_ge (x := 0) (y := sz) (tgt := 148) hx hb dM_name_61 rfl (by omega) (by omega) (fun hc61 => ?_) (fun hc61 => ?_)
          · refine lv_iload_n hx hb dM_name_148 rfl (lv_at hl 0 rfl) ?_
            refine nv_if_ge (x := 0) (tgt := 156) hx hb dM_name_149 rfl (by omega) ?_
            refine lv_aload_n hx hb dM_name_156 rfl (lv_at hl 2 rfl) ?_
            refine va_get (D := D) (ci := 1) (v := .ref b5) (C := RM) (T := TM) (N := 7) hx hb hw uM hown hK hP 0 rfl rfl 6 (by decide) (hw _ w2_104) (fun _ h9 => h9) rfl dM_name_157 ?_
            refine lv_iload_n hx hb dM_name_160 rfl (lv_at hl 1 rfl) ?_
            refine nv_iald (i := sz) (f := upN ud 0 0) hx hb hK hP 5 0 rfl rfl (by omega) (by omega) dM_name_161 ?_
            have hm0 : meN set n 0 = [] := List.eq_nil_of_length_eq_zero (hsz.trans hc47)
            exact W.iret (v := (nI ((upN ud 0 0) sz))) hx hb hr (fun t ht hW => ⟨⟨_, (lw, hg, od1, upN ud 0 0), rfl, (by rw [hm0]; exact ⟨fun h9 => (by cases h9), fun x h9 => (by cases h9; exact ⟨by rw [hc47]; rfl, upN_s ud 0 0, po_nil, fun i hi => absurd hi (Nat.not_lt_zero _)⟩)⟩), by rw [ht]; exact hP, va_K.moved hW.alike hK, hD⟩, hS.F ht⟩) hS.2.2 dM_name_162
          · exact absurd hc61 (by omega)
        · refine lv_aload_n hx hb dM_name_50 rfl (lv_at hl 2 rfl) ?_
          refine lv_iconst (v := nI 0) hx hb dM_name_51 (by decide) ?_
          refine va_callv (va_runV (C := RM) (As := [.int (nI 0)]) (rest := []) ⟨hx, hb, hml, hown, hw⟩ (cM_begin_c l D A g0 b1 b2 b3 b4 b5 cA n ft ed lw hg od1 (upN ud 0 0) 0 (by omega)) (cwV 1 hw (gV w2_176 w2_178 w0_20 w1_2 w2_179) rfl rfl rfl ⟨rfl, by decide, by decide, by decide +kernel⟩ ⟨Nat.le_of_ble_eq_true rfl, Nat.le_of_ble_eq_true rfl⟩) ⟨gW_blind, va_recv (q0 := 0) (ci := 1) hK hP rfl rfl, gW_at hP hK hD _⟩ rfl rfl hl.1 rfl (lv_room (Nat.le_of_ble_eq_true rfl)) dM_name_52 ⟨Nat.zero_le _, Nat.zero_le _⟩) hS (fun q _ h => h) (fun q h => h) (fun u9 t9 H locs ht9 hvm9 hpost9 hB9 hz9 hk8 hS => ?_)
          obtain ⟨hP, -, hD⟩ := hB9
          rw [ht9] at hP
          have hP : va_P D vwCl [(g0, .inr (1, [.int (nI n), .ref b1, .int (nI ft), .ref b2, .ref b3, .ref b4, .ref b5])), (b1, .inl (cA, 64, .inl (fun j => nI (ed j)))), (b2, .inl (cA, 8, .inl (fun j => nI ((upN lw 0 0) j)))), (b3, .inl (cA, 8, .inl (fun j => nI ((upN hg 0 0) j)))), (b4, .inl (cA, 8, .inl (fun j => nI (od1 j)))), (b5, .inl (cA, 9, .inl (fun j => nI ((upN ud 0 0) j))))] H := hP
          have hD : va_D A [(g0, .inr (1, [.int (nI n), .ref b1, .int (nI ft), .ref b2, .ref b3, .ref b4, .ref b5])), (b1, .inl (cA, 64, .inl (fun j => nI (ed j)))), (b2, .inl (cA, 8, .inl (fun j => nI ((upN lw 0 0) j)))), (b3, .inl (cA, 8, .inl (fun j => nI ((upN hg 0 0) j)))), (b4, .inl (cA, 8, .inl (fun j => nI (od1 j)))), (b5, .inl (cA, 9, .inl (fun j => nI ((upN ud 0 0) j))))] := hD
          obtain ⟨v, r, hm⟩ : ∃ v r, meN set n 0 = v :: r := by
            cases h8 : meN set n 0 with
            | nil => rw [h8] at hsz; exact absurd hsz (by show ¬ 0 = sz; omega)
            | cons v r => exact ⟨v, r, rfl⟩
          have S : ∀ (r : List Nat) (k v us : Nat) (nm : List (Nat × Nat × Nat)), k + 1 + r.length = sz → od1 k = v → (∀ i, i < r.length → r[i]? = some (od1 (k + 1 + i))) → us ≤ 2 * k → ∀ (k9 a b : Nat) (lw1 hg1 ud1 : Nat → Nat), k9 = (us + 1 - a) * 64 + (64 - b) → a ≤ us → a ≤ b → b ≤ max us (a + 1) → lw1 k = a → hg1 k = b → ud1 k = us → PO k nm od1 lw1 hg1 → (∀ j, j < k → lw1 j < 64 ∧ hg1 j < 64) → (sIn (nfT (fun v j => ed (8 * v + j)) r v nm us) us a (b + 1) = none → ∀ (lw2 hg2 ud2 : Nat → Nat), (∀ j, j < k → lw2 j = lw1 j ∧ hg2 j = hg1 j) → (∀ j, j ≤ k → ud2 j = ud1 j) → ∀ (ls : Array Slot), lv_has ls 5 [(3, .int (nI k + Int32.ofInt (-1))), (0, .ref g0), (1, .int (nI set)), (2, .int (nI sz))] → ∀ (H : Heap) (locs : List Loc), va_P D vwCl [(g0, .inr (1, [.int (nI n), .ref b1, .int (nI ft), .ref b2, .ref b3, .ref b4, .ref b5])), (b1, .inl (cA, 64, .inl (fun j => nI (ed j)))), (b2, .inl (cA, 8, .inl (fun j => nI (lw2 j)))), (b3, .inl (cA, 8, .inl (fun j => nI (hg2 j)))), (b4, .inl (cA, 8, .inl (fun j => nI (od1 j)))), (b5, .inl (cA, 9, .inl (fun j => nI (ud2 j))))] H → va_D A [(g0, .inr (1, [.int (nI n), .ref b1, .int (nI ft), .ref b2, .ref b3, .ref b4, .ref b5])), (b1, .inl (cA, 64, .inl (fun j => nI (ed j)))), (b2, .inl (cA, 8, .inl (fun j => nI (lw2 j)))), (b3, .inl (cA, 8, .inl (fun j => nI (hg2 j)))), (b4, .inl (cA, 8, .inl (fun j => nI (od1 j)))), (b5, .inl (cA, 9, .inl (fun j => nI (ud2 j))))] → va_S A s.heap H locs → W p l e (headSpec (Cond.code yM_name cM_name 5 (some FieldType.int) :: bw) (rmL 3)).room s m ([.ref g0, .int (nI set)] : List Value).toArray below meth c H locs 0 0 (MQ below (va_Qi (nmP (meN set n 0) (srN (fun v j => ed (8 * v + j)) (meN set n 0) [] 0)) (fun u => gW D vwCl A (mW9 g0 b1 b2 b3 b4 b5 cA n ft ed u) [(cA, .int)]) A) ([.ref g0, .int (nI set)] : List Value).toArray s 0 0 A) (F0 m 55 ls [])) → (∀ x, sIn (nfT (fun v j => ed (8 * v + j)) r v nm us) us a (b + 1) = some x → ∀ (lw2 hg2 ud2 : Nat → Nat), PO sz x.1 od1 lw2 hg2 → ud2 sz = x.2 → ∀ (ls : Array Slot), lv_has ls 5 [(3, .int (nI sz)), (0, .ref g0), (1, .int (nI set)), (2, .int (nI sz))] → ∀ (H : Heap) (locs : List Loc), va_P D vwCl [(g0, .inr (1, [.int (nI n), .ref b1, .int (nI ft), .ref b2, .ref b3, .ref b4, .ref b5])), (b1, .inl (cA, 64, .inl (fun j => nI (ed j)))), (b2, .inl (cA, 8, .inl (fun j => nI (lw2 j)))), (b3, .inl (cA, 8, .inl (fun j => nI (hg2 j)))), (b4, .inl (cA, 8, .inl (fun j => nI (od1 j)))), (b5, .inl (cA, 9, .inl (fun j => nI (ud2 j))))] H → va_D A [(g0, .inr (1, [.int (nI n), .ref b1, .int (nI ft), .ref b2, .ref b3, .ref b4, .ref b5])), (b1, .inl (cA, 64, .inl (fun j => nI (ed j)))), (b2, .inl (cA, 8, .inl (fun j => nI (lw2 j)))), (b3, .inl (cA, 8, .inl (fun j => nI (hg2 j)))), (b4, .inl (cA, 8, .inl (fun j => nI (od1 j)))), (b5, .inl (cA, 9, .inl (fun j => nI (ud2 j))))] → va_S A s.heap H locs → W p l e (headSpec (Cond.code yM_name cM_name 5 (some FieldType.int) :: bw) (rmL 3)).room s m ([.ref g0, .int (nI set)] : List Value).toArray below meth c H locs 0 0 (MQ below (va_Qi (nmP (meN set n 0) (srN (fun v j => ed (8 * v + j)) (meN set n 0) [] 0)) (fun u => gW D vwCl A (mW9 g0 b1 b2 b3 b4 b5 cA n ft ed u) [(cA, .int)]) A) ([.ref g0, .int (nI set)] : List Value).toArray s 0 0 A) (F0 m 55 ls [])) → ∀ (ls : Array Slot), lv_has ls 5 [(3, .int (nI k)), (0, .ref g0), (1, .int (nI set)), (2, .int (nI sz))] → ∀ (H : Heap) (locs : List Loc), va_P D vwCl [(g0, .inr (1, [.int (nI n), .ref b1, .int (nI ft), .ref b2, .ref b3, .ref b4, .ref b5])), (b1, .inl (cA, 64, .inl (fun j => nI (ed j)))), (b2, .inl (cA, 8, .inl (fun j => nI (lw1 j)))), (b3, .inl (cA, 8, .inl (fun j => nI (hg1 j)))), (b4, .inl (cA, 8, .inl (fun j => nI (od1 j)))), (b5, .inl (cA, 9, .inl (fun j => nI (ud1 j))))] H → va_D A [(g0, .inr (1, [.int (nI n), .ref b1, .int (nI ft), .ref b2, .ref b3, .ref b4, .ref b5])), (b1, .inl (cA, 64, .inl (fun j => nI (ed j)))), (b2, .inl (cA, 8, .inl (fun j => nI (lw1 j)))), (b3, .inl (cA, 8, .inl (fun j => nI (hg1 j)))), (b4, .inl (cA, 8, .inl (fun j => nI (od1 j)))), (b5, .inl (cA, 9, .inl (fun j => nI (ud1 j))))] → va_S A s.heap H locs → W p l e (headSpec (Cond.code yM_name cM_name 5 (some FieldType.int) :: bw) (rmL 3)).room s m ([.ref g0, .int (nI set)] : List Value).toArray below meth c H locs 0 0 (MQ below (va_Qi (nmP (meN set n 0) (srN (fun v j => ed (8 * v + j)) (meN set n 0) [] 0)) (fun u => gW D vwCl A (mW9 g0 b1 b2 b3 b4 b5 cA n ft ed u) [(cA, .int)]) A) ([.ref g0, .int (nI set)] : List Value).toArray s 0 0 A) (F0 m 55 ls []) := by
            intro r
            induction r with
            | nil =>
              intro k v us nm hk hodv hrest hus k9
              induction k9 using Nat.strongRecOn with
              | _ k9 ihc =>
                intro a b lw1 hg1 ud1 hk9 ha hab9 hb9 hlk hhk huk hpo hbd F Sx ls hl H locs hP hD hS
                have hk1 : k + 1 = sz := hk
                refine lv_iload_n hx hb dM_name_55 rfl (lv_at hl 0 rfl) ?_
                refine nv_if_lt (x := k) (tgt := 148) hx hb dM_name_56 rfl (by omega) ?_
                refine lv_iload_n hx hb dM_name_59 rfl (lv_at hl 0 rfl) ?_
                refine lv_iload_n hx hb dM_name_60 rfl (lv_at hl 3 rfl) ?_
                refine nv_icmp_ge (x := k) (y := sz) (tgt := 148) hx hb dM_name_61 rfl (by omega) (by omega) (fun hc61 => ?_) (fun hc61 => ?_)
                · exact absurd hc61 (by omega)
                · refine lv_aload_n hx hb dM_name_64 rfl (lv_at hl 1 rfl) ?_
                  refine lv_iload_n hx hb dM_name_65 rfl (lv_at hl 0 rfl) ?_
                  refine va_calli (va_runV (C := RM) (As := [.int (nI k)]) (rest := []) ⟨hx, hb, hml, hown, hw⟩ (cM_advance_c l D A g0 b1 b2 b3 b4 b5 cA n ft ed lw1 hg1 od1 ud1 k (by omega) (by omega) (by omega) (by omega)) (cwV 1 hw (gV w2_180 w2_182 w0_21 w1_2 w2_183) rfl rfl rfl ⟨rfl, by decide, by decide, by decide +kernel⟩ ⟨Nat.le_of_ble_eq_true rfl, Nat.le_of_ble_eq_true rfl⟩) ⟨gW_blind, va_recv (q0 := 0) (ci := 1) hK hP rfl rfl, gW_at hP hK hD _⟩ rfl rfl hl.1 rfl (lv_room (Nat.le_of_ble_eq_true rfl)) dM_name_66 ⟨Nat.zero_le _, Nat.zero_le _⟩) hS (fun q _ h => h) (fun q h => h) (fun r9 u9 t9 H locs ht9 hvm9 hpost9 hB9 hz9 hk8 hS => ?_)
                  obtain ⟨lw2, hg2⟩ := u9
                  obtain ⟨hP, -, hD⟩ := hB9
                  rw [ht9] at hP
                  rw [huk, hlk, hhk] at hpost9
                  obtain ⟨hr9, hA2, hB2, hoth⟩ := hpost9
                  subst hr9
                  dsimp only at hA2 hB2 hoth
                  have hP : va_P D vwCl [(g0, .inr (1, [.int (nI n), .ref b1, .int (nI ft), .ref b2, .ref b3, .ref b4, .ref b5])), (b1, .inl (cA, 64, .inl (fun j => nI (ed j)))), (b2, .inl (cA, 8, .inl (fun j => nI (lw2 j)))), (b3, .inl (cA, 8, .inl (fun j => nI (hg2 j)))), (b4, .inl (cA, 8, .inl (fun j => nI (od1 j)))), (b5, .inl (cA, 9, .inl (fun j => nI (ud1 j))))] H := hP
                  have hD : va_D A [(g0, .inr (1, [.int (nI n), .ref b1, .int (nI ft), .ref b2, .ref b3, .ref b4, .ref b5])), (b1, .inl (cA, 64, .inl (fun j => nI (ed j)))), (b2, .inl (cA, 8, .inl (fun j => nI (lw2 j)))), (b3, .inl (cA, 8, .inl (fun j => nI (hg2 j)))), (b4, .inl (cA, 8, .inl (fun j => nI (od1 j)))), (b5, .inl (cA, 9, .inl (fun j => nI (ud1 j))))] := hD
                  refine nv_b_ne (x := decide (adA us a b ≤ us)) (tgt := 78) hx hb dM_name_69 rfl (fun hc69 => ?_) (fun hc69 => ?_)
                  · have hle := of_decide_eq_true hc69
                    have hrem := ad_y (t := nfT (fun v j => ed (8 * v + j)) ([]) v nm us) (b := b) hle
                    obtain ⟨hb21, hb22, hb23, hb24⟩ := ad_b ha hab9 hle
                    have hlt9 := ad_lt ha (by omega) hb9
                    have hpo2 : PO k nm od1 lw2 hg2 := po_congr hpo (fun j hj => hoth j (by omega))
                    have hbd2 : ∀ j, j ≤ k → lw2 j < 64 ∧ hg2 j < 64 := fun j hj => by
                      by_cases h7 : j = k
                      · rw [h7, hA2, hB2]; omega
                      · rw [(hoth j h7).1, (hoth j h7).2]; exact hbd j (by omega)
                    refine lv_aload_n hx hb dM_name_78 rfl (lv_at hl 1 rfl) ?_
                    refine lv_iload_n hx hb dM_name_79 rfl (lv_at hl 0 rfl) ?_
                    refine nr_V (b := g0) (As := [.int (nI k)]) (C := RM) (rest := []) ⟨hx, hb, hml, hown, hw⟩ (cM_suits_c l D A g0 b1 b2 b3 b4 b5 cA n ft ed lw2 hg2 od1 ud1 k hed1 (by omega) hbd2 (fun j hj => hod8 j (by omega))) (cwV 1 hw (gV w2_184 w2_186 w0_22 w1_2 w2_187) rfl rfl rfl ⟨rfl, by decide, by decide, by decide +kernel⟩ ⟨Nat.le_of_ble_eq_true rfl, Nat.le_of_ble_eq_true rfl⟩) gB_blind (va_recv (q0 := 0) (ci := 1) hK hP rfl rfl) (gB_at hP hK _) rfl hl.1 rfl (Nat.le_of_ble_eq_true rfl) dM_name_80 ⟨Nat.zero_le _, Nat.zero_le _⟩ ?_
                    rw [su_ok (ed := ed) hpo2 hodv, hA2, hB2]
                    refine nv_b_eq (x := okN (fun v j => ed (8 * v + j)) v nm (adA us a b) (adB us a b)) (tgt := 55) hx hb dM_name_83 rfl (fun hc83 => ?_) (fun hc83 => ?_)
                    · have htn : (nfT (fun v j => ed (8 * v + j)) ([]) v nm us) (adA us a b) (adB us a b) = none := if_neg (by rw [hc83]; exact Bool.false_ne_true)
                      have hrem2 := hrem.trans (sIn_no hb22 htn)
                      have hl := lv_sub hl (l' := [(3, .int (nI k)), (0, .ref g0), (1, .int (nI set)), (2, .int (nI sz))]) [0, 1, 2, 3] rfl
                      exact ihc _ (by rw [hk9]; exact hlt9) (adA us a b) (adB us a b) lw2 hg2 ud1 rfl hle (by omega) hb22 hA2 hB2 huk hpo2 (fun j hj => hbd2 j (by omega)) (fun hn8 lw8 hg8 ud8 q1 q2 => F (hrem2.trans hn8) lw8 hg8 ud8 (fun j hj => ⟨(q1 j hj).1.trans (hoth j (by omega)).1, (q1 j hj).2.trans (hoth j (by omega)).2⟩) q2) (fun x hx8 => Sx x (hrem2.trans hx8)) ls hl _ _ hP hD hS
                    · refine lv_aload_n hx hb dM_name_86 rfl (lv_at hl 1 rfl) ?_
                      refine va_get (D := D) (ci := 1) (v := .ref b3) (C := RM) (T := TM) (N := 7) hx hb hw uM hown hK hP 0 rfl rfl 4 (by decide) (hw _ w2_102) (fun _ h9 => h9) rfl dM_name_87 ?_
                      refine lv_iload_n hx hb dM_name_90 rfl (lv_at hl 0 rfl) ?_
                      refine nv_iald (i := k) (f := hg2) hx hb hK hP 3 0 rfl rfl (by omega) (by omega) dM_name_91 ?_
                      refine lv_iconst (v := nI 1) hx hb dM_name_92 (by decide) ?_
                      refine nv_iadd (x := hg2 k) (y := 1) hx hb dM_name_93 ?_
                      refine lv_aload_n hx hb dM_name_94 rfl (lv_at hl 1 rfl) ?_
                      refine va_get (D := D) (ci := 1) (v := .ref b5) (C := RM) (T := TM) (N := 7) hx hb hw uM hown hK hP 0 rfl rfl 6 (by decide) (hw _ w2_104) (fun _ h9 => h9) rfl dM_name_95 ?_
                      refine lv_iload_n hx hb dM_name_98 rfl (lv_at hl 0 rfl) ?_
                      refine nv_iald (i := k) (f := ud1) hx hb hK hP 5 0 rfl rfl (by omega) (by omega) dM_name_99 ?_
                      refine nv_icmp_le (x := (hg2 k) + 1) (y := ud1 k) (tgt := 114) hx hb dM_name_100 rfl (by omega) (by omega) (fun hc100 => ?_) (fun hc100 => ?_)
                      · refine lv_aload_n hx hb dM_name_114 rfl (lv_at hl 1 rfl) ?_
                        refine va_get (D := D) (ci := 1) (v := .ref b5) (C := RM) (T := TM) (N := 7) hx hb hw uM hown hK hP 0 rfl rfl 6 (by decide) (hw _ w2_104) (fun _ h9 => h9) rfl dM_name_115 ?_
                        refine lv_iload_n hx hb dM_name_118 rfl (lv_at hl 0 rfl) ?_
                        refine nv_iald (i := k) (f := ud1) hx hb hK hP 5 0 rfl rfl (by omega) (by omega) dM_name_119 ?_
                        rw [show ud1 k = max us (adB us a b + 1) by omega]
                        refine lv_istore hx hb dM_name_120 hl (by decide) (lv' := [(4, .int (nI (max us (adB us a b + 1)))), (3, .int (nI k)), (0, .ref g0), (1, .int (nI set)), (2, .int (nI sz))]) rfl (fun ls hl => ?_)
                        refine lv_aload_n hx hb dM_name_122 rfl (lv_at hl 2 rfl) ?_
                        refine va_get (D := D) (ci := 1) (v := .ref b5) (C := RM) (T := TM) (N := 7) hx hb hw uM hown hK hP 0 rfl rfl 6 (by decide) (hw _ w2_104) (fun _ h9 => h9) rfl dM_name_123 ?_
                        refine lv_iload_n hx hb dM_name_126 rfl (lv_at hl 1 rfl) ?_
                        refine lv_iconst (v := nI 1) hx hb dM_name_127 (by decide) ?_
                        refine nv_iadd (x := k) (y := 1) hx hb dM_name_128 ?_
                        refine lv_iload hx hb dM_name_129 (lv_at hl 0 rfl) ?_
                        refine nv_iast (i := k + 1) (x := max us (adB us a b + 1)) (f := ud1) hx hb hK hP hD hS 5 0 rfl rfl (by omega) (by omega) dM_name_131 (fun H locs hP hD hS => ?_)
                        have hP : va_P D vwCl [(g0, .inr (1, [.int (nI n), .ref b1, .int (nI ft), .ref b2, .ref b3, .ref b4, .ref b5])), (b1, .inl (cA, 64, .inl (fun j => nI (ed j)))), (b2, .inl (cA, 8, .inl (fun j => nI (lw2 j)))), (b3, .inl (cA, 8, .inl (fun j => nI (hg2 j)))), (b4, .inl (cA, 8, .inl (fun j => nI (od1 j)))), (b5, .inl (cA, 9, .inl (fun j => nI ((upN ud1 (k + 1) (max us (adB us a b + 1))) j))))] H := hP
                        have hD : va_D A [(g0, .inr (1, [.int (nI n), .ref b1, .int (nI ft), .ref b2, .ref b3, .ref b4, .ref b5])), (b1, .inl (cA, 64, .inl (fun j => nI (ed j)))), (b2, .inl (cA, 8, .inl (fun j => nI (lw2 j)))), (b3, .inl (cA, 8, .inl (fun j => nI (hg2 j)))), (b4, .inl (cA, 8, .inl (fun j => nI (od1 j)))), (b5, .inl (cA, 9, .inl (fun j => nI ((upN ud1 (k + 1) (max us (adB us a b + 1))) j))))] := hD
                        refine lv_iinc (k := 1) hx hb dM_name_132 hl rfl (nb_inc _) (by decide) (lv' := [(3, .int (nI (k + 1))), (4, .int (nI (max us (adB us a b + 1)))), (0, .ref g0), (1, .int (nI set)), (2, .int (nI sz))]) rfl (fun ls hl => ?_)
                        refine lv_iload_n hx hb dM_name_135 rfl (lv_at hl 0 rfl) ?_
                        refine lv_iload_n hx hb dM_name_136 rfl (lv_at hl 4 rfl) ?_
                        refine nv_icmp_ge (x := k + 1) (y := sz) (tgt := 145) hx hb dM_name_137 rfl (by omega) (by omega) (fun hc137 => ?_) (fun hc137 => ?_)
                        · refine lv_goto (tgt := 55) hx hb dM_name_145 rfl ?_
                          have hl := lv_sub hl (l' := [(3, .int (nI (k + 1))), (0, .ref g0), (1, .int (nI set)), (2, .int (nI sz))]) [0, 2, 3, 4] rfl
                          have htx : (nfT (fun v j => ed (8 * v + j)) ([]) v nm us) (adA us a b) (adB us a b) = some ((v, adA us a b, adB us a b) :: nm, max us (adB us a b + 1)) := if_pos hc83
                          rw [hk1] at hl
                          have hpo3 := po_add hpo2 hodv hA2 hB2
                          rw [hk1] at hpo3
                          exact Sx _ (hrem.trans (sIn_yes hb22 htx)) lw2 hg2 _ hpo3 (by rw [← hk1]; exact upN_s _ _ _) ls hl _ _ hP hD hS
                        · exact absurd hc137 (by omega)
                      · refine lv_aload_n hx hb dM_name_103 rfl (lv_at hl 1 rfl) ?_
                        refine va_get (D := D) (ci := 1) (v := .ref b3) (C := RM) (T := TM) (N := 7) hx hb hw uM hown hK hP 0 rfl rfl 4 (by decide) (hw _ w2_102) (fun _ h9 => h9) rfl dM_name_104 ?_
                        refine lv_iload_n hx hb dM_name_107 rfl (lv_at hl 0 rfl) ?_
                        refine nv_iald (i := k) (f := hg2) hx hb hK hP 3 0 rfl rfl (by omega) (by omega) dM_name_108 ?_
                        refine lv_iconst (v := nI 1) hx hb dM_name_109 (by decide) ?_
                        refine nv_iadd (x := hg2 k) (y := 1) hx hb dM_name_110 ?_
                        refine lv_goto (tgt := 120) hx hb dM_name_111 rfl ?_
                        rw [show (hg2 k) + 1 = max us (adB us a b + 1) by omega]
                        refine lv_istore hx hb dM_name_120 hl (by decide) (lv' := [(4, .int (nI (max us (adB us a b + 1)))), (3, .int (nI k)), (0, .ref g0), (1, .int (nI set)), (2, .int (nI sz))]) rfl (fun ls hl => ?_)
                        refine lv_aload_n hx hb dM_name_122 rfl (lv_at hl 2 rfl) ?_
                        refine va_get (D := D) (ci := 1) (v := .ref b5) (C := RM) (T := TM) (N := 7) hx hb hw uM hown hK hP 0 rfl rfl 6 (by decide) (hw _ w2_104) (fun _ h9 => h9) rfl dM_name_123 ?_
                        refine lv_iload_n hx hb dM_name_126 rfl (lv_at hl 1 rfl) ?_
                        refine lv_iconst (v := nI 1) hx hb dM_name_127 (by decide) ?_
                        refine nv_iadd (x := k) (y := 1) hx hb dM_name_128 ?_
                        refine lv_iload hx hb dM_name_129 (lv_at hl 0 rfl) ?_
                        refine nv_iast (i := k + 1) (x := max us (adB us a b + 1)) (f := ud1) hx hb hK hP hD hS 5 0 rfl rfl (by omega) (by omega) dM_name_131 (fun H locs hP hD hS => ?_)
                        have hP : va_P D vwCl [(g0, .inr (1, [.int (nI n), .ref b1, .int (nI ft), .ref b2, .ref b3, .ref b4, .ref b5])), (b1, .inl (cA, 64, .inl (fun j => nI (ed j)))), (b2, .inl (cA, 8, .inl (fun j => nI (lw2 j)))), (b3, .inl (cA, 8, .inl (fun j => nI (hg2 j)))), (b4, .inl (cA, 8, .inl (fun j => nI (od1 j)))), (b5, .inl (cA, 9, .inl (fun j => nI ((upN ud1 (k + 1) (max us (adB us a b + 1))) j))))] H := hP
                        have hD : va_D A [(g0, .inr (1, [.int (nI n), .ref b1, .int (nI ft), .ref b2, .ref b3, .ref b4, .ref b5])), (b1, .inl (cA, 64, .inl (fun j => nI (ed j)))), (b2, .inl (cA, 8, .inl (fun j => nI (lw2 j)))), (b3, .inl (cA, 8, .inl (fun j => nI (hg2 j)))), (b4, .inl (cA, 8, .inl (fun j => nI (od1 j)))), (b5, .inl (cA, 9, .inl (fun j => nI ((upN ud1 (k + 1) (max us (adB us a b + 1))) j))))] := hD
                        refine lv_iinc (k := 1) hx hb dM_name_132 hl rfl (nb_inc _) (by decide) (lv' := [(3, .int (nI (k + 1))), (4, .int (nI (max us (adB us a b + 1)))), (0, .ref g0), (1, .int (nI set)), (2, .int (nI sz))]) rfl (fun ls hl => ?_)
                        refine lv_iload_n hx hb dM_name_135 rfl (lv_at hl 0 rfl) ?_
                        refine lv_iload_n hx hb dM_name_136 rfl (lv_at hl 4 rfl) ?_
                        refine nv_icmp_ge (x := k + 1) (y := sz) (tgt := 145) hx hb dM_name_137 rfl (by omega) (by omega) (fun hc137 => ?_) (fun hc137 => ?_)
                        · refine lv_goto (tgt := 55) hx hb dM_name_145 rfl ?_
                          have hl := lv_sub hl (l' := [(3, .int (nI (k + 1))), (0, .ref g0), (1, .int (nI set)), (2, .int (nI sz))]) [0, 2, 3, 4] rfl
                          have htx : (nfT (fun v j => ed (8 * v + j)) ([]) v nm us) (adA us a b) (adB us a b) = some ((v, adA us a b, adB us a b) :: nm, max us (adB us a b + 1)) := if_pos hc83
                          rw [hk1] at hl
                          have hpo3 := po_add hpo2 hodv hA2 hB2
                          rw [hk1] at hpo3
                          exact Sx _ (hrem.trans (sIn_yes hb22 htx)) lw2 hg2 _ hpo3 (by rw [← hk1]; exact upN_s _ _ _) ls hl _ _ hP hD hS
                        · exact absurd hc137 (by omega)
                  · have hno := ad_n (t := nfT (fun v j => ed (8 * v + j)) ([]) v nm us) (b := b) ha (of_decide_eq_false hc69)
                    refine lv_iinc (k := 0) hx hb dM_name_72 hl rfl rfl (by decide) (lv' := [(3, .int (nI k + Int32.ofInt (-1))), (0, .ref g0), (1, .int (nI set)), (2, .int (nI sz))]) rfl (fun ls hl => ?_)
                    refine lv_goto (tgt := 55) hx hb dM_name_75 rfl ?_
                    exact F hno lw2 hg2 ud1 (fun j hj => hoth j (by omega)) (fun j _ => rfl) ls hl _ _ hP hD hS
            | cons v2 r IHr =>
              intro k v us nm hk hodv hrest hus k9
              induction k9 using Nat.strongRecOn with
              | _ k9 ihc =>
                intro a b lw1 hg1 ud1 hk9 ha hab9 hb9 hlk hhk huk hpo hbd F Sx ls hl H locs hP hD hS
                have hk1 : k + 1 + (r.length + 1) = sz := hk
                refine lv_iload_n hx hb dM_name_55 rfl (lv_at hl 0 rfl) ?_
                refine nv_if_lt (x := k) (tgt := 148) hx hb dM_name_56 rfl (by omega) ?_
                refine lv_iload_n hx hb dM_name_59 rfl (lv_at hl 0 rfl) ?_
                refine lv_iload_n hx hb dM_name_60 rfl (lv_at hl 3 rfl) ?_
                refine nv_icmp_ge (x := k) (y := sz) (tgt := 148) hx hb dM_name_61 rfl (by omega) (by omega) (fun hc61 => ?_) (fun hc61 => ?_)
                · exact absurd hc61 (by omega)
                · refine lv_aload_n hx hb dM_name_64 rfl (lv_at hl 1 rfl) ?_
                  refine lv_iload_n hx hb dM_name_65 rfl (lv_at hl 0 rfl) ?_
                  refine va_calli (va_runV (C := RM) (As := [.int (nI k)]) (rest := []) ⟨hx, hb, hml, hown, hw⟩ (cM_advance_c l D A g0 b1 b2 b3 b4 b5 cA n ft ed lw1 hg1 od1 ud1 k (by omega) (by omega) (by omega) (by omega)) (cwV 1 hw (gV w2_180 w2_182 w0_21 w1_2 w2_183) rfl rfl rfl ⟨rfl, by decide, by decide, by decide +kernel⟩ ⟨Nat.le_of_ble_eq_true rfl, Nat.le_of_ble_eq_true rfl⟩) ⟨gW_blind, va_recv (q0 := 0) (ci := 1) hK hP rfl rfl, gW_at hP hK hD _⟩ rfl rfl hl.1 rfl (lv_room (Nat.le_of_ble_eq_true rfl)) dM_name_66 ⟨Nat.zero_le _, Nat.zero_le _⟩) hS (fun q _ h => h) (fun q h => h) (fun r9 u9 t9 H locs ht9 hvm9 hpost9 hB9 hz9 hk8 hS => ?_)
                  obtain ⟨lw2, hg2⟩ := u9
                  obtain ⟨hP, -, hD⟩ := hB9
                  rw [ht9] at hP
                  rw [huk, hlk, hhk] at hpost9
                  obtain ⟨hr9, hA2, hB2, hoth⟩ := hpost9
                  subst hr9
                  dsimp only at hA2 hB2 hoth
                  have hP : va_P D vwCl [(g0, .inr (1, [.int (nI n), .ref b1, .int (nI ft), .ref b2, .ref b3, .ref b4, .ref b5])), (b1, .inl (cA, 64, .inl (fun j => nI (ed j)))), (b2, .inl (cA, 8, .inl (fun j => nI (lw2 j)))), (b3, .inl (cA, 8, .inl (fun j => nI (hg2 j)))), (b4, .inl (cA, 8, .inl (fun j => nI (od1 j)))), (b5, .inl (cA, 9, .inl (fun j => nI (ud1 j))))] H := hP
                  have hD : va_D A [(g0, .inr (1, [.int (nI n), .ref b1, .int (nI ft), .ref b2, .ref b3, .ref b4, .ref b5])), (b1, .inl (cA, 64, .inl (fun j => nI (ed j)))), (b2, .inl (cA, 8, .inl (fun j => nI (lw2 j)))), (b3, .inl (cA, 8, .inl (fun j => nI (hg2 j)))), (b4, .inl (cA, 8, .inl (fun j => nI (od1 j)))), (b5, .inl (cA, 9, .inl (fun j => nI (ud1 j))))] := hD
                  refine nv_b_ne (x := decide (adA us a b ≤ us)) (tgt := 78) hx hb dM_name_69 rfl (fun hc69 => ?_) (fun hc69 => ?_)
                  · have hle := of_decide_eq_true hc69
                    have hrem := ad_y (t := nfT (fun v j => ed (8 * v + j)) (v2 :: r) v nm us) (b := b) hle
                    obtain ⟨hb21, hb22, hb23, hb24⟩ := ad_b ha hab9 hle
                    have hlt9 := ad_lt ha (by omega) hb9
                    have hpo2 : PO k nm od1 lw2 hg2 := po_congr hpo (fun j hj => hoth j (by omega))
                    have hbd2 : ∀ j, j ≤ k → lw2 j < 64 ∧ hg2 j < 64 := fun j hj => by
                      by_cases h7 : j = k
                      · rw [h7, hA2, hB2]; omega
                      · rw [(hoth j h7).1, (hoth j h7).2]; exact hbd j (by omega)
                    refine lv_aload_n hx hb dM_name_78 rfl (lv_at hl 1 rfl) ?_
                    refine lv_iload_n hx hb dM_name_79 rfl (lv_at hl 0 rfl) ?_
                    refine nr_V (b := g0) (As := [.int (nI k)]) (C := RM) (rest := []) ⟨hx, hb, hml, hown, hw⟩ (cM_suits_c l D A g0 b1 b2 b3 b4 b5 cA n ft ed lw2 hg2 od1 ud1 k hed1 (by omega) hbd2 (fun j hj => hod8 j (by omega))) (cwV 1 hw (gV w2_184 w2_186 w0_22 w1_2 w2_187) rfl rfl rfl ⟨rfl, by decide, by decide, by decide +kernel⟩ ⟨Nat.le_of_ble_eq_true rfl, Nat.le_of_ble_eq_true rfl⟩) gB_blind (va_recv (q0 := 0) (ci := 1) hK hP rfl rfl) (gB_at hP hK _) rfl hl.1 rfl (Nat.le_of_ble_eq_true rfl) dM_name_80 ⟨Nat.zero_le _, Nat.zero_le _⟩ ?_
                    rw [su_ok (ed := ed) hpo2 hodv, hA2, hB2]
                    refine nv_b_eq (x := okN (fun v j => ed (8 * v + j)) v nm (adA us a b) (adB us a b)) (tgt := 55) hx hb dM_name_83 rfl (fun hc83 => ?_) (fun hc83 => ?_)
                    · have htn : (nfT (fun v j => ed (8 * v + j)) (v2 :: r) v nm us) (adA us a b) (adB us a b) = none := if_neg (by rw [hc83]; exact Bool.false_ne_true)
                      have hrem2 := hrem.trans (sIn_no hb22 htn)
                      have hl := lv_sub hl (l' := [(3, .int (nI k)), (0, .ref g0), (1, .int (nI set)), (2, .int (nI sz))]) [0, 1, 2, 3] rfl
                      exact ihc _ (by rw [hk9]; exact hlt9) (adA us a b) (adB us a b) lw2 hg2 ud1 rfl hle (by omega) hb22 hA2 hB2 huk hpo2 (fun j hj => hbd2 j (by omega)) (fun hn8 lw8 hg8 ud8 q1 q2 => F (hrem2.trans hn8) lw8 hg8 ud8 (fun j hj => ⟨(q1 j hj).1.trans (hoth j (by omega)).1, (q1 j hj).2.trans (hoth j (by omega)).2⟩) q2) (fun x hx8 => Sx x (hrem2.trans hx8)) ls hl _ _ hP hD hS
                    · refine lv_aload_n hx hb dM_name_86 rfl (lv_at hl 1 rfl) ?_
                      refine va_get (D := D) (ci := 1) (v := .ref b3) (C := RM) (T := TM) (N := 7) hx hb hw uM hown hK hP 0 rfl rfl 4 (by decide) (hw _ w2_102) (fun _ h9 => h9) rfl dM_name_87 ?_
                      refine lv_iload_n hx hb dM_name_90 rfl (lv_at hl 0 rfl) ?_
                      refine nv_iald (i := k) (f := hg2) hx hb hK hP 3 0 rfl rfl (by omega) (by omega) dM_name_91 ?_
                      refine lv_iconst (v := nI 1) hx hb dM_name_92 (by decide) ?_
                      refine nv_iadd (x := hg2 k) (y := 1) hx hb dM_name_93 ?_
                      refine lv_aload_n hx hb dM_name_94 rfl (lv_at hl 1 rfl) ?_
                      refine va_get (D := D) (ci := 1) (v := .ref b5) (C := RM) (T := TM) (N := 7) hx hb hw uM hown hK hP 0 rfl rfl 6 (by decide) (hw _ w2_104) (fun _ h9 => h9) rfl dM_name_95 ?_
                      refine lv_iload_n hx hb dM_name_98 rfl (lv_at hl 0 rfl) ?_
                      refine nv_iald (i := k) (f := ud1) hx hb hK hP 5 0 rfl rfl (by omega) (by omega) dM_name_99 ?_
                      refine nv_icmp_le (x := (hg2 k) + 1) (y := ud1 k) (tgt := 114) hx hb dM_name_100 rfl (by omega) (by omega) (fun hc100 => ?_) (fun hc100 => ?_)
                      · refine lv_aload_n hx hb dM_name_114 rfl (lv_at hl 1 rfl) ?_
                        refine va_get (D := D) (ci := 1) (v := .ref b5) (C := RM) (T := TM) (N := 7) hx hb hw uM hown hK hP 0 rfl rfl 6 (by decide) (hw _ w2_104) (fun _ h9 => h9) rfl dM_name_115 ?_
                        refine lv_iload_n hx hb dM_name_118 rfl (lv_at hl 0 rfl) ?_
                        refine nv_iald (i := k) (f := ud1) hx hb hK hP 5 0 rfl rfl (by omega) (by omega) dM_name_119 ?_
                        rw [show ud1 k = max us (adB us a b + 1) by omega]
                        refine lv_istore hx hb dM_name_120 hl (by decide) (lv' := [(4, .int (nI (max us (adB us a b + 1)))), (3, .int (nI k)), (0, .ref g0), (1, .int (nI set)), (2, .int (nI sz))]) rfl (fun ls hl => ?_)
                        refine lv_aload_n hx hb dM_name_122 rfl (lv_at hl 2 rfl) ?_
                        refine va_get (D := D) (ci := 1) (v := .ref b5) (C := RM) (T := TM) (N := 7) hx hb hw uM hown hK hP 0 rfl rfl 6 (by decide) (hw _ w2_104) (fun _ h9 => h9) rfl dM_name_123 ?_
                        refine lv_iload_n hx hb dM_name_126 rfl (lv_at hl 1 rfl) ?_
                        refine lv_iconst (v := nI 1) hx hb dM_name_127 (by decide) ?_
                        refine nv_iadd (x := k) (y := 1) hx hb dM_name_128 ?_
                        refine lv_iload hx hb dM_name_129 (lv_at hl 0 rfl) ?_
                        refine nv_iast (i := k + 1) (x := max us (adB us a b + 1)) (f := ud1) hx hb hK hP hD hS 5 0 rfl rfl (by omega) (by omega) dM_name_131 (fun H locs hP hD hS => ?_)
                        have hP : va_P D vwCl [(g0, .inr (1, [.int (nI n), .ref b1, .int (nI ft), .ref b2, .ref b3, .ref b4, .ref b5])), (b1, .inl (cA, 64, .inl (fun j => nI (ed j)))), (b2, .inl (cA, 8, .inl (fun j => nI (lw2 j)))), (b3, .inl (cA, 8, .inl (fun j => nI (hg2 j)))), (b4, .inl (cA, 8, .inl (fun j => nI (od1 j)))), (b5, .inl (cA, 9, .inl (fun j => nI ((upN ud1 (k + 1) (max us (adB us a b + 1))) j))))] H := hP
                        have hD : va_D A [(g0, .inr (1, [.int (nI n), .ref b1, .int (nI ft), .ref b2, .ref b3, .ref b4, .ref b5])), (b1, .inl (cA, 64, .inl (fun j => nI (ed j)))), (b2, .inl (cA, 8, .inl (fun j => nI (lw2 j)))), (b3, .inl (cA, 8, .inl (fun j => nI (hg2 j)))), (b4, .inl (cA, 8, .inl (fun j => nI (od1 j)))), (b5, .inl (cA, 9, .inl (fun j => nI ((upN ud1 (k + 1) (max us (adB us a b + 1))) j))))] := hD
                        refine lv_iinc (k := 1) hx hb dM_name_132 hl rfl (nb_inc _) (by decide) (lv' := [(3, .int (nI (k + 1))), (4, .int (nI (max us (adB us a b + 1)))), (0, .ref g0), (1, .int (nI set)), (2, .int (nI sz))]) rfl (fun ls hl => ?_)
                        refine lv_iload_n hx hb dM_name_135 rfl (lv_at hl 0 rfl) ?_
                        refine lv_iload_n hx hb dM_name_136 rfl (lv_at hl 4 rfl) ?_
                        refine nv_icmp_ge (x := k + 1) (y := sz) (tgt := 145) hx hb dM_name_137 rfl (by omega) (by omega) (fun hc137 => ?_) (fun hc137 => ?_)
                        · exact absurd hc137 (by omega)
                        · refine lv_aload_n hx hb dM_name_140 rfl (lv_at hl 2 rfl) ?_
                          refine lv_iload_n hx hb dM_name_141 rfl (lv_at hl 0 rfl) ?_
                          refine va_callv (va_runV (C := RM) (As := [.int (nI (k + 1))]) (rest := []) ⟨hx, hb, hml, hown, hw⟩ (cM_begin_c l D A g0 b1 b2 b3 b4 b5 cA n ft ed lw2 hg2 od1 (upN ud1 (k + 1) (max us (adB us a b + 1))) (k + 1) (by omega)) (cwV 1 hw (gV w2_176 w2_178 w0_20 w1_2 w2_179) rfl rfl rfl ⟨rfl, by decide, by decide, by decide +kernel⟩ ⟨Nat.le_of_ble_eq_true rfl, Nat.le_of_ble_eq_true rfl⟩) ⟨gW_blind, va_recv (q0 := 0) (ci := 1) hK hP rfl rfl, gW_at hP hK hD _⟩ rfl rfl hl.1 rfl (lv_room (Nat.le_of_ble_eq_true rfl)) dM_name_142 ⟨Nat.zero_le _, Nat.zero_le _⟩) hS (fun q _ h => h) (fun q h => h) (fun u9 t9 H locs ht9 hvm9 hpost9 hB9 hz9 hk8 hS => ?_)
                          obtain ⟨hP, -, hD⟩ := hB9
                          rw [ht9] at hP
                          have hP : va_P D vwCl [(g0, .inr (1, [.int (nI n), .ref b1, .int (nI ft), .ref b2, .ref b3, .ref b4, .ref b5])), (b1, .inl (cA, 64, .inl (fun j => nI (ed j)))), (b2, .inl (cA, 8, .inl (fun j => nI ((upN lw2 (k + 1) 0) j)))), (b3, .inl (cA, 8, .inl (fun j => nI ((upN hg2 (k + 1) 0) j)))), (b4, .inl (cA, 8, .inl (fun j => nI (od1 j)))), (b5, .inl (cA, 9, .inl (fun j => nI ((upN ud1 (k + 1) (max us (adB us a b + 1))) j))))] H := hP
                          have hD : va_D A [(g0, .inr (1, [.int (nI n), .ref b1, .int (nI ft), .ref b2, .ref b3, .ref b4, .ref b5])), (b1, .inl (cA, 64, .inl (fun j => nI (ed j)))), (b2, .inl (cA, 8, .inl (fun j => nI ((upN lw2 (k + 1) 0) j)))), (b3, .inl (cA, 8, .inl (fun j => nI ((upN hg2 (k + 1) 0) j)))), (b4, .inl (cA, 8, .inl (fun j => nI (od1 j)))), (b5, .inl (cA, 9, .inl (fun j => nI ((upN ud1 (k + 1) (max us (adB us a b + 1))) j))))] := hD
                          refine lv_goto (tgt := 55) hx hb dM_name_145 rfl ?_
                          have hl := lv_sub hl (l' := [(3, .int (nI (k + 1))), (0, .ref g0), (1, .int (nI set)), (2, .int (nI sz))]) [0, 2, 3, 4] rfl
                          have hpo3 : PO (k + 1) ((v, adA us a b, adB us a b) :: nm) od1 (upN lw2 (k + 1) 0) (upN hg2 (k + 1) 0) := po_congr (po_add hpo2 hodv hA2 hB2) (fun j hj => ⟨upN_n _ _ (by omega), upN_n _ _ (by omega)⟩)
                          have hov : od1 (k + 1) = v2 := by have h8 := hrest 0 (by show 0 < r.length + 1; omega); exact (Option.some.inj h8).symm
                          have hor : ∀ i, i < r.length → r[i]? = some (od1 (k + 1 + 1 + i)) := fun i hi => by have h8 := hrest (i + 1) (by show i + 1 < r.length + 1; omega); rw [List.getElem?_cons_succ] at h8; rw [h8, show k + 1 + (i + 1) = k + 1 + 1 + i by omega]
                          refine IHr (k + 1) v2 (max us (adB us a b + 1)) ((v, adA us a b, adB us a b) :: nm) (by omega) hov hor (by omega) _ 0 0 _ _ _ rfl (Nat.zero_le _) (Nat.zero_le _) (Nat.zero_le _) (upN_s _ _ _) (upN_s _ _ _) (upN_s _ _ _) hpo3 (fun j hj => by rw [upN_n _ _ (by omega), upN_n _ _ (by omega)]; exact hbd2 j (by omega)) (fun hn9 lw5 hg5 ud5 g1 g2 ls hl H locs hP hD hS => ?_) (fun x hx8 lw5 hg5 ud5 g1 g2 ls hl H locs hP hD hS => ?_) ls hl _ _ hP hD hS
                          · rw [nb_dec (Nat.succ_pos k)] at hl
                            have hl : lv_has ls 5 [(3, .int (nI k)), (0, .ref g0), (1, .int (nI set)), (2, .int (nI sz))] := hl
                            have htn : (nfT (fun v j => ed (8 * v + j)) (v2 :: r) v nm us) (adA us a b) (adB us a b) = none := (if_pos hc83).trans ((sIn_0 (Nat.zero_le _)).trans hn9)
                            have hrem2 := hrem.trans (sIn_no hb22 htn)
                            have g3 : ∀ j, j ≤ k → lw5 j = lw2 j ∧ hg5 j = hg2 j := fun j hj => by have h8 := g1 j (by omega); rw [upN_n _ _ (by omega), upN_n _ _ (by omega)] at h8; exact h8
                            have g4 : ∀ j, j ≤ k → ud5 j = ud1 j := fun j hj => by have h8 := g2 j (by omega); rw [upN_n _ _ (by omega)] at h8; exact h8
                            exact ihc _ (by rw [hk9]; exact hlt9) (adA us a b) (adB us a b) lw5 hg5 ud5 rfl hle (by omega) hb22 ((g3 k (Nat.le_refl _)).1.trans hA2) ((g3 k (Nat.le_refl _)).2.trans hB2) ((g4 k (Nat.le_refl _)).trans huk) (po_congr hpo2 (fun j hj => g3 j (by omega))) (fun j hj => by rw [(g3 j (by omega)).1, (g3 j (by omega)).2]; exact hbd2 j (by omega)) (fun hn8 lw8 hg8 ud8 q1 q2 => F (hrem2.trans hn8) lw8 hg8 ud8 (fun j hj => ⟨(q1 j hj).1.trans ((g3 j (by omega)).1.trans (hoth j (by omega)).1), (q1 j hj).2.trans ((g3 j (by omega)).2.trans (hoth j (by omega)).2)⟩) (fun j hj => (q2 j hj).trans (g4 j hj))) (fun x hx8 => Sx x (hrem2.trans hx8)) ls hl _ _ hP hD hS
                          · exact Sx x (hrem.trans (sIn_yes hb22 ((if_pos hc83).trans ((sIn_0 (Nat.zero_le _)).trans hx8)))) lw5 hg5 ud5 g1 g2 ls hl _ _ hP hD hS
                      · refine lv_aload_n hx hb dM_name_103 rfl (lv_at hl 1 rfl) ?_
                        refine va_get (D := D) (ci := 1) (v := .ref b3) (C := RM) (T := TM) (N := 7) hx hb hw uM hown hK hP 0 rfl rfl 4 (by decide) (hw _ w2_102) (fun _ h9 => h9) rfl dM_name_104 ?_
                        refine lv_iload_n hx hb dM_name_107 rfl (lv_at hl 0 rfl) ?_
                        refine nv_iald (i := k) (f := hg2) hx hb hK hP 3 0 rfl rfl (by omega) (by omega) dM_name_108 ?_
                        refine lv_iconst (v := nI 1) hx hb dM_name_109 (by decide) ?_
                        refine nv_iadd (x := hg2 k) (y := 1) hx hb dM_name_110 ?_
                        refine lv_goto (tgt := 120) hx hb dM_name_111 rfl ?_
                        rw [show (hg2 k) + 1 = max us (adB us a b + 1) by omega]
                        refine lv_istore hx hb dM_name_120 hl (by decide) (lv' := [(4, .int (nI (max us (adB us a b + 1)))), (3, .int (nI k)), (0, .ref g0), (1, .int (nI set)), (2, .int (nI sz))]) rfl (fun ls hl => ?_)
                        refine lv_aload_n hx hb dM_name_122 rfl (lv_at hl 2 rfl) ?_
                        refine va_get (D := D) (ci := 1) (v := .ref b5) (C := RM) (T := TM) (N := 7) hx hb hw uM hown hK hP 0 rfl rfl 6 (by decide) (hw _ w2_104) (fun _ h9 => h9) rfl dM_name_123 ?_
                        refine lv_iload_n hx hb dM_name_126 rfl (lv_at hl 1 rfl) ?_
                        refine lv_iconst (v := nI 1) hx hb dM_name_127 (by decide) ?_
                        refine nv_iadd (x := k) (y := 1) hx hb dM_name_128 ?_
                        refine lv_iload hx hb dM_name_129 (lv_at hl 0 rfl) ?_
                        refine nv_iast (i := k + 1) (x := max us (adB us a b + 1)) (f := ud1) hx hb hK hP hD hS 5 0 rfl rfl (by omega) (by omega) dM_name_131 (fun H locs hP hD hS => ?_)
                        have hP : va_P D vwCl [(g0, .inr (1, [.int (nI n), .ref b1, .int (nI ft), .ref b2, .ref b3, .ref b4, .ref b5])), (b1, .inl (cA, 64, .inl (fun j => nI (ed j)))), (b2, .inl (cA, 8, .inl (fun j => nI (lw2 j)))), (b3, .inl (cA, 8, .inl (fun j => nI (hg2 j)))), (b4, .inl (cA, 8, .inl (fun j => nI (od1 j)))), (b5, .inl (cA, 9, .inl (fun j => nI ((upN ud1 (k + 1) (max us (adB us a b + 1))) j))))] H := hP
                        have hD : va_D A [(g0, .inr (1, [.int (nI n), .ref b1, .int (nI ft), .ref b2, .ref b3, .ref b4, .ref b5])), (b1, .inl (cA, 64, .inl (fun j => nI (ed j)))), (b2, .inl (cA, 8, .inl (fun j => nI (lw2 j)))), (b3, .inl (cA, 8, .inl (fun j => nI (hg2 j)))), (b4, .inl (cA, 8, .inl (fun j => nI (od1 j)))), (b5, .inl (cA, 9, .inl (fun j => nI ((upN ud1 (k + 1) (max us (adB us a b + 1))) j))))] := hD
                        refine lv_iinc (k := 1) hx hb dM_name_132 hl rfl (nb_inc _) (by decide) (lv' := [(3, .int (nI (k + 1))), (4, .int (nI (max us (adB us a b + 1)))), (0, .ref g0), (1, .int (nI set)), (2, .int (nI sz))]) rfl (fun ls hl => ?_)
                        refine lv_iload_n hx hb dM_name_135 rfl (lv_at hl 0 rfl) ?_
                        refine lv_iload_n hx hb dM_name_136 rfl (lv_at hl 4 rfl) ?_
                        refine nv_icmp_ge (x := k + 1) (y := sz) (tgt := 145) hx hb dM_name_137 rfl (by omega) (by omega) (fun hc137 => ?_) (fun hc137 => ?_)
                        · exact absurd hc137 (by omega)
                        · refine lv_aload_n hx hb dM_name_140 rfl (lv_at hl 2 rfl) ?_
                          refine lv_iload_n hx hb dM_name_141 rfl (lv_at hl 0 rfl) ?_
                          refine va_callv (va_runV (C := RM) (As := [.int (nI (k + 1))]) (rest := []) ⟨hx, hb, hml, hown, hw⟩ (cM_begin_c l D A g0 b1 b2 b3 b4 b5 cA n ft ed lw2 hg2 od1 (upN ud1 (k + 1) (max us (adB us a b + 1))) (k + 1) (by omega)) (cwV 1 hw (gV w2_176 w2_178 w0_20 w1_2 w2_179) rfl rfl rfl ⟨rfl, by decide, by decide, by decide +kernel⟩ ⟨Nat.le_of_ble_eq_true rfl, Nat.le_of_ble_eq_true rfl⟩) ⟨gW_blind, va_recv (q0 := 0) (ci := 1) hK hP rfl rfl, gW_at hP hK hD _⟩ rfl rfl hl.1 rfl (lv_room (Nat.le_of_ble_eq_true rfl)) dM_name_142 ⟨Nat.zero_le _, Nat.zero_le _⟩) hS (fun q _ h => h) (fun q h => h) (fun u9 t9 H locs ht9 hvm9 hpost9 hB9 hz9 hk8 hS => ?_)
                          obtain ⟨hP, -, hD⟩ := hB9
                          rw [ht9] at hP
                          have hP : va_P D vwCl [(g0, .inr (1, [.int (nI n), .ref b1, .int (nI ft), .ref b2, .ref b3, .ref b4, .ref b5])), (b1, .inl (cA, 64, .inl (fun j => nI (ed j)))), (b2, .inl (cA, 8, .inl (fun j => nI ((upN lw2 (k + 1) 0) j)))), (b3, .inl (cA, 8, .inl (fun j => nI ((upN hg2 (k + 1) 0) j)))), (b4, .inl (cA, 8, .inl (fun j => nI (od1 j)))), (b5, .inl (cA, 9, .inl (fun j => nI ((upN ud1 (k + 1) (max us (adB us a b + 1))) j))))] H := hP
                          have hD : va_D A [(g0, .inr (1, [.int (nI n), .ref b1, .int (nI ft), .ref b2, .ref b3, .ref b4, .ref b5])), (b1, .inl (cA, 64, .inl (fun j => nI (ed j)))), (b2, .inl (cA, 8, .inl (fun j => nI ((upN lw2 (k + 1) 0) j)))), (b3, .inl (cA, 8, .inl (fun j => nI ((upN hg2 (k + 1) 0) j)))), (b4, .inl (cA, 8, .inl (fun j => nI (od1 j)))), (b5, .inl (cA, 9, .inl (fun j => nI ((upN ud1 (k + 1) (max us (adB us a b + 1))) j))))] := hD
                          refine lv_goto (tgt := 55) hx hb dM_name_145 rfl ?_
                          have hl := lv_sub hl (l' := [(3, .int (nI (k + 1))), (0, .ref g0), (1, .int (nI set)), (2, .int (nI sz))]) [0, 2, 3, 4] rfl
                          have hpo3 : PO (k + 1) ((v, adA us a b, adB us a b) :: nm) od1 (upN lw2 (k + 1) 0) (upN hg2 (k + 1) 0) := po_congr (po_add hpo2 hodv hA2 hB2) (fun j hj => ⟨upN_n _ _ (by omega), upN_n _ _ (by omega)⟩)
                          have hov : od1 (k + 1) = v2 := by have h8 := hrest 0 (by show 0 < r.length + 1; omega); exact (Option.some.inj h8).symm
                          have hor : ∀ i, i < r.length → r[i]? = some (od1 (k + 1 + 1 + i)) := fun i hi => by have h8 := hrest (i + 1) (by show i + 1 < r.length + 1; omega); rw [List.getElem?_cons_succ] at h8; rw [h8, show k + 1 + (i + 1) = k + 1 + 1 + i by omega]
                          refine IHr (k + 1) v2 (max us (adB us a b + 1)) ((v, adA us a b, adB us a b) :: nm) (by omega) hov hor (by omega) _ 0 0 _ _ _ rfl (Nat.zero_le _) (Nat.zero_le _) (Nat.zero_le _) (upN_s _ _ _) (upN_s _ _ _) (upN_s _ _ _) hpo3 (fun j hj => by rw [upN_n _ _ (by omega), upN_n _ _ (by omega)]; exact hbd2 j (by omega)) (fun hn9 lw5 hg5 ud5 g1 g2 ls hl H locs hP hD hS => ?_) (fun x hx8 lw5 hg5 ud5 g1 g2 ls hl H locs hP hD hS => ?_) ls hl _ _ hP hD hS
                          · rw [nb_dec (Nat.succ_pos k)] at hl
                            have hl : lv_has ls 5 [(3, .int (nI k)), (0, .ref g0), (1, .int (nI set)), (2, .int (nI sz))] := hl
                            have htn : (nfT (fun v j => ed (8 * v + j)) (v2 :: r) v nm us) (adA us a b) (adB us a b) = none := (if_pos hc83).trans ((sIn_0 (Nat.zero_le _)).trans hn9)
                            have hrem2 := hrem.trans (sIn_no hb22 htn)
                            have g3 : ∀ j, j ≤ k → lw5 j = lw2 j ∧ hg5 j = hg2 j := fun j hj => by have h8 := g1 j (by omega); rw [upN_n _ _ (by omega), upN_n _ _ (by omega)] at h8; exact h8
                            have g4 : ∀ j, j ≤ k → ud5 j = ud1 j := fun j hj => by have h8 := g2 j (by omega); rw [upN_n _ _ (by omega)] at h8; exact h8
                            exact ihc _ (by rw [hk9]; exact hlt9) (adA us a b) (adB us a b) lw5 hg5 ud5 rfl hle (by omega) hb22 ((g3 k (Nat.le_refl _)).1.trans hA2) ((g3 k (Nat.le_refl _)).2.trans hB2) ((g4 k (Nat.le_refl _)).trans huk) (po_congr hpo2 (fun j hj => g3 j (by omega))) (fun j hj => by rw [(g3 j (by omega)).1, (g3 j (by omega)).2]; exact hbd2 j (by omega)) (fun hn8 lw8 hg8 ud8 q1 q2 => F (hrem2.trans hn8) lw8 hg8 ud8 (fun j hj => ⟨(q1 j hj).1.trans ((g3 j (by omega)).1.trans (hoth j (by omega)).1), (q1 j hj).2.trans ((g3 j (by omega)).2.trans (hoth j (by omega)).2)⟩) (fun j hj => (q2 j hj).trans (g4 j hj))) (fun x hx8 => Sx x (hrem2.trans hx8)) ls hl _ _ hP hD hS
                          · exact Sx x (hrem.trans (sIn_yes hb22 ((if_pos hc83).trans ((sIn_0 (Nat.zero_le _)).trans hx8)))) lw5 hg5 ud5 g1 g2 ls hl _ _ hP hD hS
                  · have hno := ad_n (t := nfT (fun v j => ed (8 * v + j)) (v2 :: r) v nm us) (b := b) ha (of_decide_eq_false hc69)
                    refine lv_iinc (k := 0) hx hb dM_name_72 hl rfl rfl (by decide) (lv' := [(3, .int (nI k + Int32.ofInt (-1))), (0, .ref g0), (1, .int (nI set)), (2, .int (nI sz))]) rfl (fun ls hl => ?_)
                    refine lv_goto (tgt := 55) hx hb dM_name_75 rfl ?_
                    exact F hno lw2 hg2 ud1 (fun j hj => hoth j (by omega)) (fun j _ => rfl) ls hl _ _ hP hD hS
          have hR : srN (fun v j => ed (8 * v + j)) (meN set n 0) [] 0 = sIn (nfT (fun v j => ed (8 * v + j)) r v [] 0) 0 0 (0 + 1) := by rw [hm]; exact sIn_0 (Nat.zero_le _)
          have hl9 : r.length + 1 = sz := by rw [← hsz, hm]; rfl
          have hod0 : od1 0 = v := by have h8 := hod1 0 (by omega); rw [hm] at h8; exact (Option.some.inj h8).symm
          have hodr : ∀ i, i < r.length → r[i]? = some (od1 (0 + 1 + i)) := fun i hi => by have h8 := hod1 (i + 1) (by omega); rw [hm, List.getElem?_cons_succ] at h8; rw [h8, Nat.zero_add, Nat.add_comm 1 i]
          refine S r 0 v 0 [] (by omega) hod0 hodr (by omega) _ 0 0 (upN lw 0 0) (upN hg 0 0) (upN ud 0 0) rfl (Nat.zero_le _) (Nat.zero_le _) (Nat.zero_le _) (upN_s _ _ _) (upN_s _ _ _) (upN_s _ _ _) po_nil (fun j hj => absurd hj (Nat.not_lt_zero _)) (fun hn9 lw2 hg2 ud2 g1 g2 ls hl H locs hP hD hS => ?_) (fun x hx9 lw2 hg2 ud2 g1 g2 ls hl H locs hP hD hS => ?_) ls (lv_sub hl (l' := [(3, .int (nI 0)), (0, .ref g0), (1, .int (nI set)), (2, .int (nI sz))]) [0, 2, 3, 1] rfl) _ _ hP hD hS
          · refine lv_iload_n hx hb dM_name_55 rfl (lv_at hl 0 rfl) ?_
            refine lv_if_lt (tgt := 148) hx hb dM_name_56 rfl (fun hc56 => ?_) (fun hc56 => ?_)
            · refine lv_iload_n hx hb dM_name_148 rfl (lv_at hl 0 rfl) ?_
              refine lv_if_ge (tgt := 156) hx hb dM_name_149 rfl (fun hc149 => ?_) (fun hc149 => ?_)
              · exact absurd hc149 (by decide)
              · refine lv_iconst (v := nI 4294967295) hx hb dM_name_152 nb_m1 ?_
                refine lv_goto (tgt := 162) hx hb dM_name_153 rfl ?_
                exact W.iret (v := (nI 4294967295)) hx hb hr (fun t ht hW => ⟨⟨_, (lw2, hg2, od1, ud2), rfl, (by rw [hR, hn9]; exact ⟨fun _ => rfl, fun x h9 => (by cases h9)⟩), by rw [ht]; exact hP, va_K.moved hW.alike hK, hD⟩, hS.F ht⟩) hS.2.2 dM_name_162
            · exact absurd (by decide) hc56
          · refine lv_iload_n hx hb dM_name_55 rfl (lv_at hl 0 rfl) ?_
            refine nv_if_lt (x := sz) (tgt := 148) hx hb dM_name_56 rfl (by omega) ?_
            refine lv_iload_n hx hb dM_name_59 rfl (lv_at hl 0 rfl) ?_
            refine lv_iload_n hx hb dM_name_60 rfl (lv_at hl 3 rfl) ?_
            refine nv_icmp_ge (x := sz) (y := sz) (tgt := 148) hx hb dM_name_61 rfl (by omega) (by omega) (fun hc61 => ?_) (fun hc61 => ?_)
            · refine lv_iload_n hx hb dM_name_148 rfl (lv_at hl 0 rfl) ?_
              refine nv_if_ge (x := sz) (tgt := 156) hx hb dM_name_149 rfl (by omega) ?_
              refine lv_aload_n hx hb dM_name_156 rfl (lv_at hl 1 rfl) ?_
              refine va_get (D := D) (ci := 1) (v := .ref b5) (C := RM) (T := TM) (N := 7) hx hb hw uM hown hK hP 0 rfl rfl 6 (by decide) (hw _ w2_104) (fun _ h9 => h9) rfl dM_name_157 ?_
              refine lv_iload_n hx hb dM_name_160 rfl (lv_at hl 3 rfl) ?_
              refine nv_iald (i := sz) (f := ud2) hx hb hK hP 5 0 rfl rfl (by omega) (by omega) dM_name_161 ?_
              exact W.iret (v := (nI (ud2 sz))) hx hb hr (fun t ht hW => ⟨⟨_, (lw2, hg2, od1, ud2), rfl, (by rw [hR, hx9]; exact ⟨fun h9 => (by cases h9), fun x9 h9 => (by cases h9; exact ⟨by rw [g2], by rw [hsz]; exact g2, by rw [hsz]; exact g1, fun i hi => hod1 i (by rw [← hsz]; exact hi)⟩)⟩), by rw [ht]; exact hP, va_K.moved hW.alike hK, hD⟩, hS.F ht⟩) hS.2.2 dM_name_162
            · exact absurd hc61 (by omega)
      · refine lv_iload_n hx hb dM_name_12 rfl (lv_at hl 3 rfl) ?_
        refine lv_iload_n hx hb dM_name_13 rfl (lv_at hl 0 rfl) ?_
        refine nv_ishr (x := set) (y := i) hx hb dM_name_14 (by omega) (by omega) ?_
        refine lv_iconst (v := nI 1) hx hb dM_name_15 (by decide) ?_
        refine nv_iand (x := set >>> i) (y := 1) hx hb dM_name_16 ?_
        refine lv_iconst (v := nI 1) hx hb dM_name_17 (by decide) ?_
        have hq18 := and1 set i
        refine nv_icmp_ne (x := (set >>> i) &&& 1) (y := 1) (tgt := 31) hx hb dM_name_18 rfl (by omega) (by omega) (fun hc18 => ?_) (fun hc18 => ?_)
        · refine lv_iinc (k := 0) hx hb dM_name_31 hl rfl (nb_inc _) (by decide) (lv' := [(3, .int (nI (i + 1))), (2, .int (nI ((meN set i 0).length))), (0, .ref g0), (1, .int (nI set))]) rfl (fun ls hl => ?_)
          refine lv_goto (tgt := 4) hx hb dM_name_34 rfl ?_
          have e9 : meN set (i + 1) 0 = meN set i 0 := by rw [me_app, Nat.zero_add, b1_f hc18, if_neg Bool.false_ne_true, List.append_nil]
          have hl : lv_has ls 5 [(3, .int (nI (i + 1))), (2, .int (nI ((meN set (i + 1) 0).length))), (0, .ref g0), (1, .int (nI set))] := by rw [e9]; exact hl
          exact ih4 _ (by omega) (i + 1) od1 rfl (by omega) (by rw [e9]; exact hod1) ls hl _ _ hP hD hS
        · have hq21 := me_len (set := set) (k := i) (v := 0)
          refine lv_aload_n hx hb dM_name_21 rfl (lv_at hl 2 rfl) ?_
          refine va_get (D := D) (ci := 1) (v := .ref b4) (C := RM) (T := TM) (N := 7) hx hb hw uM hown hK hP 0 rfl rfl 5 (by decide) (hw _ w2_103) (fun _ h9 => h9) rfl dM_name_22 ?_
          refine lv_iload_n hx hb dM_name_25 rfl (lv_at hl 1 rfl) ?_
          refine lv_iload_n hx hb dM_name_26 rfl (lv_at hl 0 rfl) ?_
          refine nv_iast (i := (meN set i 0).length) (x := i) (f := od1) hx hb hK hP hD hS 4 0 rfl rfl (by omega) (by omega) dM_name_27 (fun H locs hP hD hS => ?_)
          have hP : va_P D vwCl [(g0, .inr (1, [.int (nI n), .ref b1, .int (nI ft), .ref b2, .ref b3, .ref b4, .ref b5])), (b1, .inl (cA, 64, .inl (fun j => nI (ed j)))), (b2, .inl (cA, 8, .inl (fun j => nI (lw j)))), (b3, .inl (cA, 8, .inl (fun j => nI (hg j)))), (b4, .inl (cA, 8, .inl (fun j => nI ((upN od1 ((meN set i 0).length) i) j)))), (b5, .inl (cA, 9, .inl (fun j => nI (ud j))))] H := hP
          have hD : va_D A [(g0, .inr (1, [.int (nI n), .ref b1, .int (nI ft), .ref b2, .ref b3, .ref b4, .ref b5])), (b1, .inl (cA, 64, .inl (fun j => nI (ed j)))), (b2, .inl (cA, 8, .inl (fun j => nI (lw j)))), (b3, .inl (cA, 8, .inl (fun j => nI (hg j)))), (b4, .inl (cA, 8, .inl (fun j => nI ((upN od1 ((meN set i 0).length) i) j)))), (b5, .inl (cA, 9, .inl (fun j => nI (ud j))))] := hD
          refine lv_iinc (k := 1) hx hb dM_name_28 hl rfl (nb_inc _) (by decide) (lv' := [(2, .int (nI (((meN set i 0).length) + 1))), (3, .int (nI i)), (0, .ref g0), (1, .int (nI set))]) rfl (fun ls hl => ?_)
          refine lv_iinc (k := 1) hx hb dM_name_31 hl rfl (nb_inc _) (by decide) (lv' := [(3, .int (nI (i + 1))), (2, .int (nI (((meN set i 0).length) + 1))), (0, .ref g0), (1, .int (nI set))]) rfl (fun ls hl => ?_)
          refine lv_goto (tgt := 4) hx hb dM_name_34 rfl ?_
          have e9 : meN set (i + 1) 0 = meN set i 0 ++ [i] := by rw [me_app, Nat.zero_add, b1_t hc18, if_pos rfl]
          have hl : lv_has ls 5 [(3, .int (nI (i + 1))), (2, .int (nI ((meN set (i + 1) 0).length))), (0, .ref g0), (1, .int (nI set))] := by rw [e9, List.length_append, List.length_singleton]; exact hl
          exact ih4 _ (by omega) (i + 1) (upN od1 ((meN set i 0).length) i) rfl (by omega) (by rw [e9]; intro j hj; rw [List.length_append, List.length_singleton] at hj; by_cases h7 : j = (meN set i 0).length; (rw [h7, List.getElem?_append_right (Nat.le_refl _), Nat.sub_self, upN_s]; rfl); (rw [List.getElem?_append_left (by omega), upN_n _ _ h7]; exact hod1 j (by omega))) ls hl _ _ hP hD hS
  exact L4 _ 0 od rfl (Nat.zero_le _) (fun j hj => absurd hj (Nat.not_lt_zero _)) ls hl _ _ hP hD hS
