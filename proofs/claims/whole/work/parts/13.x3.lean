theorem cl_no {nb : Nat → Nat} {set n i : Nat} (hi : i < n) (h1 : set.testBit i = true) (h2 : ¬ set &&& ntN (2 ^ i) &&& ntN (nb i) = 0) : jCl nb set n = false := by
  cases h : jCl nb set n with
  | false => rfl
  | true => exact absurd (cl_iff.mp h i hi h1) h2
theorem cl_s1 {nb : Nat → Nat} {set i : Nat} (h : jCl nb set i = true) (h1 : set.testBit i = false) : jCl nb set (i + 1) = true := by
  show (jCl nb set i && !(set.testBit i && _)) = true
  rw [h, h1]; rfl
theorem cl_s2 {nb : Nat → Nat} {set i : Nat} (h : jCl nb set i = true) (h1 : set &&& ntN (2 ^ i) &&& ntN (nb i) = 0) : jCl nb set (i + 1) = true := by
  show (jCl nb set i && !(set.testBit i && decide (¬ set &&& ntN (2 ^ i) &&& ntN (nb i) = 0))) = true
  rw [h, decide_eq_false (fun h2 => h2 h1), Bool.and_false]; rfl
theorem jPa_lt {lo hi : Nat → Nat} {v : Nat} (h1 : lo v < 16) (h2 : hi v < 16) : jPa lo hi v < 65536 := or_16 (pw_16 h1) (pw_16 h2)
theorem jEn_lt {lo hi : Nat → Nat} {set : Nat} : ∀ {n : Nat}, (∀ v, v < n → lo v < 16 ∧ hi v < 16) → jEn lo hi set n < 65536
  | 0, _ => by show (0 : Nat) < 65536; omega
  | n + 1, h => by
    have ih := jEn_lt (lo := lo) (hi := hi) (set := set) (n := n) (fun v hv => h v (by omega))
    have e : jEn lo hi set (n + 1) = if set.testBit n = true then jEn lo hi set n ||| jPa lo hi n else jEn lo hi set n := rfl
    rw [e]
    split
    · exact or_16 ih (jPa_lt (h n (by omega)).1 (h n (by omega)).2)
    · exact ih
theorem jLo_lt {nb lo hi : Nat → Nat} {n us g : Nat} (hu : us ≤ 16) : ∀ k, jLo nb lo hi n us g k < 65536
  | 0 => by show (0 : Nat) < 65536; omega
  | k + 1 => by
    have ih := jLo_lt (nb := nb) (lo := lo) (hi := hi) (n := n) (us := us) (g := g) hu k
    have e : jLo nb lo hi n us g (k + 1) = if pcN k = g ∧ jAp nb n k = true then jLo nb lo hi n us g k ||| ((2 ^ us - 1) &&& ntN (jEn lo hi k n)) else jLo nb lo hi n us g k := rfl
    have h1 : 2 ^ us ≤ 2 ^ 16 := pw_le hu
    have h2 := Nat.two_pow_pos us
    rw [e]
    split
    · exact or_16 ih (and_lt (by omega))
    · exact ih

set_option maxHeartbeats 4000000 in
set_option maxRecDepth 100000 in
theorem cX_neighboursOf_c (l : Launch) (D : va_G) (A : Nat → Prop) (h a1 a2 a3 a4 : Nat) (cA : ClassId) (n us : Nat) (nb lo hi ho : Nat → Nat) (set : Nat) (hn : n ≤ 8) (hnb : ∀ v, v < n → nb v < 256)(hset : set < 256) : Rd l yX_neighboursOf (Cond.code yX_neighboursOf cX_neighboursOf 4 (some FieldType.int) :: bw) (rmL 3) [.ref h, .int (nI set)] (gB D vwCl [(h, .inr (0, [.ref a1, .int (nI n), .ref a2, .ref a3, .ref a4, .int (nI us)])), (a1, .inl (cA, 8, .inl (fun j => nI (nb j)))), (a2, .inl (cA, 8, .inl (fun j => nI (lo j)))), (a3, .inl (cA, 8, .inl (fun j => nI (hi j)))), (a4, .inl (cA, 16, .inl (fun j => nI (ho j))))] [(cA, .int)]) ((nI (jNo nb set n))) := by
  refine Met.ofW (cc := cX_neighboursOf) (maxL := 4) (ret := (some FieldType.int)) (by decide) rfl ?_
  intro p e s m args below meth c s₁ B9 hml hv
  obtain ⟨rfl, hP, hK⟩ := hv
  have hx := B9.exec
  have hb := B9.bytes
  have hr := B9.returns
  have hts := atoms_spec (ws := (Cond.code yX_neighboursOf cX_neighboursOf 4 (some FieldType.int) :: bw)) B9.pre
  have hw : ∀ w ∈ bw, w.before _ s = true := fun w h => hts w (List.mem_cons_of_mem _ h)
  have hown : s.vm.findClass RX = some m.cls := findClass_of_methodNamed B9.named
  have hlocks := B9.notSynchronized
  have hl := lv_entry ([.ref h, .int (nI set)]) (n := 4) (Nat.le_of_ble_eq_true rfl)
  rw [lg_entry_eq]
  generalize (lg_sl ([.ref h, .int (nI set)]) ++ List.replicate (4 - (lg_sl ([.ref h, .int (nI set)])).length) Slot.unset).toArray = ls at hl ⊢
  have hl : lv_has ls 4 [(0, .ref h), (1, .int (nI set))] := hl
  refine lv_iconst (v := nI 0) hx hb dX_neighboursOf_0 (by decide) ?_
  refine lv_istore_n hx hb dX_neighboursOf_1 rfl hl (by decide) (lv' := [(2, .int (nI 0)), (0, .ref h), (1, .int (nI set))]) rfl (fun ls hl => ?_)
  refine lv_iconst (v := nI 0) hx hb dX_neighboursOf_2 (by decide) ?_
  refine lv_istore_n hx hb dX_neighboursOf_3 rfl hl (by decide) (lv' := [(3, .int (nI 0)), (2, .int (nI 0)), (0, .ref h), (1, .int (nI set))]) rfl (fun ls hl => ?_)
  have L4 : ∀ (k9 : Nat) (i : Nat), k9 = n - i → i ≤ n → ∀ (ls : Array Slot), lv_has ls 4 [(3, .int (nI i)), (2, .int (nI (jNo nb set i))), (0, .ref h), (1, .int (nI set))] → W p l e (headSpec (Cond.code yX_neighboursOf cX_neighboursOf 4 (some FieldType.int) :: bw) (rmL 3)).room s m ([.ref h, .int (nI set)] : List Value).toArray below meth c s.heap [] 0 0 (MQ below (QcRead ((nI (jNo nb set n)))) ([.ref h, .int (nI set)] : List Value).toArray s 0 0 (fun _ => False)) (F0 m 4 ls []) := by
    intro k9
    induction k9 using Nat.strongRecOn with
    | _ k9 ih4 =>
      intro i hk9 hi9 ls hl
      refine lv_iload_n hx hb dX_neighboursOf_4 rfl (lv_at hl 0 rfl) ?_
      refine lv_aload_n hx hb dX_neighboursOf_5 rfl (lv_at hl 2 rfl) ?_
      refine va_get (D := D) (ci := 0) (v := .int (nI n)) (C := RX) (T := TX) (N := 6) hx hb hw uX hown hK hP 0 rfl rfl 1 (by decide) (hw _ w1_20) (fun _ h9 => h9) rfl dX_neighboursOf_6 ?_
      refine nv_icmp_ge (x := i) (y := n) (tgt := 35) hx hb dX_neighboursOf_9 rfl (by omega) (by omega) (fun hc9 => ?_) (fun hc9 => ?_)
      · refine lv_iload_n hx hb dX_neighboursOf_35 rfl (lv_at hl 1 rfl) ?_
        exact W.iret (v := (nI (jNo nb set i))) hx hb hr (fun t ht hW => ⟨by rw [show i = n by omega], ht⟩) (fun q h => by cases h) dX_neighboursOf_36
      · refine lv_iload_n hx hb dX_neighboursOf_12 rfl (lv_at hl 3 rfl) ?_
        refine lv_iload_n hx hb dX_neighboursOf_13 rfl (lv_at hl 0 rfl) ?_
        refine nr_S (As := [.int (nI set), .int (nI i)]) (rest := []) ⟨hx, hb, hml, hown, hw⟩ (cX_has_c l set i (by omega) (by omega)) (va_cwS 2 hw (gS2 w1_72 w1_73 w1_1 w1_74) rfl rfl rfl ⟨by decide, by decide, by decide +kernel⟩ ⟨Nat.le_of_ble_eq_true rfl, Nat.le_of_ble_eq_true rfl⟩) gT_blind (gT_at _) rfl hl.1 rfl (Nat.le_of_ble_eq_true rfl) dX_neighboursOf_14 ⟨Nat.zero_le _, Nat.zero_le _⟩ ?_
        refine nv_b_eq (x := set.testBit i) (tgt := 29) hx hb dX_neighboursOf_17 rfl (fun hc17 => ?_) (fun hc17 => ?_)
        · refine lv_iinc (k := 0) hx hb dX_neighboursOf_29 hl rfl (nb_inc _) (by decide) (lv' := [(3, .int (nI (i + 1))), (2, .int (nI (jNo nb set i))), (0, .ref h), (1, .int (nI set))]) rfl (fun ls hl => ?_)
          refine lv_goto (tgt := 4) hx hb dX_neighboursOf_32 rfl ?_
          have e9 : jNo nb set (i + 1) = jNo nb set i := if_neg (by rw [hc17]; exact Bool.false_ne_true)
          have hl : lv_has ls 4 [(3, .int (nI (i + 1))), (2, .int (nI (jNo nb set (i + 1)))), (0, .ref h), (1, .int (nI set))] := by rw [e9]; exact hl
          exact ih4 _ (by omega) (i + 1) rfl (by omega) ls hl
        · refine lv_iload_n hx hb dX_neighboursOf_20 rfl (lv_at hl 1 rfl) ?_
          refine lv_aload_n hx hb dX_neighboursOf_21 rfl (lv_at hl 2 rfl) ?_
          refine va_get (D := D) (ci := 0) (v := .ref a1) (C := RX) (T := TX) (N := 6) hx hb hw uX hown hK hP 0 rfl rfl 0 (by decide) (hw _ w1_19) (fun _ h9 => h9) rfl dX_neighboursOf_22 ?_
          refine lv_iload_n hx hb dX_neighboursOf_25 rfl (lv_at hl 0 rfl) ?_
          refine nv_iald (i := i) (f := nb) hx hb hK hP 1 0 rfl rfl (by omega) (by omega) dX_neighboursOf_26 ?_
          refine nv_ior (x := jNo nb set i) (y := nb i) hx hb dX_neighboursOf_27 ?_
          refine lv_istore_n hx hb dX_neighboursOf_28 rfl hl (by decide) (lv' := [(2, .int (nI ((jNo nb set i) ||| (nb i)))), (3, .int (nI i)), (0, .ref h), (1, .int (nI set))]) rfl (fun ls hl => ?_)
          refine lv_iinc (k := 1) hx hb dX_neighboursOf_29 hl rfl (nb_inc _) (by decide) (lv' := [(3, .int (nI (i + 1))), (2, .int (nI ((jNo nb set i) ||| (nb i)))), (0, .ref h), (1, .int (nI set))]) rfl (fun ls hl => ?_)
          refine lv_goto (tgt := 4) hx hb dX_neighboursOf_32 rfl ?_
          have e9 : jNo nb set (i + 1) = jNo nb set i ||| nb i := if_pos hc17
          have hl : lv_has ls 4 [(3, .int (nI (i + 1))), (2, .int (nI (jNo nb set (i + 1)))), (0, .ref h), (1, .int (nI set))] := by rw [e9]; exact hl
          exact ih4 _ (by omega) (i + 1) rfl (by omega) ls hl
  exact L4 _ 0 rfl (Nat.zero_le _) ls hl

set_option maxHeartbeats 4000000 in
set_option maxRecDepth 100000 in
theorem cX_isApart_c (l : Launch) (D : va_G) (A : Nat → Prop) (h a1 a2 a3 a4 : Nat) (cA : ClassId) (n us : Nat) (nb lo hi ho : Nat → Nat) (set : Nat) (hn : n ≤ 8) (hnb : ∀ v, v < n → nb v < 256)(hset : set < 256) : Rd l yX_isApart (Cond.code yX_isApart cX_isApart 2 (some FieldType.boolean) :: bw) (rmL 4) [.ref h, .int (nI set)] (gB D vwCl [(h, .inr (0, [.ref a1, .int (nI n), .ref a2, .ref a3, .ref a4, .int (nI us)])), (a1, .inl (cA, 8, .inl (fun j => nI (nb j)))), (a2, .inl (cA, 8, .inl (fun j => nI (lo j)))), (a3, .inl (cA, 8, .inl (fun j => nI (hi j)))), (a4, .inl (cA, 16, .inl (fun j => nI (ho j))))] [(cA, .int)]) ((bI (jAp nb n set))) := by
  refine Met.ofW (cc := cX_isApart) (maxL := 2) (ret := (some FieldType.boolean)) (by decide) rfl ?_
  intro p e s m args below meth c s₁ B9 hml hv
  obtain ⟨rfl, hP, hK⟩ := hv
  have hx := B9.exec
  have hb := B9.bytes
  have hr := B9.returns
  have hts := atoms_spec (ws := (Cond.code yX_isApart cX_isApart 2 (some FieldType.boolean) :: bw)) B9.pre
  have hw : ∀ w ∈ bw, w.before _ s = true := fun w h => hts w (List.mem_cons_of_mem _ h)
  have hown : s.vm.findClass RX = some m.cls := findClass_of_methodNamed B9.named
  have hlocks := B9.notSynchronized
  have hl := lv_entry ([.ref h, .int (nI set)]) (n := 2) (Nat.le_of_ble_eq_true rfl)
  rw [lg_entry_eq]
  generalize (lg_sl ([.ref h, .int (nI set)]) ++ List.replicate (2 - (lg_sl ([.ref h, .int (nI set)])).length) Slot.unset).toArray = ls at hl ⊢
  have hl : lv_has ls 2 [(0, .ref h), (1, .int (nI set))] := hl
  refine lv_aload_n hx hb dX_isApart_0 rfl (lv_at hl 0 rfl) ?_
  refine lv_iload_n hx hb dX_isApart_1 rfl (lv_at hl 1 rfl) ?_
  refine nr_V (b := h) (As := [.int (nI set)]) (C := RX) (rest := []) ⟨hx, hb, hml, hown, hw⟩ (cX_neighboursOf_c l D A h a1 a2 a3 a4 cA n us nb lo hi ho set hn hnb (by omega)) (cwV 1 hw (gV w1_101 w1_103 w0_7 w1_1 w1_104) rfl rfl rfl ⟨rfl, by decide, by decide, by decide +kernel⟩ ⟨Nat.le_of_ble_eq_true rfl, Nat.le_of_ble_eq_true rfl⟩) gB_blind (va_recv (q0 := 0) (ci := 0) hK hP rfl rfl) (gB_at hP hK _) rfl hl.1 rfl (Nat.le_of_ble_eq_true rfl) dX_isApart_2 ⟨Nat.zero_le _, Nat.zero_le _⟩ ?_
  refine lv_iload_n hx hb dX_isApart_5 rfl (lv_at hl 1 rfl) ?_
  refine nv_iand (x := jNo nb set n) (y := set) hx hb dX_isApart_6 ?_
  have hq7 : jNo nb set n &&& set < 2 ^ 32 := and_lt (by have := jNo_lt (set := set) hnb; omega)
  refine nv_if_ne (x := (jNo nb set n) &&& set) (tgt := 14) hx hb dX_isApart_7 rfl (by omega) (fun hc7 => ?_) (fun hc7 => ?_)
  · refine lv_iconst (v := nI 0) hx hb dX_isApart_14 (by decide) ?_
    exact W.zret (v := (nI 0)) hx hb hr rfl (fun t ht hW => ⟨by unfold jAp; rw [decide_eq_false hc7]; rfl, ht⟩) (fun q h => by cases h) dX_isApart_15
  · refine lv_iconst (v := nI 1) hx hb dX_isApart_10 (by decide) ?_
    refine lv_goto (tgt := 15) hx hb dX_isApart_11 rfl ?_
    exact W.zret (v := (nI 1)) hx hb hr rfl (fun t ht hW => ⟨by unfold jAp; rw [decide_eq_true hc7]; rfl, ht⟩) (fun q h => by cases h) dX_isApart_15

set_option maxHeartbeats 4000000 in
set_option maxRecDepth 100000 in
theorem cX_isClose_c (l : Launch) (D : va_G) (A : Nat → Prop) (h a1 a2 a3 a4 : Nat) (cA : ClassId) (n us : Nat) (nb lo hi ho : Nat → Nat) (set : Nat) (hn : n ≤ 8) (hnb : ∀ v, v < n → nb v < 256)(hset : set < 256) : Rd l yX_isClose (Cond.code yX_isClose cX_isClose 3 (some FieldType.boolean) :: bw) (rmL 3) [.ref h, .int (nI set)] (gB D vwCl [(h, .inr (0, [.ref a1, .int (nI n), .ref a2, .ref a3, .ref a4, .int (nI us)])), (a1, .inl (cA, 8, .inl (fun j => nI (nb j)))), (a2, .inl (cA, 8, .inl (fun j => nI (lo j)))), (a3, .inl (cA, 8, .inl (fun j => nI (hi j)))), (a4, .inl (cA, 16, .inl (fun j => nI (ho j))))] [(cA, .int)]) ((bI (jCl nb set n))) := by
  refine Met.ofW (cc := cX_isClose) (maxL := 3) (ret := (some FieldType.boolean)) (by decide) rfl ?_
  intro p e s m args below meth c s₁ B9 hml hv
  obtain ⟨rfl, hP, hK⟩ := hv
  have hx := B9.exec
  have hb := B9.bytes
  have hr := B9.returns
  have hts := atoms_spec (ws := (Cond.code yX_isClose cX_isClose 3 (some FieldType.boolean) :: bw)) B9.pre
  have hw : ∀ w ∈ bw, w.before _ s = true := fun w h => hts w (List.mem_cons_of_mem _ h)
  have hown : s.vm.findClass RX = some m.cls := findClass_of_methodNamed B9.named
  have hlocks := B9.notSynchronized
  have hl := lv_entry ([.ref h, .int (nI set)]) (n := 3) (Nat.le_of_ble_eq_true rfl)
  rw [lg_entry_eq]
  generalize (lg_sl ([.ref h, .int (nI set)]) ++ List.replicate (3 - (lg_sl ([.ref h, .int (nI set)])).length) Slot.unset).toArray = ls at hl ⊢
  have hl : lv_has ls 3 [(0, .ref h), (1, .int (nI set))] := hl
  refine lv_iconst (v := nI 0) hx hb dX_isClose_0 (by decide) ?_
  refine lv_istore_n hx hb dX_isClose_1 rfl hl (by decide) (lv' := [(2, .int (nI 0)), (0, .ref h), (1, .int (nI set))]) rfl (fun ls hl => ?_)
  have L2 : ∀ (k9 : Nat) (i : Nat), k9 = n - i → i ≤ n → jCl nb set i = true → ∀ (ls : Array Slot), lv_has ls 3 [(2, .int (nI i)), (0, .ref h), (1, .int (nI set))] → W p l e (headSpec (Cond.code yX_isClose cX_isClose 3 (some FieldType.boolean) :: bw) (rmL 3)).room s m ([.ref h, .int (nI set)] : List Value).toArray below meth c s.heap [] 0 0 (MQ below (QcRead ((bI (jCl nb set n)))) ([.ref h, .int (nI set)] : List Value).toArray s 0 0 (fun _ => False)) (F0 m 2 ls []) := by
    intro k9
    induction k9 using Nat.strongRecOn with
    | _ k9 ih2 =>
      intro i hk9 hi9 hcl ls hl
      refine lv_iload_n hx hb dX_isClose_2 rfl (lv_at hl 0 rfl) ?_
      refine lv_aload_n hx hb dX_isClose_3 rfl (lv_at hl 1 rfl) ?_
      refine va_get (D := D) (ci := 0) (v := .int (nI n)) (C := RX) (T := TX) (N := 6) hx hb hw uX hown hK hP 0 rfl rfl 1 (by decide) (hw _ w1_20) (fun _ h9 => h9) rfl dX_isClose_4 ?_
      refine nv_icmp_ge (x := i) (y := n) (tgt := 46) hx hb dX_isClose_7 rfl (by omega) (by omega) (fun hc7 => ?_) (fun hc7 => ?_)
      · refine lv_iconst (v := nI 1) hx hb dX_isClose_46 (by decide) ?_
        exact W.zret (v := (nI 1)) hx hb hr rfl (fun t ht hW => ⟨by rw [← show i = n by omega, hcl]; rfl, ht⟩) (fun q h => by cases h) dX_isClose_47
      · refine lv_iload_n hx hb dX_isClose_10 rfl (lv_at hl 2 rfl) ?_
        refine lv_iload_n hx hb dX_isClose_11 rfl (lv_at hl 0 rfl) ?_
        refine nr_S (As := [.int (nI set), .int (nI i)]) (rest := []) ⟨hx, hb, hml, hown, hw⟩ (cX_has_c l set i (by omega) (by omega)) (va_cwS 2 hw (gS2 w1_72 w1_73 w1_1 w1_74) rfl rfl rfl ⟨by decide, by decide, by decide +kernel⟩ ⟨Nat.le_of_ble_eq_true rfl, Nat.le_of_ble_eq_true rfl⟩) gT_blind (gT_at _) rfl hl.1 rfl (Nat.le_of_ble_eq_true rfl) dX_isClose_12 ⟨Nat.zero_le _, Nat.zero_le _⟩ ?_
        refine nv_b_eq (x := set.testBit i) (tgt := 40) hx hb dX_isClose_15 rfl (fun hc15 => ?_) (fun hc15 => ?_)
        · refine lv_iinc (k := 0) hx hb dX_isClose_40 hl rfl (nb_inc _) (by decide) (lv' := [(2, .int (nI (i + 1))), (0, .ref h), (1, .int (nI set))]) rfl (fun ls hl => ?_)
          refine lv_goto (tgt := 2) hx hb dX_isClose_43 rfl ?_
          exact ih2 _ (by omega) (i + 1) rfl (by omega) (by first | exact cl_s1 hcl hc15 | exact cl_s2 hcl hc35) ls hl
        · refine lv_iload_n hx hb dX_isClose_18 rfl (lv_at hl 2 rfl) ?_
          refine lv_iload_n hx hb dX_isClose_19 rfl (lv_at hl 0 rfl) ?_
          refine nr_S (As := [.int (nI i)]) (rest := [.int (nI set)]) ⟨hx, hb, hml, hown, hw⟩ (cX_only_c l i (by omega)) (va_cwS 1 hw (gS2 w1_61 w1_62 w1_1 w1_63) rfl rfl rfl ⟨by decide, by decide, by decide +kernel⟩ ⟨Nat.le_of_ble_eq_true rfl, Nat.le_of_ble_eq_true rfl⟩) gT_blind (gT_at _) rfl hl.1 rfl (Nat.le_of_ble_eq_true rfl) dX_isClose_20 ⟨Nat.zero_le _, Nat.zero_le _⟩ ?_
          refine lv_iconst (v := nI 4294967295) hx hb dX_isClose_23 nb_m1 ?_
          refine nv_ixor (x := 2 ^ i) (y := 4294967295) hx hb dX_isClose_24 ?_
          refine nv_iand (x := set) (y := (2 ^ i) ^^^ 4294967295) hx hb dX_isClose_25 ?_
          refine lv_aload_n hx hb dX_isClose_26 rfl (lv_at hl 1 rfl) ?_
          refine va_get (D := D) (ci := 0) (v := .ref a1) (C := RX) (T := TX) (N := 6) hx hb hw uX hown hK hP 0 rfl rfl 0 (by decide) (hw _ w1_19) (fun _ h9 => h9) rfl dX_isClose_27 ?_
          refine lv_iload_n hx hb dX_isClose_30 rfl (lv_at hl 0 rfl) ?_
          refine nv_iald (i := i) (f := nb) hx hb hK hP 1 0 rfl rfl (by omega) (by omega) dX_isClose_31 ?_
          refine lv_iconst (v := nI 4294967295) hx hb dX_isClose_32 nb_m1 ?_
          refine nv_ixor (x := nb i) (y := 4294967295) hx hb dX_isClose_33 ?_
          refine nv_iand (x := set &&& ((2 ^ i) ^^^ 4294967295)) (y := (nb i) ^^^ 4294967295) hx hb dX_isClose_34 ?_
          have hq35 : (set &&& (2 ^ i ^^^ 4294967295)) &&& (nb i ^^^ 4294967295) < 2 ^ 32 := and_lt (and_lt (by omega))
          refine nv_if_eq (x := (set &&& ((2 ^ i) ^^^ 4294967295)) &&& ((nb i) ^^^ 4294967295)) (tgt := 40) hx hb dX_isClose_35 rfl (by omega) (fun hc35 => ?_) (fun hc35 => ?_)
          · refine lv_iinc (k := 0) hx hb dX_isClose_40 hl rfl (nb_inc _) (by decide) (lv' := [(2, .int (nI (i + 1))), (0, .ref h), (1, .int (nI set))]) rfl (fun ls hl => ?_)
            refine lv_goto (tgt := 2) hx hb dX_isClose_43 rfl ?_
            exact ih2 _ (by omega) (i + 1) rfl (by omega) (by first | exact cl_s1 hcl hc15 | exact cl_s2 hcl hc35) ls hl
          · refine lv_iconst (v := nI 0) hx hb dX_isClose_38 (by decide) ?_
            exact W.zret (v := (nI 0)) hx hb hr rfl (fun t ht hW => ⟨by rw [cl_no hc7 hc15 hc35]; rfl, ht⟩) (fun q h => by cases h) dX_isClose_39
  exact L2 _ 0 rfl (Nat.zero_le _) rfl ls hl

set_option maxHeartbeats 4000000 in
set_option maxRecDepth 100000 in
theorem cX_edges_c (l : Launch) (D : va_G) (A : Nat → Prop) (h a1 a2 a3 a4 : Nat) (cA : ClassId) (n us : Nat) (nb lo hi ho : Nat → Nat)  (hn : n ≤ 8) (hnb : ∀ v, v < n → nb v < 256) : Rd l yX_edges (Cond.code yX_edges cX_edges 3 (some FieldType.int) :: bw) (rmL 2) [.ref h] (gB D vwCl [(h, .inr (0, [.ref a1, .int (nI n), .ref a2, .ref a3, .ref a4, .int (nI us)])), (a1, .inl (cA, 8, .inl (fun j => nI (nb j)))), (a2, .inl (cA, 8, .inl (fun j => nI (lo j)))), (a3, .inl (cA, 8, .inl (fun j => nI (hi j)))), (a4, .inl (cA, 16, .inl (fun j => nI (ho j))))] [(cA, .int)]) ((nI (jSu nb n / 2))) := by
  refine Met.ofW (cc := cX_edges) (maxL := 3) (ret := (some FieldType.int)) (by decide) rfl ?_
  intro p e s m args below meth c s₁ B9 hml hv
  obtain ⟨rfl, hP, hK⟩ := hv
  have hx := B9.exec
  have hb := B9.bytes
  have hr := B9.returns
  have hts := atoms_spec (ws := (Cond.code yX_edges cX_edges 3 (some FieldType.int) :: bw)) B9.pre
  have hw : ∀ w ∈ bw, w.before _ s = true := fun w h => hts w (List.mem_cons_of_mem _ h)
  have hown : s.vm.findClass RX = some m.cls := findClass_of_methodNamed B9.named
  have hlocks := B9.notSynchronized
  have hl := lv_entry ([.ref h]) (n := 3) (Nat.le_of_ble_eq_true rfl)
  rw [lg_entry_eq]
  generalize (lg_sl ([.ref h]) ++ List.replicate (3 - (lg_sl ([.ref h])).length) Slot.unset).toArray = ls at hl ⊢
  have hl : lv_has ls 3 [(0, .ref h)] := hl
  refine lv_iconst (v := nI 0) hx hb dX_edges_0 (by decide) ?_
  refine lv_istore_n hx hb dX_edges_1 rfl hl (by decide) (lv' := [(1, .int (nI 0)), (0, .ref h)]) rfl (fun ls hl => ?_)
  refine lv_iconst (v := nI 0) hx hb dX_edges_2 (by decide) ?_
  refine lv_istore_n hx hb dX_edges_3 rfl hl (by decide) (lv' := [(2, .int (nI 0)), (1, .int (nI 0)), (0, .ref h)]) rfl (fun ls hl => ?_)
  have L4 : ∀ (k9 : Nat) (i : Nat), k9 = n - i → i ≤ n → ∀ (ls : Array Slot), lv_has ls 3 [(2, .int (nI i)), (1, .int (nI (jSu nb i))), (0, .ref h)] → W p l e (headSpec (Cond.code yX_edges cX_edges 3 (some FieldType.int) :: bw) (rmL 2)).room s m ([.ref h] : List Value).toArray below meth c s.heap [] 0 0 (MQ below (QcRead ((nI (jSu nb n / 2)))) ([.ref h] : List Value).toArray s 0 0 (fun _ => False)) (F0 m 4 ls []) := by
    intro k9
    induction k9 using Nat.strongRecOn with
    | _ k9 ih4 =>
      intro i hk9 hi9 ls hl
      refine lv_iload_n hx hb dX_edges_4 rfl (lv_at hl 0 rfl) ?_
      refine lv_aload_n hx hb dX_edges_5 rfl (lv_at hl 2 rfl) ?_
      refine va_get (D := D) (ci := 0) (v := .int (nI n)) (C := RX) (T := TX) (N := 6) hx hb hw uX hown hK hP 0 rfl rfl 1 (by decide) (hw _ w1_20) (fun _ h9 => h9) rfl dX_edges_6 ?_
      refine nv_icmp_ge (x := i) (y := n) (tgt := 30) hx hb dX_edges_9 rfl (by omega) (by omega) (fun hc9 => ?_) (fun hc9 => ?_)
      · refine lv_iload_n hx hb dX_edges_30 rfl (lv_at hl 1 rfl) ?_
        refine lv_iconst (v := nI 2) hx hb dX_edges_31 (by decide) ?_
        have hq32 := jSu_le (nb := nb) i
        refine nv_idiv (x := jSu nb i) (y := 2) hx hb dX_edges_32 (by omega) (by omega) (by omega) ?_
        exact W.iret (v := (nI ((jSu nb i) / 2))) hx hb hr (fun t ht hW => ⟨by rw [show i = n by omega], ht⟩) (fun q h => by cases h) dX_edges_33
      · refine lv_iload_n hx hb dX_edges_12 rfl (lv_at hl 1 rfl) ?_
        refine lv_aload_n hx hb dX_edges_13 rfl (lv_at hl 2 rfl) ?_
        refine va_get (D := D) (ci := 0) (v := .ref a1) (C := RX) (T := TX) (N := 6) hx hb hw uX hown hK hP 0 rfl rfl 0 (by decide) (hw _ w1_19) (fun _ h9 => h9) rfl dX_edges_14 ?_
        refine lv_iload_n hx hb dX_edges_17 rfl (lv_at hl 0 rfl) ?_
        refine nv_iald (i := i) (f := nb) hx hb hK hP 1 0 rfl rfl (by omega) (by omega) dX_edges_18 ?_
        have hq19 := hnb i hc9
        refine nr_S (As := [.int (nI (nb i))]) (rest := [.int (nI (jSu nb i))]) ⟨hx, hb, hml, hown, hw⟩ (cI_bitCount_c l (nb i) (by omega)) (va_cwS 1 hw (gS2 w1_47 w1_48 w1_9 w1_49) rfl rfl rfl ⟨by decide, by decide, by decide +kernel⟩ ⟨Nat.le_of_ble_eq_true rfl, Nat.le_of_ble_eq_true rfl⟩) gT_blind (gT_at _) rfl hl.1 rfl (Nat.le_of_ble_eq_true rfl) dX_edges_19 ⟨Nat.zero_le _, Nat.zero_le _⟩ ?_
        refine nv_iadd (x := jSu nb i) (y := pcN (nb i)) hx hb dX_edges_22 ?_
        refine lv_istore_n hx hb dX_edges_23 rfl hl (by decide) (lv' := [(1, .int (nI ((jSu nb i) + (pcN (nb i))))), (2, .int (nI i)), (0, .ref h)]) rfl (fun ls hl => ?_)
        refine lv_iinc (k := 1) hx hb dX_edges_24 hl rfl (nb_inc _) (by decide) (lv' := [(2, .int (nI (i + 1))), (1, .int (nI ((jSu nb i) + (pcN (nb i))))), (0, .ref h)]) rfl (fun ls hl => ?_)
        refine lv_goto (tgt := 4) hx hb dX_edges_27 rfl ?_
        exact ih4 _ (by omega) (i + 1) rfl (by omega) ls hl
  exact L4 _ 0 rfl (Nat.zero_le _) ls hl

set_option maxHeartbeats 4000000 in
set_option maxRecDepth 100000 in
theorem cX_apart_c (l : Launch) (D : va_G) (A : Nat → Prop) (h a1 a2 a3 a4 : Nat) (cA : ClassId) (n us : Nat) (nb lo hi ho : Nat → Nat)  (hn : n ≤ 8) (hnb : ∀ v, v < n → nb v < 256) : Rd l yX_apart (Cond.code yX_apart cX_apart 3 (some FieldType.int) :: bw) (rmL 5) [.ref h] (gB D vwCl [(h, .inr (0, [.ref a1, .int (nI n), .ref a2, .ref a3, .ref a4, .int (nI us)])), (a1, .inl (cA, 8, .inl (fun j => nI (nb j)))), (a2, .inl (cA, 8, .inl (fun j => nI (lo j)))), (a3, .inl (cA, 8, .inl (fun j => nI (hi j)))), (a4, .inl (cA, 16, .inl (fun j => nI (ho j))))] [(cA, .int)]) ((nI (jBest (jAp nb n) (2 ^ n)))) := by
  refine Met.ofW (cc := cX_apart) (maxL := 3) (ret := (some FieldType.int)) (by decide) rfl ?_
  intro p e s m args below meth c s₁ B9 hml hv
  obtain ⟨rfl, hP, hK⟩ := hv
  have hx := B9.exec
  have hb := B9.bytes
  have hr := B9.returns
  have hts := atoms_spec (ws := (Cond.code yX_apart cX_apart 3 (some FieldType.int) :: bw)) B9.pre
  have hw : ∀ w ∈ bw, w.before _ s = true := fun w h => hts w (List.mem_cons_of_mem _ h)
  have hown : s.vm.findClass RX = some m.cls := findClass_of_methodNamed B9.named
  have hlocks := B9.notSynchronized
  have hl := lv_entry ([.ref h]) (n := 3) (Nat.le_of_ble_eq_true rfl)
  rw [lg_entry_eq]
  generalize (lg_sl ([.ref h]) ++ List.replicate (3 - (lg_sl ([.ref h])).length) Slot.unset).toArray = ls at hl ⊢
  have hl : lv_has ls 3 [(0, .ref h)] := hl
  have hp := pw_8 hn
  have hp0 := Nat.two_pow_pos n
  refine lv_iconst (v := nI 0) hx hb dX_apart_0 (by decide) ?_
  refine lv_istore_n hx hb dX_apart_1 rfl hl (by decide) (lv' := [(1, .int (nI 0)), (0, .ref h)]) rfl (fun ls hl => ?_)
  refine lv_iconst (v := nI 0) hx hb dX_apart_2 (by decide) ?_
  refine lv_istore_n hx hb dX_apart_3 rfl hl (by decide) (lv' := [(2, .int (nI 0)), (1, .int (nI 0)), (0, .ref h)]) rfl (fun ls hl => ?_)
  have L4 : ∀ (k9 : Nat) (i : Nat), k9 = 2 ^ n + 1 - i → i ≤ 2 ^ n → ∀ (ls : Array Slot), lv_has ls 3 [(2, .int (nI i)), (1, .int (nI (jBest (jAp nb n) i))), (0, .ref h)] → W p l e (headSpec (Cond.code yX_apart cX_apart 3 (some FieldType.int) :: bw) (rmL 5)).room s m ([.ref h] : List Value).toArray below meth c s.heap [] 0 0 (MQ below (QcRead ((nI (jBest (jAp nb n) (2 ^ n))))) ([.ref h] : List Value).toArray s 0 0 (fun _ => False)) (F0 m 4 ls []) := by
    intro k9
    induction k9 using Nat.strongRecOn with
    | _ k9 ih4 =>
      intro i hk9 hi9 ls hl
      refine lv_iload_n hx hb dX_apart_4 rfl (lv_at hl 0 rfl) ?_
      refine lv_aload_n hx hb dX_apart_5 rfl (lv_at hl 2 rfl) ?_
      refine nr_V (b := h) (As := []) (C := RX) (rest := [.int (nI i)]) ⟨hx, hb, hml, hown, hw⟩ (cX_all_c l D A h a1 a2 a3 a4 cA n us nb lo hi ho (by omega)) (cwV 0 hw (gV w1_57 w1_59 w0_0 w1_1 w1_60) rfl rfl rfl ⟨rfl, by decide, by decide, by decide +kernel⟩ ⟨Nat.le_of_ble_eq_true rfl, Nat.le_of_ble_eq_true rfl⟩) gB_blind (va_recv (q0 := 0) (ci := 0) hK hP rfl rfl) (gB_at hP hK _) rfl hl.1 rfl (Nat.le_of_ble_eq_true rfl) dX_apart_6 ⟨Nat.zero_le _, Nat.zero_le _⟩ ?_
      refine nv_icmp_gt (x := i) (y := 2 ^ n - 1) (tgt := 39) hx hb dX_apart_9 rfl (by omega) (by omega) (fun hc9 => ?_) (fun hc9 => ?_)
      · refine lv_iload_n hx hb dX_apart_39 rfl (lv_at hl 1 rfl) ?_
        exact W.iret (v := (nI (jBest (jAp nb n) i))) hx hb hr (fun t ht hW => ⟨by rw [show i = 2 ^ n by omega], ht⟩) (fun q h => by cases h) dX_apart_40
      · have hq12 := jBest_lt (P := jAp nb n) i (by omega)
        refine lv_iload_n hx hb dX_apart_12 rfl (lv_at hl 0 rfl) ?_
        refine nr_S (As := [.int (nI i)]) (rest := []) ⟨hx, hb, hml, hown, hw⟩ (cI_bitCount_c l i (by omega)) (va_cwS 1 hw (gS2 w1_47 w1_48 w1_9 w1_49) rfl rfl rfl ⟨by decide, by decide, by decide +kernel⟩ ⟨Nat.le_of_ble_eq_true rfl, Nat.le_of_ble_eq_true rfl⟩) gT_blind (gT_at _) rfl hl.1 rfl (Nat.le_of_ble_eq_true rfl) dX_apart_13 ⟨Nat.zero_le _, Nat.zero_le _⟩ ?_
        refine lv_iload_n hx hb dX_apart_16 rfl (lv_at hl 1 rfl) ?_
        refine nr_S (As := [.int (nI (jBest (jAp nb n) i))]) (rest := [.int (nI (pcN i))]) ⟨hx, hb, hml, hown, hw⟩ (cI_bitCount_c l (jBest (jAp nb n) i) (by omega)) (va_cwS 1 hw (gS2 w1_47 w1_48 w1_9 w1_49) rfl rfl rfl ⟨by decide, by decide, by decide +kernel⟩ ⟨Nat.le_of_ble_eq_true rfl, Nat.le_of_ble_eq_true rfl⟩) gT_blind (gT_at _) rfl hl.1 rfl (Nat.le_of_ble_eq_true rfl) dX_apart_17 ⟨Nat.zero_le _, Nat.zero_le _⟩ ?_
        have hq20 := pcN_le i
        have hq21 := pcN_le (jBest (jAp nb n) i)
        refine nv_icmp_le (x := pcN i) (y := pcN (jBest (jAp nb n) i)) (tgt := 33) hx hb dX_apart_20 rfl (by omega) (by omega) (fun hc20 => ?_) (fun hc20 => ?_)
        · refine lv_iinc (k := 0) hx hb dX_apart_33 hl rfl (nb_inc _) (by decide) (lv' := [(2, .int (nI (i + 1))), (1, .int (nI (jBest (jAp nb n) i))), (0, .ref h)]) rfl (fun ls hl => ?_)
          refine lv_goto (tgt := 4) hx hb dX_apart_36 rfl ?_
          have e9 : jBest (jAp nb n) (i + 1) = jBest (jAp nb n) i := if_neg (fun h9 => by first | exact absurd h9.1 (Nat.not_lt.mpr hc20) | exact Bool.false_ne_true (hc28.symm.trans h9.2))
          have hl : lv_has ls 3 [(2, .int (nI (i + 1))), (1, .int (nI (jBest (jAp nb n) (i + 1)))), (0, .ref h)] := by rw [e9]; exact hl
          exact ih4 _ (by omega) (i + 1) rfl (by omega) ls hl
        · refine lv_aload_n hx hb dX_apart_23 rfl (lv_at hl 2 rfl) ?_
          refine lv_iload_n hx hb dX_apart_24 rfl (lv_at hl 0 rfl) ?_
          refine nr_V (b := h) (As := [.int (nI i)]) (C := RX) (rest := []) ⟨hx, hb, hml, hown, hw⟩ (cX_isApart_c l D A h a1 a2 a3 a4 cA n us nb lo hi ho i hn hnb (by omega)) (cwV 1 hw (gV w1_97 w1_99 w0_6 w1_1 w1_100) rfl rfl rfl ⟨rfl, by decide, by decide, by decide +kernel⟩ ⟨Nat.le_of_ble_eq_true rfl, Nat.le_of_ble_eq_true rfl⟩) gB_blind (va_recv (q0 := 0) (ci := 0) hK hP rfl rfl) (gB_at hP hK _) rfl hl.1 rfl (Nat.le_of_ble_eq_true rfl) dX_apart_25 ⟨Nat.zero_le _, Nat.zero_le _⟩ ?_
          refine nv_b_eq (x := jAp nb n i) (tgt := 33) hx hb dX_apart_28 rfl (fun hc28 => ?_) (fun hc28 => ?_)
          · refine lv_iinc (k := 0) hx hb dX_apart_33 hl rfl (nb_inc _) (by decide) (lv' := [(2, .int (nI (i + 1))), (1, .int (nI (jBest (jAp nb n) i))), (0, .ref h)]) rfl (fun ls hl => ?_)
            refine lv_goto (tgt := 4) hx hb dX_apart_36 rfl ?_
            have e9 : jBest (jAp nb n) (i + 1) = jBest (jAp nb n) i := if_neg (fun h9 => by first | exact absurd h9.1 (Nat.not_lt.mpr hc20) | exact Bool.false_ne_true (hc28.symm.trans h9.2))
            have hl : lv_has ls 3 [(2, .int (nI (i + 1))), (1, .int (nI (jBest (jAp nb n) (i + 1)))), (0, .ref h)] := by rw [e9]; exact hl
            exact ih4 _ (by omega) (i + 1) rfl (by omega) ls hl
          · refine lv_iload_n hx hb dX_apart_31 rfl (lv_at hl 0 rfl) ?_
            refine lv_istore_n hx hb dX_apart_32 rfl hl (by decide) (lv' := [(1, .int (nI i)), (2, .int (nI i)), (0, .ref h)]) rfl (fun ls hl => ?_)
            refine lv_iinc (k := 1) hx hb dX_apart_33 hl rfl (nb_inc _) (by decide) (lv' := [(2, .int (nI (i + 1))), (1, .int (nI i)), (0, .ref h)]) rfl (fun ls hl => ?_)
            refine lv_goto (tgt := 4) hx hb dX_apart_36 rfl ?_
            have e9 : jBest (jAp nb n) (i + 1) = i := if_pos ⟨hc20, hc28⟩
            have hl : lv_has ls 3 [(2, .int (nI (i + 1))), (1, .int (nI (jBest (jAp nb n) (i + 1)))), (0, .ref h)] := by rw [e9]; exact hl
            exact ih4 _ (by omega) (i + 1) rfl (by omega) ls hl
  exact L4 _ 0 rfl (Nat.zero_le _) ls hl

set_option maxHeartbeats 4000000 in
set_option maxRecDepth 100000 in
theorem cX_close_c (l : Launch) (D : va_G) (A : Nat → Prop) (h a1 a2 a3 a4 : Nat) (cA : ClassId) (n us : Nat) (nb lo hi ho : Nat → Nat)  (hn : n ≤ 8) (hnb : ∀ v, v < n → nb v < 256) : Rd l yX_close (Cond.code yX_close cX_close 3 (some FieldType.int) :: bw) (rmL 5) [.ref h] (gB D vwCl [(h, .inr (0, [.ref a1, .int (nI n), .ref a2, .ref a3, .ref a4, .int (nI us)])), (a1, .inl (cA, 8, .inl (fun j => nI (nb j)))), (a2, .inl (cA, 8, .inl (fun j => nI (lo j)))), (a3, .inl (cA, 8, .inl (fun j => nI (hi j)))), (a4, .inl (cA, 16, .inl (fun j => nI (ho j))))] [(cA, .int)]) ((nI (jBest (fun set => jCl nb set n) (2 ^ n)))) := by
  refine Met.ofW (cc := cX_close) (maxL := 3) (ret := (some FieldType.int)) (by decide) rfl ?_
  intro p e s m args below meth c s₁ B9 hml hv
  obtain ⟨rfl, hP, hK⟩ := hv
  have hx := B9.exec
  have hb := B9.bytes
  have hr := B9.returns
  have hts := atoms_spec (ws := (Cond.code yX_close cX_close 3 (some FieldType.int) :: bw)) B9.pre
  have hw : ∀ w ∈ bw, w.before _ s = true := fun w h => hts w (List.mem_cons_of_mem _ h)
  have hown : s.vm.findClass RX = some m.cls := findClass_of_methodNamed B9.named
  have hlocks := B9.notSynchronized
  have hl := lv_entry ([.ref h]) (n := 3) (Nat.le_of_ble_eq_true rfl)
  rw [lg_entry_eq]
  generalize (lg_sl ([.ref h]) ++ List.replicate (3 - (lg_sl ([.ref h])).length) Slot.unset).toArray = ls at hl ⊢
  have hl : lv_has ls 3 [(0, .ref h)] := hl
  have hp := pw_8 hn
  have hp0 := Nat.two_pow_pos n
  refine lv_iconst (v := nI 0) hx hb dX_close_0 (by decide) ?_
  refine lv_istore_n hx hb dX_close_1 rfl hl (by decide) (lv' := [(1, .int (nI 0)), (0, .ref h)]) rfl (fun ls hl => ?_)
  refine lv_iconst (v := nI 0) hx hb dX_close_2 (by decide) ?_
  refine lv_istore_n hx hb dX_close_3 rfl hl (by decide) (lv' := [(2, .int (nI 0)), (1, .int (nI 0)), (0, .ref h)]) rfl (fun ls hl => ?_)
  have L4 : ∀ (k9 : Nat) (i : Nat), k9 = 2 ^ n + 1 - i → i ≤ 2 ^ n → ∀ (ls : Array Slot), lv_has ls 3 [(2, .int (nI i)), (1, .int (nI (jBest (fun set => jCl nb set n) i))), (0, .ref h)] → W p l e (headSpec (Cond.code yX_close cX_close 3 (some FieldType.int) :: bw) (rmL 5)).room s m ([.ref h] : List Value).toArray below meth c s.heap [] 0 0 (MQ below (QcRead ((nI (jBest (fun set => jCl nb set n) (2 ^ n))))) ([.ref h] : List Value).toArray s 0 0 (fun _ => False)) (F0 m 4 ls []) := by
    intro k9
    induction k9 using Nat.strongRecOn with
    | _ k9 ih4 =>
      intro i hk9 hi9 ls hl
      refine lv_iload_n hx hb dX_close_4 rfl (lv_at hl 0 rfl) ?_
      refine lv_aload_n hx hb dX_close_5 rfl (lv_at hl 2 rfl) ?_
      refine nr_V (b := h) (As := []) (C := RX) (rest := [.int (nI i)]) ⟨hx, hb, hml, hown, hw⟩ (cX_all_c l D A h a1 a2 a3 a4 cA n us nb lo hi ho (by omega)) (cwV 0 hw (gV w1_57 w1_59 w0_0 w1_1 w1_60) rfl rfl rfl ⟨rfl, by decide, by decide, by decide +kernel⟩ ⟨Nat.le_of_ble_eq_true rfl, Nat.le_of_ble_eq_true rfl⟩) gB_blind (va_recv (q0 := 0) (ci := 0) hK hP rfl rfl) (gB_at hP hK _) rfl hl.1 rfl (Nat.le_of_ble_eq_true rfl) dX_close_6 ⟨Nat.zero_le _, Nat.zero_le _⟩ ?_
      refine nv_icmp_gt (x := i) (y := 2 ^ n - 1) (tgt := 39) hx hb dX_close_9 rfl (by omega) (by omega) (fun hc9 => ?_) (fun hc9 => ?_)
      · refine lv_iload_n hx hb dX_close_39 rfl (lv_at hl 1 rfl) ?_
        exact W.iret (v := (nI (jBest (fun set => jCl nb set n) i))) hx hb hr (fun t ht hW => ⟨by rw [show i = 2 ^ n by omega], ht⟩) (fun q h => by cases h) dX_close_40
      · have hq12 := jBest_lt (P := fun set => jCl nb set n) i (by omega)
        refine lv_iload_n hx hb dX_close_12 rfl (lv_at hl 0 rfl) ?_
        refine nr_S (As := [.int (nI i)]) (rest := []) ⟨hx, hb, hml, hown, hw⟩ (cI_bitCount_c l i (by omega)) (va_cwS 1 hw (gS2 w1_47 w1_48 w1_9 w1_49) rfl rfl rfl ⟨by decide, by decide, by decide +kernel⟩ ⟨Nat.le_of_ble_eq_true rfl, Nat.le_of_ble_eq_true rfl⟩) gT_blind (gT_at _) rfl hl.1 rfl (Nat.le_of_ble_eq_true rfl) dX_close_13 ⟨Nat.zero_le _, Nat.zero_le _⟩ ?_
        refine lv_iload_n hx hb dX_close_16 rfl (lv_at hl 1 rfl) ?_
        refine nr_S (As := [.int (nI (jBest (fun set => jCl nb set n) i))]) (rest := [.int (nI (pcN i))]) ⟨hx, hb, hml, hown, hw⟩ (cI_bitCount_c l (jBest (fun set => jCl nb set n) i) (by omega)) (va_cwS 1 hw (gS2 w1_47 w1_48 w1_9 w1_49) rfl rfl rfl ⟨by decide, by decide, by decide +kernel⟩ ⟨Nat.le_of_ble_eq_true rfl, Nat.le_of_ble_eq_true rfl⟩) gT_blind (gT_at _) rfl hl.1 rfl (Nat.le_of_ble_eq_true rfl) dX_close_17 ⟨Nat.zero_le _, Nat.zero_le _⟩ ?_
        have hq20 := pcN_le i
        have hq21 := pcN_le (jBest (fun set => jCl nb set n) i)
        refine nv_icmp_le (x := pcN i) (y := pcN (jBest (fun set => jCl nb set n) i)) (tgt := 33) hx hb dX_close_20 rfl (by omega) (by omega) (fun hc20 => ?_) (fun hc20 => ?_)
        · refine lv_iinc (k := 0) hx hb dX_close_33 hl rfl (nb_inc _) (by decide) (lv' := [(2, .int (nI (i + 1))), (1, .int (nI (jBest (fun set => jCl nb set n) i))), (0, .ref h)]) rfl (fun ls hl => ?_)
          refine lv_goto (tgt := 4) hx hb dX_close_36 rfl ?_
          have e9 : jBest (fun set => jCl nb set n) (i + 1) = jBest (fun set => jCl nb set n) i := if_neg (fun h9 => by first | exact absurd h9.1 (Nat.not_lt.mpr hc20) | exact Bool.false_ne_true (hc28.symm.trans h9.2))
          have hl : lv_has ls 3 [(2, .int (nI (i + 1))), (1, .int (nI (jBest (fun set => jCl nb set n) (i + 1)))), (0, .ref h)] := by rw [e9]; exact hl
          exact ih4 _ (by omega) (i + 1) rfl (by omega) ls hl
        · refine lv_aload_n hx hb dX_close_23 rfl (lv_at hl 2 rfl) ?_
          refine lv_iload_n hx hb dX_close_24 rfl (lv_at hl 0 rfl) ?_
          refine nr_V (b := h) (As := [.int (nI i)]) (C := RX) (rest := []) ⟨hx, hb, hml, hown, hw⟩ (cX_isClose_c l D A h a1 a2 a3 a4 cA n us nb lo hi ho i hn hnb (by omega)) (cwV 1 hw (gV w1_109 w1_111 w0_8 w1_1 w1_112) rfl rfl rfl ⟨rfl, by decide, by decide, by decide +kernel⟩ ⟨Nat.le_of_ble_eq_true rfl, Nat.le_of_ble_eq_true rfl⟩) gB_blind (va_recv (q0 := 0) (ci := 0) hK hP rfl rfl) (gB_at hP hK _) rfl hl.1 rfl (Nat.le_of_ble_eq_true rfl) dX_close_25 ⟨Nat.zero_le _, Nat.zero_le _⟩ ?_
          refine nv_b_eq (x := jCl nb i n) (tgt := 33) hx hb dX_close_28 rfl (fun hc28 => ?_) (fun hc28 => ?_)
          · refine lv_iinc (k := 0) hx hb dX_close_33 hl rfl (nb_inc _) (by decide) (lv' := [(2, .int (nI (i + 1))), (1, .int (nI (jBest (fun set => jCl nb set n) i))), (0, .ref h)]) rfl (fun ls hl => ?_)
            refine lv_goto (tgt := 4) hx hb dX_close_36 rfl ?_
            have e9 : jBest (fun set => jCl nb set n) (i + 1) = jBest (fun set => jCl nb set n) i := if_neg (fun h9 => by first | exact absurd h9.1 (Nat.not_lt.mpr hc20) | exact Bool.false_ne_true (hc28.symm.trans h9.2))
            have hl : lv_has ls 3 [(2, .int (nI (i + 1))), (1, .int (nI (jBest (fun set => jCl nb set n) (i + 1)))), (0, .ref h)] := by rw [e9]; exact hl
            exact ih4 _ (by omega) (i + 1) rfl (by omega) ls hl
          · refine lv_iload_n hx hb dX_close_31 rfl (lv_at hl 0 rfl) ?_
            refine lv_istore_n hx hb dX_close_32 rfl hl (by decide) (lv' := [(1, .int (nI i)), (2, .int (nI i)), (0, .ref h)]) rfl (fun ls hl => ?_)
            refine lv_iinc (k := 1) hx hb dX_close_33 hl rfl (nb_inc _) (by decide) (lv' := [(2, .int (nI (i + 1))), (1, .int (nI i)), (0, .ref h)]) rfl (fun ls hl => ?_)
            refine lv_goto (tgt := 4) hx hb dX_close_36 rfl ?_
            have e9 : jBest (fun set => jCl nb set n) (i + 1) = i := if_pos ⟨hc20, hc28⟩
            have hl : lv_has ls 3 [(2, .int (nI (i + 1))), (1, .int (nI (jBest (fun set => jCl nb set n) (i + 1)))), (0, .ref h)] := by rw [e9]; exact hl
            exact ih4 _ (by omega) (i + 1) rfl (by omega) ls hl
  exact L4 _ 0 rfl (Nat.zero_le _) ls hl

set_option maxHeartbeats 4000000 in
set_option maxRecDepth 100000 in
theorem cX_pairOf_c (l : Launch) (D : va_G) (A : Nat → Prop) (h a1 a2 a3 a4 : Nat) (cA : ClassId) (n us : Nat) (nb lo hi ho : Nat → Nat) (v : Nat) (hv : v < 8) (h1 : lo v < 16) (h2 : hi v < 16) : Rd l yX_pairOf (Cond.code yX_pairOf cX_pairOf 2 (some FieldType.int) :: bw) (rmL 2) [.ref h, .int (nI v)] (gB D vwCl [(h, .inr (0, [.ref a1, .int (nI n), .ref a2, .ref a3, .ref a4, .int (nI us)])), (a1, .inl (cA, 8, .inl (fun j => nI (nb j)))), (a2, .inl (cA, 8, .inl (fun j => nI (lo j)))), (a3, .inl (cA, 8, .inl (fun j => nI (hi j)))), (a4, .inl (cA, 16, .inl (fun j => nI (ho j))))] [(cA, .int)]) ((nI (jPa lo hi v))) := by
  refine Met.ofW (cc := cX_pairOf) (maxL := 2) (ret := (some FieldType.int)) (by decide) rfl ?_
  intro p e s m args below meth c s₁ B9 hml hv
  obtain ⟨rfl, hP, hK⟩ := hv
  have hx := B9.exec
  have hb := B9.bytes
  have hr := B9.returns
  have hts := atoms_spec (ws := (Cond.code yX_pairOf cX_pairOf 2 (some FieldType.int) :: bw)) B9.pre
  have hw : ∀ w ∈ bw, w.before _ s = true := fun w h => hts w (List.mem_cons_of_mem _ h)
  have hown : s.vm.findClass RX = some m.cls := findClass_of_methodNamed B9.named
  have hlocks := B9.notSynchronized
  have hl := lv_entry ([.ref h, .int (nI v)]) (n := 2) (Nat.le_of_ble_eq_true rfl)
  rw [lg_entry_eq]
  generalize (lg_sl ([.ref h, .int (nI v)]) ++ List.replicate (2 - (lg_sl ([.ref h, .int (nI v)])).length) Slot.unset).toArray = ls at hl ⊢
  have hl : lv_has ls 2 [(0, .ref h), (1, .int (nI v))] := hl
  refine lv_aload_n hx hb dX_pairOf_0 rfl (lv_at hl 0 rfl) ?_
  refine va_get (D := D) (ci := 0) (v := .ref a2) (C := RX) (T := TX) (N := 6) hx hb hw uX hown hK hP 0 rfl rfl 2 (by decide) (hw _ w1_21) (fun _ h9 => h9) rfl dX_pairOf_1 ?_
  refine lv_iload_n hx hb dX_pairOf_4 rfl (lv_at hl 1 rfl) ?_
  refine nv_iald (i := v) (f := lo) hx hb hK hP 2 0 rfl rfl (by omega) (by omega) dX_pairOf_5 ?_
  refine nr_S (As := [.int (nI (lo v))]) (rest := []) ⟨hx, hb, hml, hown, hw⟩ (cX_only_c l (lo v) (by omega)) (va_cwS 1 hw (gS2 w1_61 w1_62 w1_1 w1_63) rfl rfl rfl ⟨by decide, by decide, by decide +kernel⟩ ⟨Nat.le_of_ble_eq_true rfl, Nat.le_of_ble_eq_true rfl⟩) gT_blind (gT_at _) rfl hl.1 rfl (Nat.le_of_ble_eq_true rfl) dX_pairOf_6 ⟨Nat.zero_le _, Nat.zero_le _⟩ ?_
  refine lv_aload_n hx hb dX_pairOf_9 rfl (lv_at hl 0 rfl) ?_
  refine va_get (D := D) (ci := 0) (v := .ref a3) (C := RX) (T := TX) (N := 6) hx hb hw uX hown hK hP 0 rfl rfl 3 (by decide) (hw _ w1_22) (fun _ h9 => h9) rfl dX_pairOf_10 ?_
  refine lv_iload_n hx hb dX_pairOf_13 rfl (lv_at hl 1 rfl) ?_
  refine nv_iald (i := v) (f := hi) hx hb hK hP 3 0 rfl rfl (by omega) (by omega) dX_pairOf_14 ?_
  refine nr_S (As := [.int (nI (hi v))]) (rest := [.int (nI (2 ^ (lo v)))]) ⟨hx, hb, hml, hown, hw⟩ (cX_only_c l (hi v) (by omega)) (va_cwS 1 hw (gS2 w1_61 w1_62 w1_1 w1_63) rfl rfl rfl ⟨by decide, by decide, by decide +kernel⟩ ⟨Nat.le_of_ble_eq_true rfl, Nat.le_of_ble_eq_true rfl⟩) gT_blind (gT_at _) rfl hl.1 rfl (Nat.le_of_ble_eq_true rfl) dX_pairOf_15 ⟨Nat.zero_le _, Nat.zero_le _⟩ ?_
  refine nv_ior (x := 2 ^ (lo v)) (y := 2 ^ (hi v)) hx hb dX_pairOf_18 ?_
  exact W.iret (v := (nI ((2 ^ (lo v)) ||| (2 ^ (hi v))))) hx hb hr (fun t ht hW => ⟨rfl, ht⟩) (fun q h => by cases h) dX_pairOf_19

set_option maxHeartbeats 4000000 in
set_option maxRecDepth 100000 in
theorem cX_endsOf_c (l : Launch) (D : va_G) (A : Nat → Prop) (h a1 a2 a3 a4 : Nat) (cA : ClassId) (n us : Nat) (nb lo hi ho : Nat → Nat) (set : Nat) (hn : n ≤ 8)(hlh : ∀ v, v < n → lo v < 16 ∧ hi v < 16)(hset : set < 256) : Rd l yX_endsOf (Cond.code yX_endsOf cX_endsOf 4 (some FieldType.int) :: bw) (rmL 3) [.ref h, .int (nI set)] (gB D vwCl [(h, .inr (0, [.ref a1, .int (nI n), .ref a2, .ref a3, .ref a4, .int (nI us)])), (a1, .inl (cA, 8, .inl (fun j => nI (nb j)))), (a2, .inl (cA, 8, .inl (fun j => nI (lo j)))), (a3, .inl (cA, 8, .inl (fun j => nI (hi j)))), (a4, .inl (cA, 16, .inl (fun j => nI (ho j))))] [(cA, .int)]) ((nI (jEn lo hi set n))) := by
  refine Met.ofW (cc := cX_endsOf) (maxL := 4) (ret := (some FieldType.int)) (by decide) rfl ?_
  intro p e s m args below meth c s₁ B9 hml hv
  obtain ⟨rfl, hP, hK⟩ := hv
  have hx := B9.exec
  have hb := B9.bytes
  have hr := B9.returns
  have hts := atoms_spec (ws := (Cond.code yX_endsOf cX_endsOf 4 (some FieldType.int) :: bw)) B9.pre
  have hw : ∀ w ∈ bw, w.before _ s = true := fun w h => hts w (List.mem_cons_of_mem _ h)
  have hown : s.vm.findClass RX = some m.cls := findClass_of_methodNamed B9.named
  have hlocks := B9.notSynchronized
  have hl := lv_entry ([.ref h, .int (nI set)]) (n := 4) (Nat.le_of_ble_eq_true rfl)
  rw [lg_entry_eq]
  generalize (lg_sl ([.ref h, .int (nI set)]) ++ List.replicate (4 - (lg_sl ([.ref h, .int (nI set)])).length) Slot.unset).toArray = ls at hl ⊢
  have hl : lv_has ls 4 [(0, .ref h), (1, .int (nI set))] := hl
  refine lv_iconst (v := nI 0) hx hb dX_endsOf_0 (by decide) ?_
  refine lv_istore_n hx hb dX_endsOf_1 rfl hl (by decide) (lv' := [(2, .int (nI 0)), (0, .ref h), (1, .int (nI set))]) rfl (fun ls hl => ?_)
  refine lv_iconst (v := nI 0) hx hb dX_endsOf_2 (by decide) ?_
  refine lv_istore_n hx hb dX_endsOf_3 rfl hl (by decide) (lv' := [(3, .int (nI 0)), (2, .int (nI 0)), (0, .ref h), (1, .int (nI set))]) rfl (fun ls hl => ?_)
  have L4 : ∀ (k9 : Nat) (i : Nat), k9 = n - i → i ≤ n → ∀ (ls : Array Slot), lv_has ls 4 [(3, .int (nI i)), (2, .int (nI (jEn lo hi set i))), (0, .ref h), (1, .int (nI set))] → W p l e (headSpec (Cond.code yX_endsOf cX_endsOf 4 (some FieldType.int) :: bw) (rmL 3)).room s m ([.ref h, .int (nI set)] : List Value).toArray below meth c s.heap [] 0 0 (MQ below (QcRead ((nI (jEn lo hi set n)))) ([.ref h, .int (nI set)] : List Value).toArray s 0 0 (fun _ => False)) (F0 m 4 ls []) := by
    intro k9
    induction k9 using Nat.strongRecOn with
    | _ k9 ih4 =>
      intro i hk9 hi9 ls hl
      refine lv_iload_n hx hb dX_endsOf_4 rfl (lv_at hl 0 rfl) ?_
      refine lv_aload_n hx hb dX_endsOf_5 rfl (lv_at hl 2 rfl) ?_
      refine va_get (D := D) (ci := 0) (v := .int (nI n)) (C := RX) (T := TX) (N := 6) hx hb hw uX hown hK hP 0 rfl rfl 1 (by decide) (hw _ w1_20) (fun _ h9 => h9) rfl dX_endsOf_6 ?_
      refine nv_icmp_ge (x := i) (y := n) (tgt := 34) hx hb dX_endsOf_9 rfl (by omega) (by omega) (fun hc9 => ?_) (fun hc9 => ?_)
      · refine lv_iload_n hx hb dX_endsOf_34 rfl (lv_at hl 1 rfl) ?_
        exact W.iret (v := (nI (jEn lo hi set i))) hx hb hr (fun t ht hW => ⟨by rw [show i = n by omega], ht⟩) (fun q h => by cases h) dX_endsOf_35
      · refine lv_iload_n hx hb dX_endsOf_12 rfl (lv_at hl 3 rfl) ?_
        refine lv_iload_n hx hb dX_endsOf_13 rfl (lv_at hl 0 rfl) ?_
        refine nr_S (As := [.int (nI set), .int (nI i)]) (rest := []) ⟨hx, hb, hml, hown, hw⟩ (cX_has_c l set i (by omega) (by omega)) (va_cwS 2 hw (gS2 w1_72 w1_73 w1_1 w1_74) rfl rfl rfl ⟨by decide, by decide, by decide +kernel⟩ ⟨Nat.le_of_ble_eq_true rfl, Nat.le_of_ble_eq_true rfl⟩) gT_blind (gT_at _) rfl hl.1 rfl (Nat.le_of_ble_eq_true rfl) dX_endsOf_14 ⟨Nat.zero_le _, Nat.zero_le _⟩ ?_
        refine nv_b_eq (x := set.testBit i) (tgt := 28) hx hb dX_endsOf_17 rfl (fun hc17 => ?_) (fun hc17 => ?_)
        · refine lv_iinc (k := 0) hx hb dX_endsOf_28 hl rfl (nb_inc _) (by decide) (lv' := [(3, .int (nI (i + 1))), (2, .int (nI (jEn lo hi set i))), (0, .ref h), (1, .int (nI set))]) rfl (fun ls hl => ?_)
          refine lv_goto (tgt := 4) hx hb dX_endsOf_31 rfl ?_
          have e9 : jEn lo hi set (i + 1) = jEn lo hi set i := if_neg (by rw [hc17]; exact Bool.false_ne_true)
          have hl : lv_has ls 4 [(3, .int (nI (i + 1))), (2, .int (nI (jEn lo hi set (i + 1)))), (0, .ref h), (1, .int (nI set))] := by rw [e9]; exact hl
          exact ih4 _ (by omega) (i + 1) rfl (by omega) ls hl
        · refine lv_iload_n hx hb dX_endsOf_20 rfl (lv_at hl 1 rfl) ?_
          refine lv_aload_n hx hb dX_endsOf_21 rfl (lv_at hl 2 rfl) ?_
          refine lv_iload_n hx hb dX_endsOf_22 rfl (lv_at hl 0 rfl) ?_
          refine nr_V (b := h) (As := [.int (nI i)]) (C := RX) (rest := [.int (nI (jEn lo hi set i))]) ⟨hx, hb, hml, hown, hw⟩ (cX_pairOf_c l D A h a1 a2 a3 a4 cA n us nb lo hi ho i (by omega) (hlh _ (by omega)).1 (hlh _ (by omega)).2) (cwV 1 hw (gV w2_81 w2_83 w0_15 w1_1 w2_84) rfl rfl rfl ⟨rfl, by decide, by decide, by decide +kernel⟩ ⟨Nat.le_of_ble_eq_true rfl, Nat.le_of_ble_eq_true rfl⟩) gB_blind (va_recv (q0 := 0) (ci := 0) hK hP rfl rfl) (gB_at hP hK _) rfl hl.1 rfl (Nat.le_of_ble_eq_true rfl) dX_endsOf_23 ⟨Nat.zero_le _, Nat.zero_le _⟩ ?_
          refine nv_ior (x := jEn lo hi set i) (y := jPa lo hi i) hx hb dX_endsOf_26 ?_
          refine lv_istore_n hx hb dX_endsOf_27 rfl hl (by decide) (lv' := [(2, .int (nI ((jEn lo hi set i) ||| (jPa lo hi i)))), (3, .int (nI i)), (0, .ref h), (1, .int (nI set))]) rfl (fun ls hl => ?_)
          refine lv_iinc (k := 1) hx hb dX_endsOf_28 hl rfl (nb_inc _) (by decide) (lv' := [(3, .int (nI (i + 1))), (2, .int (nI ((jEn lo hi set i) ||| (jPa lo hi i)))), (0, .ref h), (1, .int (nI set))]) rfl (fun ls hl => ?_)
          refine lv_goto (tgt := 4) hx hb dX_endsOf_31 rfl ?_
          have e9 : jEn lo hi set (i + 1) = jEn lo hi set i ||| jPa lo hi i := if_pos hc17
          have hl : lv_has ls 4 [(3, .int (nI (i + 1))), (2, .int (nI (jEn lo hi set (i + 1)))), (0, .ref h), (1, .int (nI set))] := by rw [e9]; exact hl
          exact ih4 _ (by omega) (i + 1) rfl (by omega) ls hl
  exact L4 _ 0 rfl (Nat.zero_le _) ls hl

set_option maxHeartbeats 4000000 in
set_option maxRecDepth 100000 in
theorem cX_looseEnds_c (l : Launch) (D : va_G) (A : Nat → Prop) (h a1 a2 a3 a4 : Nat) (cA : ClassId) (n us : Nat) (nb lo hi ho : Nat → Nat)  (hn : n ≤ 8) (hnb : ∀ v, v < n → nb v < 256)(hlh : ∀ v, v < n → lo v < 16 ∧ hi v < 16)(hu : us ≤ 16) : Rd l yX_looseEnds (Cond.code yX_looseEnds cX_looseEnds 5 (some FieldType.int) :: bw) (rmL 6) [.ref h] (gB D vwCl [(h, .inr (0, [.ref a1, .int (nI n), .ref a2, .ref a3, .ref a4, .int (nI us)])), (a1, .inl (cA, 8, .inl (fun j => nI (nb j)))), (a2, .inl (cA, 8, .inl (fun j => nI (lo j)))), (a3, .inl (cA, 8, .inl (fun j => nI (hi j)))), (a4, .inl (cA, 16, .inl (fun j => nI (ho j))))] [(cA, .int)]) ((nI (jLo nb lo hi n us (pcN (jBest (jAp nb n) (2 ^ n))) (2 ^ n)))) := by
  refine Met.ofW (cc := cX_looseEnds) (maxL := 5) (ret := (some FieldType.int)) (by decide) rfl ?_
  intro p e s m args below meth c s₁ B9 hml hv
  obtain ⟨rfl, hP, hK⟩ := hv
  have hx := B9.exec
  have hb := B9.bytes
  have hr := B9.returns
  have hts := atoms_spec (ws := (Cond.code yX_looseEnds cX_looseEnds 5 (some FieldType.int) :: bw)) B9.pre
  have hw : ∀ w ∈ bw, w.before _ s = true := fun w h => hts w (List.mem_cons_of_mem _ h)
  have hown : s.vm.findClass RX = some m.cls := findClass_of_methodNamed B9.named
  have hlocks := B9.notSynchronized
  have hl := lv_entry ([.ref h]) (n := 5) (Nat.le_of_ble_eq_true rfl)
  rw [lg_entry_eq]
  generalize (lg_sl ([.ref h]) ++ List.replicate (5 - (lg_sl ([.ref h])).length) Slot.unset).toArray = ls at hl ⊢
  have hl : lv_has ls 5 [(0, .ref h)] := hl
  have hp := pw_8 hn
  have hp0 := Nat.two_pow_pos n
  have hu0 := Nat.two_pow_pos us
  have hu1 : 2 ^ us ≤ 2 ^ 16 := pw_le hu
  have hb0 := jBest_lt (P := jAp nb n) (2 ^ n) (by omega)
  have hb1 := pcN_le (jBest (jAp nb n) (2 ^ n))
  refine lv_aload_n hx hb dX_looseEnds_0 rfl (lv_at hl 0 rfl) ?_
  refine nr_V (b := h) (As := []) (C := RX) (rest := []) ⟨hx, hb, hml, hown, hw⟩ (cX_apart_c l D A h a1 a2 a3 a4 cA n us nb lo hi ho hn hnb) (cwV 0 hw (gV w2_76 w1_94 w1_95 w1_1 w1_96) rfl rfl rfl ⟨rfl, by decide, by decide, by decide +kernel⟩ ⟨Nat.le_of_ble_eq_true rfl, Nat.le_of_ble_eq_true rfl⟩) gB_blind (va_recv (q0 := 0) (ci := 0) hK hP rfl rfl) (gB_at hP hK _) rfl hl.1 rfl (Nat.le_of_ble_eq_true rfl) dX_looseEnds_1 ⟨Nat.zero_le _, Nat.zero_le _⟩ ?_
  refine nr_S (As := [.int (nI (jBest (jAp nb n) (2 ^ n)))]) (rest := []) ⟨hx, hb, hml, hown, hw⟩ (cI_bitCount_c l (jBest (jAp nb n) (2 ^ n)) (by omega)) (va_cwS 1 hw (gS2 w1_47 w1_48 w1_9 w1_49) rfl rfl rfl ⟨by decide, by decide, by decide +kernel⟩ ⟨Nat.le_of_ble_eq_true rfl, Nat.le_of_ble_eq_true rfl⟩) gT_blind (gT_at _) rfl hl.1 rfl (Nat.le_of_ble_eq_true rfl) dX_looseEnds_4 ⟨Nat.zero_le _, Nat.zero_le _⟩ ?_
  refine lv_istore_n hx hb dX_looseEnds_7 rfl hl (by decide) (lv' := [(1, .int (nI (pcN (jBest (jAp nb n) (2 ^ n))))), (0, .ref h)]) rfl (fun ls hl => ?_)
  refine lv_aload_n hx hb dX_looseEnds_8 rfl (lv_at hl 1 rfl) ?_
  refine va_get (D := D) (ci := 0) (v := .int (nI us)) (C := RX) (T := TX) (N := 6) hx hb hw uX hown hK hP 0 rfl rfl 5 (by decide) (hw _ w1_24) (fun _ h9 => h9) rfl dX_looseEnds_9 ?_
  refine nr_S (As := [.int (nI us)]) (rest := []) ⟨hx, hb, hml, hown, hw⟩ (cX_only_c l us (by omega)) (va_cwS 1 hw (gS2 w1_61 w1_62 w1_1 w1_63) rfl rfl rfl ⟨by decide, by decide, by decide +kernel⟩ ⟨Nat.le_of_ble_eq_true rfl, Nat.le_of_ble_eq_true rfl⟩) gT_blind (gT_at _) rfl hl.1 rfl (Nat.le_of_ble_eq_true rfl) dX_looseEnds_12 ⟨Nat.zero_le _, Nat.zero_le _⟩ ?_
  refine lv_iconst (v := nI 1) hx hb dX_looseEnds_15 (by decide) ?_
  refine nv_isub (x := 2 ^ us) (y := 1) hx hb dX_looseEnds_16 (by omega) ?_
  refine lv_istore_n hx hb dX_looseEnds_17 rfl hl (by decide) (lv' := [(2, .int (nI ((2 ^ us) - 1))), (1, .int (nI (pcN (jBest (jAp nb n) (2 ^ n))))), (0, .ref h)]) rfl (fun ls hl => ?_)
  refine lv_iconst (v := nI 0) hx hb dX_looseEnds_18 (by decide) ?_
  refine lv_istore_n hx hb dX_looseEnds_19 rfl hl (by decide) (lv' := [(3, .int (nI 0)), (2, .int (nI ((2 ^ us) - 1))), (1, .int (nI (pcN (jBest (jAp nb n) (2 ^ n))))), (0, .ref h)]) rfl (fun ls hl => ?_)
  refine lv_iconst (v := nI 0) hx hb dX_looseEnds_20 (by decide) ?_
  refine lv_istore hx hb dX_looseEnds_21 hl (by decide) (lv' := [(4, .int (nI 0)), (3, .int (nI 0)), (2, .int (nI ((2 ^ us) - 1))), (1, .int (nI (pcN (jBest (jAp nb n) (2 ^ n))))), (0, .ref h)]) rfl (fun ls hl => ?_)
  have L23 : ∀ (k9 : Nat) (i : Nat), k9 = 2 ^ n + 1 - i → i ≤ 2 ^ n → ∀ (ls : Array Slot), lv_has ls 5 [(4, .int (nI i)), (3, .int (nI (jLo nb lo hi n us (pcN (jBest (jAp nb n) (2 ^ n))) i))), (2, .int (nI (2 ^ us - 1))), (1, .int (nI (pcN (jBest (jAp nb n) (2 ^ n))))), (0, .ref h)] → W p l e (headSpec (Cond.code yX_looseEnds cX_looseEnds 5 (some FieldType.int) :: bw) (rmL 6)).room s m ([.ref h] : List Value).toArray below meth c s.heap [] 0 0 (MQ below (QcRead ((nI (jLo nb lo hi n us (pcN (jBest (jAp nb n) (2 ^ n))) (2 ^ n))))) ([.ref h] : List Value).toArray s 0 0 (fun _ => False)) (F0 m 23 ls []) := by
    intro k9
    induction k9 using Nat.strongRecOn with
    | _ k9 ih23 =>
      intro i hk9 hi9 ls hl
      refine lv_iload hx hb dX_looseEnds_23 (lv_at hl 0 rfl) ?_
      refine lv_aload_n hx hb dX_looseEnds_25 rfl (lv_at hl 4 rfl) ?_
      refine nr_V (b := h) (As := []) (C := RX) (rest := [.int (nI i)]) ⟨hx, hb, hml, hown, hw⟩ (cX_all_c l D A h a1 a2 a3 a4 cA n us nb lo hi ho (by omega)) (cwV 0 hw (gV w1_57 w1_59 w0_0 w1_1 w1_60) rfl rfl rfl ⟨rfl, by decide, by decide, by decide +kernel⟩ ⟨Nat.le_of_ble_eq_true rfl, Nat.le_of_ble_eq_true rfl⟩) gB_blind (va_recv (q0 := 0) (ci := 0) hK hP rfl rfl) (gB_at hP hK _) rfl hl.1 rfl (Nat.le_of_ble_eq_true rfl) dX_looseEnds_26 ⟨Nat.zero_le _, Nat.zero_le _⟩ ?_
      refine nv_icmp_gt (x := i) (y := 2 ^ n - 1) (tgt := 69) hx hb dX_looseEnds_29 rfl (by omega) (by omega) (fun hc29 => ?_) (fun hc29 => ?_)
      · refine lv_iload_n hx hb dX_looseEnds_69 rfl (lv_at hl 1 rfl) ?_
        exact W.iret (v := (nI (jLo nb lo hi n us (pcN (jBest (jAp nb n) (2 ^ n))) i))) hx hb hr (fun t ht hW => ⟨by rw [show i = 2 ^ n by omega], ht⟩) (fun q h => by cases h) dX_looseEnds_70
      · refine lv_iload hx hb dX_looseEnds_32 (lv_at hl 0 rfl) ?_
        refine nr_S (As := [.int (nI i)]) (rest := []) ⟨hx, hb, hml, hown, hw⟩ (cI_bitCount_c l i (by omega)) (va_cwS 1 hw (gS2 w1_47 w1_48 w1_9 w1_49) rfl rfl rfl ⟨by decide, by decide, by decide +kernel⟩ ⟨Nat.le_of_ble_eq_true rfl, Nat.le_of_ble_eq_true rfl⟩) gT_blind (gT_at _) rfl hl.1 rfl (Nat.le_of_ble_eq_true rfl) dX_looseEnds_34 ⟨Nat.zero_le _, Nat.zero_le _⟩ ?_
        refine lv_iload_n hx hb dX_looseEnds_37 rfl (lv_at hl 3 rfl) ?_
        have hq38 := pcN_le i
        refine nv_icmp_ne (x := pcN i) (y := pcN (jBest (jAp nb n) (2 ^ n))) (tgt := 63) hx hb dX_looseEnds_38 rfl (by omega) (by omega) (fun hc38 => ?_) (fun hc38 => ?_)
        · refine lv_iinc (k := 0) hx hb dX_looseEnds_63 hl rfl (nb_inc _) (by decide) (lv' := [(4, .int (nI (i + 1))), (3, .int (nI (jLo nb lo hi n us (pcN (jBest (jAp nb n) (2 ^ n))) i))), (2, .int (nI (2 ^ us - 1))), (1, .int (nI (pcN (jBest (jAp nb n) (2 ^ n))))), (0, .ref h)]) rfl (fun ls hl => ?_)
          refine lv_goto (tgt := 23) hx hb dX_looseEnds_66 rfl ?_
          have e9 : jLo nb lo hi n us (pcN (jBest (jAp nb n) (2 ^ n))) (i + 1) = jLo nb lo hi n us (pcN (jBest (jAp nb n) (2 ^ n))) i := if_neg (fun h9 => by first | exact absurd h9.1 hc38 | (have h8 := h9.2; rw [hc47] at h8; exact absurd h8 (by decide)))
          have hl : lv_has ls 5 [(4, .int (nI (i + 1))), (3, .int (nI (jLo nb lo hi n us (pcN (jBest (jAp nb n) (2 ^ n))) (i + 1)))), (2, .int (nI (2 ^ us - 1))), (1, .int (nI (pcN (jBest (jAp nb n) (2 ^ n))))), (0, .ref h)] := by rw [e9]; exact hl
          exact ih23 _ (by omega) (i + 1) rfl (by omega) ls hl
        · refine lv_aload_n hx hb dX_looseEnds_41 rfl (lv_at hl 4 rfl) ?_
          refine lv_iload hx hb dX_looseEnds_42 (lv_at hl 0 rfl) ?_
          refine nr_V (b := h) (As := [.int (nI i)]) (C := RX) (rest := []) ⟨hx, hb, hml, hown, hw⟩ (cX_isApart_c l D A h a1 a2 a3 a4 cA n us nb lo hi ho i hn hnb (by omega)) (cwV 1 hw (gV w1_97 w1_99 w0_6 w1_1 w1_100) rfl rfl rfl ⟨rfl, by decide, by decide, by decide +kernel⟩ ⟨Nat.le_of_ble_eq_true rfl, Nat.le_of_ble_eq_true rfl⟩) gB_blind (va_recv (q0 := 0) (ci := 0) hK hP rfl rfl) (gB_at hP hK _) rfl hl.1 rfl (Nat.le_of_ble_eq_true rfl) dX_looseEnds_44 ⟨Nat.zero_le _, Nat.zero_le _⟩ ?_
          refine nv_b_eq (x := jAp nb n i) (tgt := 63) hx hb dX_looseEnds_47 rfl (fun hc47 => ?_) (fun hc47 => ?_)
          · refine lv_iinc (k := 0) hx hb dX_looseEnds_63 hl rfl (nb_inc _) (by decide) (lv' := [(4, .int (nI (i + 1))), (3, .int (nI (jLo nb lo hi n us (pcN (jBest (jAp nb n) (2 ^ n))) i))), (2, .int (nI (2 ^ us - 1))), (1, .int (nI (pcN (jBest (jAp nb n) (2 ^ n))))), (0, .ref h)]) rfl (fun ls hl => ?_)
            refine lv_goto (tgt := 23) hx hb dX_looseEnds_66 rfl ?_
            have e9 : jLo nb lo hi n us (pcN (jBest (jAp nb n) (2 ^ n))) (i + 1) = jLo nb lo hi n us (pcN (jBest (jAp nb n) (2 ^ n))) i := if_neg (fun h9 => by first | exact absurd h9.1 hc38 | (have h8 := h9.2; rw [hc47] at h8; exact absurd h8 (by decide)))
            have hl : lv_has ls 5 [(4, .int (nI (i + 1))), (3, .int (nI (jLo nb lo hi n us (pcN (jBest (jAp nb n) (2 ^ n))) (i + 1)))), (2, .int (nI (2 ^ us - 1))), (1, .int (nI (pcN (jBest (jAp nb n) (2 ^ n))))), (0, .ref h)] := by rw [e9]; exact hl
            exact ih23 _ (by omega) (i + 1) rfl (by omega) ls hl
          · refine lv_iload_n hx hb dX_looseEnds_50 rfl (lv_at hl 1 rfl) ?_
            refine lv_iload_n hx hb dX_looseEnds_51 rfl (lv_at hl 2 rfl) ?_
            refine lv_aload_n hx hb dX_looseEnds_52 rfl (lv_at hl 4 rfl) ?_
            refine lv_iload hx hb dX_looseEnds_53 (lv_at hl 0 rfl) ?_
            refine nr_V (b := h) (As := [.int (nI i)]) (C := RX) (rest := [.int (nI (2 ^ us - 1)), .int (nI (jLo nb lo hi n us (pcN (jBest (jAp nb n) (2 ^ n))) i))]) ⟨hx, hb, hml, hown, hw⟩ (cX_endsOf_c l D A h a1 a2 a3 a4 cA n us nb lo hi ho i hn hlh (by omega)) (cwV 1 hw (gV w2_77 w2_79 w0_14 w1_1 w2_80) rfl rfl rfl ⟨rfl, by decide, by decide, by decide +kernel⟩ ⟨Nat.le_of_ble_eq_true rfl, Nat.le_of_ble_eq_true rfl⟩) gB_blind (va_recv (q0 := 0) (ci := 0) hK hP rfl rfl) (gB_at hP hK _) rfl hl.1 rfl (Nat.le_of_ble_eq_true rfl) dX_looseEnds_55 ⟨Nat.zero_le _, Nat.zero_le _⟩ ?_
            refine lv_iconst (v := nI 4294967295) hx hb dX_looseEnds_58 nb_m1 ?_
            refine nv_ixor (x := jEn lo hi i n) (y := 4294967295) hx hb dX_looseEnds_59 ?_
            refine nv_iand (x := 2 ^ us - 1) (y := (jEn lo hi i n) ^^^ 4294967295) hx hb dX_looseEnds_60 ?_
            refine nv_ior (x := jLo nb lo hi n us (pcN (jBest (jAp nb n) (2 ^ n))) i) (y := (2 ^ us - 1) &&& ((jEn lo hi i n) ^^^ 4294967295)) hx hb dX_looseEnds_61 ?_
            refine lv_istore_n hx hb dX_looseEnds_62 rfl hl (by decide) (lv' := [(3, .int (nI ((jLo nb lo hi n us (pcN (jBest (jAp nb n) (2 ^ n))) i) ||| ((2 ^ us - 1) &&& ((jEn lo hi i n) ^^^ 4294967295))))), (4, .int (nI i)), (2, .int (nI (2 ^ us - 1))), (1, .int (nI (pcN (jBest (jAp nb n) (2 ^ n))))), (0, .ref h)]) rfl (fun ls hl => ?_)
            refine lv_iinc (k := 1) hx hb dX_looseEnds_63 hl rfl (nb_inc _) (by decide) (lv' := [(4, .int (nI (i + 1))), (3, .int (nI ((jLo nb lo hi n us (pcN (jBest (jAp nb n) (2 ^ n))) i) ||| ((2 ^ us - 1) &&& ((jEn lo hi i n) ^^^ 4294967295))))), (2, .int (nI (2 ^ us - 1))), (1, .int (nI (pcN (jBest (jAp nb n) (2 ^ n))))), (0, .ref h)]) rfl (fun ls hl => ?_)
            refine lv_goto (tgt := 23) hx hb dX_looseEnds_66 rfl ?_
            have e9 : jLo nb lo hi n us (pcN (jBest (jAp nb n) (2 ^ n))) (i + 1) = jLo nb lo hi n us (pcN (jBest (jAp nb n) (2 ^ n))) i ||| ((2 ^ us - 1) &&& ntN (jEn lo hi i n)) := if_pos ⟨hc38, hc47⟩
            have hl : lv_has ls 5 [(4, .int (nI (i + 1))), (3, .int (nI (jLo nb lo hi n us (pcN (jBest (jAp nb n) (2 ^ n))) (i + 1)))), (2, .int (nI (2 ^ us - 1))), (1, .int (nI (pcN (jBest (jAp nb n) (2 ^ n))))), (0, .ref h)] := by rw [e9]; exact hl
            exact ih23 _ (by omega) (i + 1) rfl (by omega) ls hl
  exact L23 _ 0 rfl (Nat.zero_le _) ls hl
